section
-- ===== PART A: goes FIRST, ahead of the names: the tables' words, and 'selects' of the private methods out of them =====
/-- a private method of a class that the tables say can be made, by its rows of tables_1 -/
def lw_okq (q : MethodName × Nat) : Prop := (q.1.cls ≠ "java/lang/invoke/MethodHandle" ∧ q.1.cls ≠ "java/lang/invoke/VarHandle") ∧ Cond.instantiable q.1.cls q.2 ∈ tables_1 ∧ Cond.privateMethod q.1 ∈ tables_1 ∧ Cond.instanceMethod q.1 ∈ tables_1
theorem lw_p0 : lw_okq (⟨"LockTurns$Tape", "valueNumber", "()V"⟩, 6) := ⟨⟨by decide +kernel, by decide +kernel⟩, List.mem_of_getElem? (i := 76) (by decide +kernel), List.mem_of_getElem? (i := 297) (by decide +kernel), List.mem_of_getElem? (i := 298) (by decide +kernel)⟩
theorem lw_p1 : lw_okq (⟨"LockTurns$Teller", "takeLine", "()Z"⟩, 5) := ⟨⟨by decide +kernel, by decide +kernel⟩, List.mem_of_getElem? (i := 107) (by decide +kernel), List.mem_of_getElem? (i := 301) (by decide +kernel), List.mem_of_getElem? (i := 302) (by decide +kernel)⟩
theorem lw_p2 : lw_okq (⟨"LockTurns$Teller", "takeBoat", "(I)Z"⟩, 5) := ⟨⟨by decide +kernel, by decide +kernel⟩, List.mem_of_getElem? (i := 107) (by decide +kernel), List.mem_of_getElem? (i := 358) (by decide +kernel), List.mem_of_getElem? (i := 359) (by decide +kernel)⟩
theorem lw_p3 : lw_okq (⟨"LockTurns$Teller", "blameToken", "(I)Z"⟩, 5) := ⟨⟨by decide +kernel, by decide +kernel⟩, List.mem_of_getElem? (i := 107) (by decide +kernel), List.mem_of_getElem? (i := 362) (by decide +kernel), List.mem_of_getElem? (i := 363) (by decide +kernel)⟩
theorem lw_p4 : lw_okq (⟨"LockTurns$Teller", "blame", "(II)Z"⟩, 5) := ⟨⟨by decide +kernel, by decide +kernel⟩, List.mem_of_getElem? (i := 107) (by decide +kernel), List.mem_of_getElem? (i := 366) (by decide +kernel), List.mem_of_getElem? (i := 367) (by decide +kernel)⟩
theorem lw_p5 : lw_okq (⟨"LockTurns$Teller", "takeCargo", "(I)Z"⟩, 5) := ⟨⟨by decide +kernel, by decide +kernel⟩, List.mem_of_getElem? (i := 107) (by decide +kernel), List.mem_of_getElem? (i := 374) (by decide +kernel), List.mem_of_getElem? (i := 375) (by decide +kernel)⟩
theorem lw_p6 : lw_okq (⟨"LockTurns$Teller", "takeNumber", "(II)Z"⟩, 5) := ⟨⟨by decide +kernel, by decide +kernel⟩, List.mem_of_getElem? (i := 107) (by decide +kernel), List.mem_of_getElem? (i := 384) (by decide +kernel), List.mem_of_getElem? (i := 385) (by decide +kernel)⟩
theorem lw_p7 : lw_okq (⟨"LockTurns$Teller", "takeStop", "()Z"⟩, 5) := ⟨⟨by decide +kernel, by decide +kernel⟩, List.mem_of_getElem? (i := 107) (by decide +kernel), List.mem_of_getElem? (i := 389) (by decide +kernel), List.mem_of_getElem? (i := 390) (by decide +kernel)⟩
theorem lw_p8 : lw_okq (⟨"LockTurns$Teller", "takeLiar", "()Z"⟩, 5) := ⟨⟨by decide +kernel, by decide +kernel⟩, List.mem_of_getElem? (i := 107) (by decide +kernel), List.mem_of_getElem? (i := 395) (by decide +kernel), List.mem_of_getElem? (i := 396) (by decide +kernel)⟩
theorem lw_p9 : lw_okq (⟨"LockTurns$Teller", "isFirst", "(I)Z"⟩, 5) := ⟨⟨by decide +kernel, by decide +kernel⟩, List.mem_of_getElem? (i := 107) (by decide +kernel), List.mem_of_getElem? (i := 400) (by decide +kernel), List.mem_of_getElem? (i := 401) (by decide +kernel)⟩
theorem lw_p10 : lw_okq (⟨"LockTurns$Teller", "takeRules", "(II)Z"⟩, 5) := ⟨⟨by decide +kernel, by decide +kernel⟩, List.mem_of_getElem? (i := 107) (by decide +kernel), List.mem_of_getElem? (i := 404) (by decide +kernel), List.mem_of_getElem? (i := 405) (by decide +kernel)⟩
theorem lw_p11 : lw_okq (⟨"LockTurns$Teller", "takeLaw", "()Z"⟩, 5) := ⟨⟨by decide +kernel, by decide +kernel⟩, List.mem_of_getElem? (i := 107) (by decide +kernel), List.mem_of_getElem? (i := 413) (by decide +kernel), List.mem_of_getElem? (i := 414) (by decide +kernel)⟩
theorem lw_p12 : lw_okq (⟨"LockTurns", "isBoat", "(I)Z"⟩, 12) := ⟨⟨by decide +kernel, by decide +kernel⟩, List.mem_of_getElem? (i := 18) (by decide +kernel), List.mem_of_getElem? (i := 440) (by decide +kernel), List.mem_of_getElem? (i := 441) (by decide +kernel)⟩
theorem lw_p13 : lw_okq (⟨"LockTurns", "runAsTold", "(LLockTurns$Lock;)V"⟩, 12) := ⟨⟨by decide +kernel, by decide +kernel⟩, List.mem_of_getElem? (i := 18) (by decide +kernel), List.mem_of_getElem? (i := 483) (by decide +kernel), List.mem_of_getElem? (i := 484) (by decide +kernel)⟩
theorem lw_p14 : lw_okq (⟨"LockTurns$Day", "begin", "(LLockTurns$Lock;)V"⟩, 13) := ⟨⟨by decide +kernel, by decide +kernel⟩, List.mem_of_getElem? (i := 133) (by decide +kernel), List.mem_of_getElem? (i := 491) (by decide +kernel), List.mem_of_getElem? (i := 492) (by decide +kernel)⟩
theorem lw_p15 : lw_okq (⟨"LockTurns$Day", "waitForOne", "(I)V"⟩, 13) := ⟨⟨by decide +kernel, by decide +kernel⟩, List.mem_of_getElem? (i := 133) (by decide +kernel), List.mem_of_getElem? (i := 497) (by decide +kernel), List.mem_of_getElem? (i := 498) (by decide +kernel)⟩
def lw_privs_1 : List (MethodName × Nat) := [(⟨"LockTurns$Tape", "valueNumber", "()V"⟩, 6), (⟨"LockTurns$Teller", "takeLine", "()Z"⟩, 5), (⟨"LockTurns$Teller", "takeBoat", "(I)Z"⟩, 5), (⟨"LockTurns$Teller", "blameToken", "(I)Z"⟩, 5), (⟨"LockTurns$Teller", "blame", "(II)Z"⟩, 5), (⟨"LockTurns$Teller", "takeCargo", "(I)Z"⟩, 5), (⟨"LockTurns$Teller", "takeNumber", "(II)Z"⟩, 5), (⟨"LockTurns$Teller", "takeStop", "()Z"⟩, 5), (⟨"LockTurns$Teller", "takeLiar", "()Z"⟩, 5), (⟨"LockTurns$Teller", "isFirst", "(I)Z"⟩, 5), (⟨"LockTurns$Teller", "takeRules", "(II)Z"⟩, 5), (⟨"LockTurns$Teller", "takeLaw", "()Z"⟩, 5), (⟨"LockTurns", "isBoat", "(I)Z"⟩, 12), (⟨"LockTurns", "runAsTold", "(LLockTurns$Lock;)V"⟩, 12), (⟨"LockTurns$Day", "begin", "(LLockTurns$Lock;)V"⟩, 13), (⟨"LockTurns$Day", "waitForOne", "(I)V"⟩, 13)]
theorem lw_r1 : ∀ q ∈ lw_privs_1, lw_okq q := List.forall_mem_cons.mpr ⟨lw_p0, List.forall_mem_cons.mpr ⟨lw_p1, List.forall_mem_cons.mpr ⟨lw_p2, List.forall_mem_cons.mpr ⟨lw_p3, List.forall_mem_cons.mpr ⟨lw_p4, List.forall_mem_cons.mpr ⟨lw_p5, List.forall_mem_cons.mpr ⟨lw_p6, List.forall_mem_cons.mpr ⟨lw_p7, List.forall_mem_cons.mpr ⟨lw_p8, List.forall_mem_cons.mpr ⟨lw_p9, List.forall_mem_cons.mpr ⟨lw_p10, List.forall_mem_cons.mpr ⟨lw_p11, List.forall_mem_cons.mpr ⟨lw_p12, List.forall_mem_cons.mpr ⟨lw_p13, List.forall_mem_cons.mpr ⟨lw_p14, List.forall_mem_cons.mpr ⟨lw_p15, fun _ h => absurd h List.not_mem_nil⟩⟩⟩⟩⟩⟩⟩⟩⟩⟩⟩⟩⟩⟩⟩⟩
theorem lw_p16 : lw_okq (⟨"LockTurns$Day", "sideAhead", "(LLockTurns$Lock;I)I"⟩, 13) := ⟨⟨by decide +kernel, by decide +kernel⟩, List.mem_of_getElem? (i := 133) (by decide +kernel), List.mem_of_getElem? (i := 506) (by decide +kernel), List.mem_of_getElem? (i := 507) (by decide +kernel)⟩
theorem lw_p17 : lw_okq (⟨"LockTurns$Day", "sideByTwos", "(LLockTurns$Lock;)I"⟩, 13) := ⟨⟨by decide +kernel, by decide +kernel⟩, List.mem_of_getElem? (i := 133) (by decide +kernel), List.mem_of_getElem? (i := 510) (by decide +kernel), List.mem_of_getElem? (i := 511) (by decide +kernel)⟩
theorem lw_p18 : lw_okq (⟨"LockTurns$Day", "sideByQueue", "(LLockTurns$Lock;)I"⟩, 13) := ⟨⟨by decide +kernel, by decide +kernel⟩, List.mem_of_getElem? (i := 133) (by decide +kernel), List.mem_of_getElem? (i := 515) (by decide +kernel), List.mem_of_getElem? (i := 516) (by decide +kernel)⟩
theorem lw_p19 : lw_okq (⟨"LockTurns$Day", "waits", "(I)Z"⟩, 13) := ⟨⟨by decide +kernel, by decide +kernel⟩, List.mem_of_getElem? (i := 133) (by decide +kernel), List.mem_of_getElem? (i := 519) (by decide +kernel), List.mem_of_getElem? (i := 520) (by decide +kernel)⟩
theorem lw_p20 : lw_okq (⟨"LockTurns$Day", "chosen", "(LLockTurns$Lock;II)I"⟩, 13) := ⟨⟨by decide +kernel, by decide +kernel⟩, List.mem_of_getElem? (i := 133) (by decide +kernel), List.mem_of_getElem? (i := 523) (by decide +kernel), List.mem_of_getElem? (i := 524) (by decide +kernel)⟩
theorem lw_p21 : lw_okq (⟨"LockTurns$Day", "rank", "(LLockTurns$Lock;III)I"⟩, 13) := ⟨⟨by decide +kernel, by decide +kernel⟩, List.mem_of_getElem? (i := 133) (by decide +kernel), List.mem_of_getElem? (i := 527) (by decide +kernel), List.mem_of_getElem? (i := 528) (by decide +kernel)⟩
theorem lw_p22 : lw_okq (⟨"LockTurns$Day", "admit", "(LLockTurns$Lock;I)V"⟩, 13) := ⟨⟨by decide +kernel, by decide +kernel⟩, List.mem_of_getElem? (i := 133) (by decide +kernel), List.mem_of_getElem? (i := 531) (by decide +kernel), List.mem_of_getElem? (i := 532) (by decide +kernel)⟩
theorem lw_p23 : lw_okq (⟨"LockTurns$Plan", "seek", "(LLockTurns$Lock;IIIII)V"⟩, 3) := ⟨⟨by decide +kernel, by decide +kernel⟩, List.mem_of_getElem? (i := 183) (by decide +kernel), List.mem_of_getElem? (i := 581) (by decide +kernel), List.mem_of_getElem? (i := 582) (by decide +kernel)⟩
theorem lw_p24 : lw_okq (⟨"LockTurns", "gained", "(II)I"⟩, 12) := ⟨⟨by decide +kernel, by decide +kernel⟩, List.mem_of_getElem? (i := 18) (by decide +kernel), List.mem_of_getElem? (i := 597) (by decide +kernel), List.mem_of_getElem? (i := 598) (by decide +kernel)⟩
theorem lw_p25 : lw_okq (⟨"LockTurns", "isCalm", "(I)Z"⟩, 12) := ⟨⟨by decide +kernel, by decide +kernel⟩, List.mem_of_getElem? (i := 18) (by decide +kernel), List.mem_of_getElem? (i := 608) (by decide +kernel), List.mem_of_getElem? (i := 609) (by decide +kernel)⟩
theorem lw_p26 : lw_okq (⟨"LockTurns", "fillStoodBySet", "(I)V"⟩, 12) := ⟨⟨by decide +kernel, by decide +kernel⟩, List.mem_of_getElem? (i := 18) (by decide +kernel), List.mem_of_getElem? (i := 616) (by decide +kernel), List.mem_of_getElem? (i := 617) (by decide +kernel)⟩
theorem lw_p27 : lw_okq (⟨"LockTurns", "liarSets", "()I"⟩, 12) := ⟨⟨by decide +kernel, by decide +kernel⟩, List.mem_of_getElem? (i := 18) (by decide +kernel), List.mem_of_getElem? (i := 620) (by decide +kernel), List.mem_of_getElem? (i := 621) (by decide +kernel)⟩
theorem lw_p28 : lw_okq (⟨"LockTurns", "isRest", "(I)Z"⟩, 12) := ⟨⟨by decide +kernel, by decide +kernel⟩, List.mem_of_getElem? (i := 18) (by decide +kernel), List.mem_of_getElem? (i := 625) (by decide +kernel), List.mem_of_getElem? (i := 626) (by decide +kernel)⟩
theorem lw_p29 : lw_okq (⟨"LockTurns", "isPair", "(II)Z"⟩, 12) := ⟨⟨by decide +kernel, by decide +kernel⟩, List.mem_of_getElem? (i := 18) (by decide +kernel), List.mem_of_getElem? (i := 633) (by decide +kernel), List.mem_of_getElem? (i := 634) (by decide +kernel)⟩
theorem lw_p30 : lw_okq (⟨"LockTurns", "weight", "(II)J"⟩, 12) := ⟨⟨by decide +kernel, by decide +kernel⟩, List.mem_of_getElem? (i := 18) (by decide +kernel), List.mem_of_getElem? (i := 660) (by decide +kernel), List.mem_of_getElem? (i := 661) (by decide +kernel)⟩
theorem lw_p31 : lw_okq (⟨"LockTurns", "weightOfAll", "()J"⟩, 12) := ⟨⟨by decide +kernel, by decide +kernel⟩, List.mem_of_getElem? (i := 18) (by decide +kernel), List.mem_of_getElem? (i := 664) (by decide +kernel), List.mem_of_getElem? (i := 665) (by decide +kernel)⟩
def lw_privs_2 : List (MethodName × Nat) := [(⟨"LockTurns$Day", "sideAhead", "(LLockTurns$Lock;I)I"⟩, 13), (⟨"LockTurns$Day", "sideByTwos", "(LLockTurns$Lock;)I"⟩, 13), (⟨"LockTurns$Day", "sideByQueue", "(LLockTurns$Lock;)I"⟩, 13), (⟨"LockTurns$Day", "waits", "(I)Z"⟩, 13), (⟨"LockTurns$Day", "chosen", "(LLockTurns$Lock;II)I"⟩, 13), (⟨"LockTurns$Day", "rank", "(LLockTurns$Lock;III)I"⟩, 13), (⟨"LockTurns$Day", "admit", "(LLockTurns$Lock;I)V"⟩, 13), (⟨"LockTurns$Plan", "seek", "(LLockTurns$Lock;IIIII)V"⟩, 3), (⟨"LockTurns", "gained", "(II)I"⟩, 12), (⟨"LockTurns", "isCalm", "(I)Z"⟩, 12), (⟨"LockTurns", "fillStoodBySet", "(I)V"⟩, 12), (⟨"LockTurns", "liarSets", "()I"⟩, 12), (⟨"LockTurns", "isRest", "(I)Z"⟩, 12), (⟨"LockTurns", "isPair", "(II)Z"⟩, 12), (⟨"LockTurns", "weight", "(II)J"⟩, 12), (⟨"LockTurns", "weightOfAll", "()J"⟩, 12)]
theorem lw_r2 : ∀ q ∈ lw_privs_2, lw_okq q := List.forall_mem_cons.mpr ⟨lw_p16, List.forall_mem_cons.mpr ⟨lw_p17, List.forall_mem_cons.mpr ⟨lw_p18, List.forall_mem_cons.mpr ⟨lw_p19, List.forall_mem_cons.mpr ⟨lw_p20, List.forall_mem_cons.mpr ⟨lw_p21, List.forall_mem_cons.mpr ⟨lw_p22, List.forall_mem_cons.mpr ⟨lw_p23, List.forall_mem_cons.mpr ⟨lw_p24, List.forall_mem_cons.mpr ⟨lw_p25, List.forall_mem_cons.mpr ⟨lw_p26, List.forall_mem_cons.mpr ⟨lw_p27, List.forall_mem_cons.mpr ⟨lw_p28, List.forall_mem_cons.mpr ⟨lw_p29, List.forall_mem_cons.mpr ⟨lw_p30, List.forall_mem_cons.mpr ⟨lw_p31, fun _ h => absurd h List.not_mem_nil⟩⟩⟩⟩⟩⟩⟩⟩⟩⟩⟩⟩⟩⟩⟩⟩
theorem lw_p32 : lw_okq (⟨"LockTurns", "isComing", "(LLockTurns$Sheet;I)Z"⟩, 12) := ⟨⟨by decide +kernel, by decide +kernel⟩, List.mem_of_getElem? (i := 18) (by decide +kernel), List.mem_of_getElem? (i := 760) (by decide +kernel), List.mem_of_getElem? (i := 761) (by decide +kernel)⟩
theorem lw_p33 : lw_okq (⟨"LockTurnsModel", "firstDraft", "()V"⟩, 32) := ⟨⟨by decide +kernel, by decide +kernel⟩, List.mem_of_getElem? (i := 788) (by decide +kernel), List.mem_of_getElem? (i := 794) (by decide +kernel), List.mem_of_getElem? (i := 795) (by decide +kernel)⟩
theorem lw_p34 : lw_okq (⟨"LockTurnsModel", "keepDraft", "()V"⟩, 32) := ⟨⟨by decide +kernel, by decide +kernel⟩, List.mem_of_getElem? (i := 788) (by decide +kernel), List.mem_of_getElem? (i := 798) (by decide +kernel), List.mem_of_getElem? (i := 799) (by decide +kernel)⟩
theorem lw_p35 : lw_okq (⟨"LockTurnsModel", "next", "()V"⟩, 32) := ⟨⟨by decide +kernel, by decide +kernel⟩, List.mem_of_getElem? (i := 788) (by decide +kernel), List.mem_of_getElem? (i := 916) (by decide +kernel), List.mem_of_getElem? (i := 917) (by decide +kernel)⟩
theorem lw_p36 : lw_okq (⟨"LockTurnsModel", "byteAt", "(I)I"⟩, 32) := ⟨⟨by decide +kernel, by decide +kernel⟩, List.mem_of_getElem? (i := 788) (by decide +kernel), List.mem_of_getElem? (i := 920) (by decide +kernel), List.mem_of_getElem? (i := 921) (by decide +kernel)⟩
theorem lw_p37 : lw_okq (⟨"LockTurnsModel", "needs", "(ZI)V"⟩, 32) := ⟨⟨by decide +kernel, by decide +kernel⟩, List.mem_of_getElem? (i := 788) (by decide +kernel), List.mem_of_getElem? (i := 928) (by decide +kernel), List.mem_of_getElem? (i := 929) (by decide +kernel)⟩
theorem lw_p38 : lw_okq (⟨"LockTurnsModel", "readLine", "()V"⟩, 32) := ⟨⟨by decide +kernel, by decide +kernel⟩, List.mem_of_getElem? (i := 788) (by decide +kernel), List.mem_of_getElem? (i := 932) (by decide +kernel), List.mem_of_getElem? (i := 933) (by decide +kernel)⟩
theorem lw_p39 : lw_okq (⟨"LockTurnsModel", "lineNow", "()I"⟩, 32) := ⟨⟨by decide +kernel, by decide +kernel⟩, List.mem_of_getElem? (i := 788) (by decide +kernel), List.mem_of_getElem? (i := 936) (by decide +kernel), List.mem_of_getElem? (i := 937) (by decide +kernel)⟩
theorem lw_p40 : lw_okq (⟨"LockTurnsModel", "is", "(IIIII)Z"⟩, 32) := ⟨⟨by decide +kernel, by decide +kernel⟩, List.mem_of_getElem? (i := 788) (by decide +kernel), List.mem_of_getElem? (i := 940) (by decide +kernel), List.mem_of_getElem? (i := 941) (by decide +kernel)⟩
theorem lw_p41 : lw_okq (⟨"LockTurnsModel", "endsWith", "(I)Z"⟩, 32) := ⟨⟨by decide +kernel, by decide +kernel⟩, List.mem_of_getElem? (i := 788) (by decide +kernel), List.mem_of_getElem? (i := 944) (by decide +kernel), List.mem_of_getElem? (i := 945) (by decide +kernel)⟩
theorem lw_p42 : lw_okq (⟨"LockTurnsModel", "readLineOf", "(I)V"⟩, 32) := ⟨⟨by decide +kernel, by decide +kernel⟩, List.mem_of_getElem? (i := 788) (by decide +kernel), List.mem_of_getElem? (i := 950) (by decide +kernel), List.mem_of_getElem? (i := 951) (by decide +kernel)⟩
theorem lw_p43 : lw_okq (⟨"LockTurnsModel", "readNumber", "(II)I"⟩, 32) := ⟨⟨by decide +kernel, by decide +kernel⟩, List.mem_of_getElem? (i := 788) (by decide +kernel), List.mem_of_getElem? (i := 954) (by decide +kernel), List.mem_of_getElem? (i := 955) (by decide +kernel)⟩
theorem lw_p44 : lw_okq (⟨"LockTurnsModel", "looked", "(II)I"⟩, 32) := ⟨⟨by decide +kernel, by decide +kernel⟩, List.mem_of_getElem? (i := 788) (by decide +kernel), List.mem_of_getElem? (i := 958) (by decide +kernel), List.mem_of_getElem? (i := 959) (by decide +kernel)⟩
theorem lw_p45 : lw_okq (⟨"LockTurnsModel", "lawNow", "()I"⟩, 32) := ⟨⟨by decide +kernel, by decide +kernel⟩, List.mem_of_getElem? (i := 788) (by decide +kernel), List.mem_of_getElem? (i := 962) (by decide +kernel), List.mem_of_getElem? (i := 963) (by decide +kernel)⟩
theorem lw_p46 : lw_okq (⟨"LockTurnsModel", "readName", "(I)I"⟩, 32) := ⟨⟨by decide +kernel, by decide +kernel⟩, List.mem_of_getElem? (i := 788) (by decide +kernel), List.mem_of_getElem? (i := 966) (by decide +kernel), List.mem_of_getElem? (i := 967) (by decide +kernel)⟩
theorem lw_p47 : lw_okq (⟨"LockTurnsModel", "readLiar", "()V"⟩, 32) := ⟨⟨by decide +kernel, by decide +kernel⟩, List.mem_of_getElem? (i := 788) (by decide +kernel), List.mem_of_getElem? (i := 970) (by decide +kernel), List.mem_of_getElem? (i := 971) (by decide +kernel)⟩
def lw_privs_3 : List (MethodName × Nat) := [(⟨"LockTurns", "isComing", "(LLockTurns$Sheet;I)Z"⟩, 12), (⟨"LockTurnsModel", "firstDraft", "()V"⟩, 32), (⟨"LockTurnsModel", "keepDraft", "()V"⟩, 32), (⟨"LockTurnsModel", "next", "()V"⟩, 32), (⟨"LockTurnsModel", "byteAt", "(I)I"⟩, 32), (⟨"LockTurnsModel", "needs", "(ZI)V"⟩, 32), (⟨"LockTurnsModel", "readLine", "()V"⟩, 32), (⟨"LockTurnsModel", "lineNow", "()I"⟩, 32), (⟨"LockTurnsModel", "is", "(IIIII)Z"⟩, 32), (⟨"LockTurnsModel", "endsWith", "(I)Z"⟩, 32), (⟨"LockTurnsModel", "readLineOf", "(I)V"⟩, 32), (⟨"LockTurnsModel", "readNumber", "(II)I"⟩, 32), (⟨"LockTurnsModel", "looked", "(II)I"⟩, 32), (⟨"LockTurnsModel", "lawNow", "()I"⟩, 32), (⟨"LockTurnsModel", "readName", "(I)I"⟩, 32), (⟨"LockTurnsModel", "readLiar", "()V"⟩, 32)]
theorem lw_r3 : ∀ q ∈ lw_privs_3, lw_okq q := List.forall_mem_cons.mpr ⟨lw_p32, List.forall_mem_cons.mpr ⟨lw_p33, List.forall_mem_cons.mpr ⟨lw_p34, List.forall_mem_cons.mpr ⟨lw_p35, List.forall_mem_cons.mpr ⟨lw_p36, List.forall_mem_cons.mpr ⟨lw_p37, List.forall_mem_cons.mpr ⟨lw_p38, List.forall_mem_cons.mpr ⟨lw_p39, List.forall_mem_cons.mpr ⟨lw_p40, List.forall_mem_cons.mpr ⟨lw_p41, List.forall_mem_cons.mpr ⟨lw_p42, List.forall_mem_cons.mpr ⟨lw_p43, List.forall_mem_cons.mpr ⟨lw_p44, List.forall_mem_cons.mpr ⟨lw_p45, List.forall_mem_cons.mpr ⟨lw_p46, List.forall_mem_cons.mpr ⟨lw_p47, fun _ h => absurd h List.not_mem_nil⟩⟩⟩⟩⟩⟩⟩⟩⟩⟩⟩⟩⟩⟩⟩⟩
theorem lw_p48 : lw_okq (⟨"LockTurnsModel", "readBoat", "(I)V"⟩, 32) := ⟨⟨by decide +kernel, by decide +kernel⟩, List.mem_of_getElem? (i := 788) (by decide +kernel), List.mem_of_getElem? (i := 974) (by decide +kernel), List.mem_of_getElem? (i := 975) (by decide +kernel)⟩
theorem lw_p49 : lw_okq (⟨"LockTurnsModel", "cargoNow", "()I"⟩, 32) := ⟨⟨by decide +kernel, by decide +kernel⟩, List.mem_of_getElem? (i := 788) (by decide +kernel), List.mem_of_getElem? (i := 978) (by decide +kernel), List.mem_of_getElem? (i := 979) (by decide +kernel)⟩
theorem lw_p50 : lw_okq (⟨"LockTurnsModel", "liars", "()I"⟩, 32) := ⟨⟨by decide +kernel, by decide +kernel⟩, List.mem_of_getElem? (i := 788) (by decide +kernel), List.mem_of_getElem? (i := 990) (by decide +kernel), List.mem_of_getElem? (i := 991) (by decide +kernel)⟩
theorem lw_p51 : lw_okq (⟨"LockTurnsModel", "isBoat", "(I)Z"⟩, 32) := ⟨⟨by decide +kernel, by decide +kernel⟩, List.mem_of_getElem? (i := 788) (by decide +kernel), List.mem_of_getElem? (i := 998) (by decide +kernel), List.mem_of_getElem? (i := 999) (by decide +kernel)⟩
theorem lw_p52 : lw_okq (⟨"LockTurnsModel", "starts", "()V"⟩, 32) := ⟨⟨by decide +kernel, by decide +kernel⟩, List.mem_of_getElem? (i := 788) (by decide +kernel), List.mem_of_getElem? (i := 1003) (by decide +kernel), List.mem_of_getElem? (i := 1004) (by decide +kernel)⟩
theorem lw_p53 : lw_okq (⟨"LockTurnsModel", "of", "(II)I"⟩, 32) := ⟨⟨by decide +kernel, by decide +kernel⟩, List.mem_of_getElem? (i := 788) (by decide +kernel), List.mem_of_getElem? (i := 1007) (by decide +kernel), List.mem_of_getElem? (i := 1008) (by decide +kernel)⟩
theorem lw_p54 : lw_okq (⟨"LockTurnsModel", "countsFrom", "(I)I"⟩, 32) := ⟨⟨by decide +kernel, by decide +kernel⟩, List.mem_of_getElem? (i := 788) (by decide +kernel), List.mem_of_getElem? (i := 1011) (by decide +kernel), List.mem_of_getElem? (i := 1012) (by decide +kernel)⟩
theorem lw_p55 : lw_okq (⟨"LockTurnsModel", "becomes", "(II)I"⟩, 32) := ⟨⟨by decide +kernel, by decide +kernel⟩, List.mem_of_getElem? (i := 788) (by decide +kernel), List.mem_of_getElem? (i := 1022) (by decide +kernel), List.mem_of_getElem? (i := 1023) (by decide +kernel)⟩
theorem lw_p56 : lw_okq (⟨"LockTurnsModel", "dayNow", "()V"⟩, 32) := ⟨⟨by decide +kernel, by decide +kernel⟩, List.mem_of_getElem? (i := 788) (by decide +kernel), List.mem_of_getElem? (i := 1049) (by decide +kernel), List.mem_of_getElem? (i := 1050) (by decide +kernel)⟩
theorem lw_p57 : lw_okq (⟨"LockTurnsModel", "dayGoes", "()V"⟩, 32) := ⟨⟨by decide +kernel, by decide +kernel⟩, List.mem_of_getElem? (i := 788) (by decide +kernel), List.mem_of_getElem? (i := 1053) (by decide +kernel), List.mem_of_getElem? (i := 1054) (by decide +kernel)⟩
theorem lw_p58 : lw_okq (⟨"LockTurnsModel", "opens", "()V"⟩, 32) := ⟨⟨by decide +kernel, by decide +kernel⟩, List.mem_of_getElem? (i := 788) (by decide +kernel), List.mem_of_getElem? (i := 1057) (by decide +kernel), List.mem_of_getElem? (i := 1058) (by decide +kernel)⟩
theorem lw_p59 : lw_okq (⟨"LockTurnsModel", "counting", "(I)I"⟩, 32) := ⟨⟨by decide +kernel, by decide +kernel⟩, List.mem_of_getElem? (i := 788) (by decide +kernel), List.mem_of_getElem? (i := 1061) (by decide +kernel), List.mem_of_getElem? (i := 1062) (by decide +kernel)⟩
theorem lw_p60 : lw_okq (⟨"LockTurnsModel", "earliest", "(I)I"⟩, 32) := ⟨⟨by decide +kernel, by decide +kernel⟩, List.mem_of_getElem? (i := 788) (by decide +kernel), List.mem_of_getElem? (i := 1065) (by decide +kernel), List.mem_of_getElem? (i := 1066) (by decide +kernel)⟩
theorem lw_p61 : lw_okq (⟨"LockTurnsModel", "taken", "(I)I"⟩, 32) := ⟨⟨by decide +kernel, by decide +kernel⟩, List.mem_of_getElem? (i := 788) (by decide +kernel), List.mem_of_getElem? (i := 1069) (by decide +kernel), List.mem_of_getElem? (i := 1070) (by decide +kernel)⟩
theorem lw_p62 : lw_okq (⟨"LockTurnsModel", "comeFrom", "(II)I"⟩, 32) := ⟨⟨by decide +kernel, by decide +kernel⟩, List.mem_of_getElem? (i := 788) (by decide +kernel), List.mem_of_getElem? (i := 1073) (by decide +kernel), List.mem_of_getElem? (i := 1074) (by decide +kernel)⟩
theorem lw_p63 : lw_okq (⟨"LockTurnsModel", "preferred", "(II)I"⟩, 32) := ⟨⟨by decide +kernel, by decide +kernel⟩, List.mem_of_getElem? (i := 788) (by decide +kernel), List.mem_of_getElem? (i := 1080) (by decide +kernel), List.mem_of_getElem? (i := 1081) (by decide +kernel)⟩
def lw_privs_4 : List (MethodName × Nat) := [(⟨"LockTurnsModel", "readBoat", "(I)V"⟩, 32), (⟨"LockTurnsModel", "cargoNow", "()I"⟩, 32), (⟨"LockTurnsModel", "liars", "()I"⟩, 32), (⟨"LockTurnsModel", "isBoat", "(I)Z"⟩, 32), (⟨"LockTurnsModel", "starts", "()V"⟩, 32), (⟨"LockTurnsModel", "of", "(II)I"⟩, 32), (⟨"LockTurnsModel", "countsFrom", "(I)I"⟩, 32), (⟨"LockTurnsModel", "becomes", "(II)I"⟩, 32), (⟨"LockTurnsModel", "dayNow", "()V"⟩, 32), (⟨"LockTurnsModel", "dayGoes", "()V"⟩, 32), (⟨"LockTurnsModel", "opens", "()V"⟩, 32), (⟨"LockTurnsModel", "counting", "(I)I"⟩, 32), (⟨"LockTurnsModel", "earliest", "(I)I"⟩, 32), (⟨"LockTurnsModel", "taken", "(I)I"⟩, 32), (⟨"LockTurnsModel", "comeFrom", "(II)I"⟩, 32), (⟨"LockTurnsModel", "preferred", "(II)I"⟩, 32)]
theorem lw_r4 : ∀ q ∈ lw_privs_4, lw_okq q := List.forall_mem_cons.mpr ⟨lw_p48, List.forall_mem_cons.mpr ⟨lw_p49, List.forall_mem_cons.mpr ⟨lw_p50, List.forall_mem_cons.mpr ⟨lw_p51, List.forall_mem_cons.mpr ⟨lw_p52, List.forall_mem_cons.mpr ⟨lw_p53, List.forall_mem_cons.mpr ⟨lw_p54, List.forall_mem_cons.mpr ⟨lw_p55, List.forall_mem_cons.mpr ⟨lw_p56, List.forall_mem_cons.mpr ⟨lw_p57, List.forall_mem_cons.mpr ⟨lw_p58, List.forall_mem_cons.mpr ⟨lw_p59, List.forall_mem_cons.mpr ⟨lw_p60, List.forall_mem_cons.mpr ⟨lw_p61, List.forall_mem_cons.mpr ⟨lw_p62, List.forall_mem_cons.mpr ⟨lw_p63, fun _ h => absurd h List.not_mem_nil⟩⟩⟩⟩⟩⟩⟩⟩⟩⟩⟩⟩⟩⟩⟩⟩
theorem lw_p64 : lw_okq (⟨"LockTurnsModel", "sideOf", "(I)I"⟩, 32) := ⟨⟨by decide +kernel, by decide +kernel⟩, List.mem_of_getElem? (i := 788) (by decide +kernel), List.mem_of_getElem? (i := 1084) (by decide +kernel), List.mem_of_getElem? (i := 1085) (by decide +kernel)⟩
theorem lw_p65 : lw_okq (⟨"LockTurnsModel", "leastCargo", "(I)I"⟩, 32) := ⟨⟨by decide +kernel, by decide +kernel⟩, List.mem_of_getElem? (i := 788) (by decide +kernel), List.mem_of_getElem? (i := 1088) (by decide +kernel), List.mem_of_getElem? (i := 1089) (by decide +kernel)⟩
theorem lw_p66 : lw_okq (⟨"LockTurnsModel", "cargoTold", "(I)I"⟩, 32) := ⟨⟨by decide +kernel, by decide +kernel⟩, List.mem_of_getElem? (i := 788) (by decide +kernel), List.mem_of_getElem? (i := 1093) (by decide +kernel), List.mem_of_getElem? (i := 1094) (by decide +kernel)⟩
theorem lw_p67 : lw_okq (⟨"LockTurnsModel", "lets", "(I)V"⟩, 32) := ⟨⟨by decide +kernel, by decide +kernel⟩, List.mem_of_getElem? (i := 788) (by decide +kernel), List.mem_of_getElem? (i := 1097) (by decide +kernel), List.mem_of_getElem? (i := 1098) (by decide +kernel)⟩
theorem lw_p68 : lw_okq (⟨"LockTurnsModel", "tells", "(I)I"⟩, 32) := ⟨⟨by decide +kernel, by decide +kernel⟩, List.mem_of_getElem? (i := 788) (by decide +kernel), List.mem_of_getElem? (i := 1113) (by decide +kernel), List.mem_of_getElem? (i := 1114) (by decide +kernel)⟩
theorem lw_p69 : lw_okq (⟨"LockTurnsModel", "costNow", "()I"⟩, 32) := ⟨⟨by decide +kernel, by decide +kernel⟩, List.mem_of_getElem? (i := 788) (by decide +kernel), List.mem_of_getElem? (i := 1117) (by decide +kernel), List.mem_of_getElem? (i := 1118) (by decide +kernel)⟩
theorem lw_p70 : lw_okq (⟨"LockTurnsModel", "dayBy", "(I)V"⟩, 32) := ⟨⟨by decide +kernel, by decide +kernel⟩, List.mem_of_getElem? (i := 788) (by decide +kernel), List.mem_of_getElem? (i := 1125) (by decide +kernel), List.mem_of_getElem? (i := 1126) (by decide +kernel)⟩
theorem lw_p71 : lw_okq (⟨"LockTurnsModel", "rows", "()I"⟩, 32) := ⟨⟨by decide +kernel, by decide +kernel⟩, List.mem_of_getElem? (i := 788) (by decide +kernel), List.mem_of_getElem? (i := 1137) (by decide +kernel), List.mem_of_getElem? (i := 1138) (by decide +kernel)⟩
theorem lw_p72 : lw_okq (⟨"LockTurnsModel", "isOrder", "(I)Z"⟩, 32) := ⟨⟨by decide +kernel, by decide +kernel⟩, List.mem_of_getElem? (i := 788) (by decide +kernel), List.mem_of_getElem? (i := 1141) (by decide +kernel), List.mem_of_getElem? (i := 1142) (by decide +kernel)⟩
theorem lw_p73 : lw_okq (⟨"LockTurnsModel", "goesInOrder", "()V"⟩, 32) := ⟨⟨by decide +kernel, by decide +kernel⟩, List.mem_of_getElem? (i := 788) (by decide +kernel), List.mem_of_getElem? (i := 1145) (by decide +kernel), List.mem_of_getElem? (i := 1146) (by decide +kernel)⟩
theorem lw_p74 : lw_okq (⟨"LockTurnsModel", "gainOf", "(I)I"⟩, 32) := ⟨⟨by decide +kernel, by decide +kernel⟩, List.mem_of_getElem? (i := 788) (by decide +kernel), List.mem_of_getElem? (i := 1157) (by decide +kernel), List.mem_of_getElem? (i := 1158) (by decide +kernel)⟩
theorem lw_p75 : lw_okq (⟨"LockTurnsModel", "becomesOf", "(III)V"⟩, 32) := ⟨⟨by decide +kernel, by decide +kernel⟩, List.mem_of_getElem? (i := 788) (by decide +kernel), List.mem_of_getElem? (i := 1161) (by decide +kernel), List.mem_of_getElem? (i := 1162) (by decide +kernel)⟩
theorem lw_p76 : lw_okq (⟨"LockTurnsModel", "isCalm", "()Z"⟩, 32) := ⟨⟨by decide +kernel, by decide +kernel⟩, List.mem_of_getElem? (i := 788) (by decide +kernel), List.mem_of_getElem? (i := 1169) (by decide +kernel), List.mem_of_getElem? (i := 1170) (by decide +kernel)⟩
theorem lw_p77 : lw_okq (⟨"LockTurnsModel", "liesBy", "(I)V"⟩, 32) := ⟨⟨by decide +kernel, by decide +kernel⟩, List.mem_of_getElem? (i := 788) (by decide +kernel), List.mem_of_getElem? (i := 1180) (by decide +kernel), List.mem_of_getElem? (i := 1181) (by decide +kernel)⟩
theorem lw_p78 : lw_okq (⟨"LockTurnsModel", "placeOf", "(I)I"⟩, 32) := ⟨⟨by decide +kernel, by decide +kernel⟩, List.mem_of_getElem? (i := 788) (by decide +kernel), List.mem_of_getElem? (i := 1188) (by decide +kernel), List.mem_of_getElem? (i := 1189) (by decide +kernel)⟩
theorem lw_p79 : lw_okq (⟨"LockTurnsModel", "dayCaught", "(I)V"⟩, 32) := ⟨⟨by decide +kernel, by decide +kernel⟩, List.mem_of_getElem? (i := 788) (by decide +kernel), List.mem_of_getElem? (i := 1210) (by decide +kernel), List.mem_of_getElem? (i := 1211) (by decide +kernel)⟩
def lw_privs_5 : List (MethodName × Nat) := [(⟨"LockTurnsModel", "sideOf", "(I)I"⟩, 32), (⟨"LockTurnsModel", "leastCargo", "(I)I"⟩, 32), (⟨"LockTurnsModel", "cargoTold", "(I)I"⟩, 32), (⟨"LockTurnsModel", "lets", "(I)V"⟩, 32), (⟨"LockTurnsModel", "tells", "(I)I"⟩, 32), (⟨"LockTurnsModel", "costNow", "()I"⟩, 32), (⟨"LockTurnsModel", "dayBy", "(I)V"⟩, 32), (⟨"LockTurnsModel", "rows", "()I"⟩, 32), (⟨"LockTurnsModel", "isOrder", "(I)Z"⟩, 32), (⟨"LockTurnsModel", "goesInOrder", "()V"⟩, 32), (⟨"LockTurnsModel", "gainOf", "(I)I"⟩, 32), (⟨"LockTurnsModel", "becomesOf", "(III)V"⟩, 32), (⟨"LockTurnsModel", "isCalm", "()Z"⟩, 32), (⟨"LockTurnsModel", "liesBy", "(I)V"⟩, 32), (⟨"LockTurnsModel", "placeOf", "(I)I"⟩, 32), (⟨"LockTurnsModel", "dayCaught", "(I)V"⟩, 32)]
theorem lw_r5 : ∀ q ∈ lw_privs_5, lw_okq q := List.forall_mem_cons.mpr ⟨lw_p64, List.forall_mem_cons.mpr ⟨lw_p65, List.forall_mem_cons.mpr ⟨lw_p66, List.forall_mem_cons.mpr ⟨lw_p67, List.forall_mem_cons.mpr ⟨lw_p68, List.forall_mem_cons.mpr ⟨lw_p69, List.forall_mem_cons.mpr ⟨lw_p70, List.forall_mem_cons.mpr ⟨lw_p71, List.forall_mem_cons.mpr ⟨lw_p72, List.forall_mem_cons.mpr ⟨lw_p73, List.forall_mem_cons.mpr ⟨lw_p74, List.forall_mem_cons.mpr ⟨lw_p75, List.forall_mem_cons.mpr ⟨lw_p76, List.forall_mem_cons.mpr ⟨lw_p77, List.forall_mem_cons.mpr ⟨lw_p78, List.forall_mem_cons.mpr ⟨lw_p79, fun _ h => absurd h List.not_mem_nil⟩⟩⟩⟩⟩⟩⟩⟩⟩⟩⟩⟩⟩⟩⟩⟩
theorem lw_p80 : lw_okq (⟨"LockTurnsModel", "waysOf", "(II)J"⟩, 32) := ⟨⟨by decide +kernel, by decide +kernel⟩, List.mem_of_getElem? (i := 788) (by decide +kernel), List.mem_of_getElem? (i := 1214) (by decide +kernel), List.mem_of_getElem? (i := 1215) (by decide +kernel)⟩
theorem lw_p81 : lw_okq (⟨"LockTurnsModel", "allWays", "()J"⟩, 32) := ⟨⟨by decide +kernel, by decide +kernel⟩, List.mem_of_getElem? (i := 788) (by decide +kernel), List.mem_of_getElem? (i := 1218) (by decide +kernel), List.mem_of_getElem? (i := 1219) (by decide +kernel)⟩
theorem lw_p82 : lw_okq (⟨"LockTurnsModel", "isSo", "(II)Z"⟩, 32) := ⟨⟨by decide +kernel, by decide +kernel⟩, List.mem_of_getElem? (i := 788) (by decide +kernel), List.mem_of_getElem? (i := 1244) (by decide +kernel), List.mem_of_getElem? (i := 1245) (by decide +kernel)⟩
theorem lw_p83 : lw_okq (⟨"LockTurnsModel", "copies", "(II)V"⟩, 32) := ⟨⟨by decide +kernel, by decide +kernel⟩, List.mem_of_getElem? (i := 788) (by decide +kernel), List.mem_of_getElem? (i := 1258) (by decide +kernel), List.mem_of_getElem? (i := 1259) (by decide +kernel)⟩
def lw_privs_6 : List (MethodName × Nat) := [(⟨"LockTurnsModel", "waysOf", "(II)J"⟩, 32), (⟨"LockTurnsModel", "allWays", "()J"⟩, 32), (⟨"LockTurnsModel", "isSo", "(II)Z"⟩, 32), (⟨"LockTurnsModel", "copies", "(II)V"⟩, 32)]
theorem lw_r6 : ∀ q ∈ lw_privs_6, lw_okq q := List.forall_mem_cons.mpr ⟨lw_p80, List.forall_mem_cons.mpr ⟨lw_p81, List.forall_mem_cons.mpr ⟨lw_p82, List.forall_mem_cons.mpr ⟨lw_p83, fun _ h => absurd h List.not_mem_nil⟩⟩⟩⟩
def lw_privs : List (MethodName × Nat) := lw_privs_1 ++ (lw_privs_2 ++ (lw_privs_3 ++ (lw_privs_4 ++ (lw_privs_5 ++ (lw_privs_6)))))
def lw_tbl : List Cond := k2_sels lw_privs ++ tables_1
theorem lw_privs_ok : ∀ q ∈ lw_privs, lw_okq q := by
  show ∀ q ∈ lw_privs_1 ++ (lw_privs_2 ++ (lw_privs_3 ++ (lw_privs_4 ++ (lw_privs_5 ++ (lw_privs_6))))), lw_okq q
  exact List.forall_mem_append.mpr ⟨lw_r1, List.forall_mem_append.mpr ⟨lw_r2, List.forall_mem_append.mpr ⟨lw_r3, List.forall_mem_append.mpr ⟨lw_r4, List.forall_mem_append.mpr ⟨lw_r5, lw_r6⟩⟩⟩⟩⟩
end
section
def RX0 : String := "LockTurns$Day"
def TX0 : u_T := fun k => match k with
  | 0 => ("LockTurns$Day", "passing", "[I", true)
  | 1 => ("LockTurns$Day", "through", "[I", true)
  | 2 => ("LockTurns$Day", "stood", "[I", true)
  | 3 => ("LockTurns$Day", "counts", "[I", true)
  | 4 => ("LockTurns$Day", "tells", "[I", true)
  | 5 => ("LockTurns$Day", "passed", "I", false)
  | 6 => ("LockTurns$Day", "gone", "I", false)
  | 7 => ("LockTurns$Day", "free", "I", false)
  | 8 => ("LockTurns$Day", "ready", "I", false)
  | 9 => ("LockTurns$Day", "longest", "I", false)
  | 10 => ("LockTurns$Day", "water", "I", false)
  | 11 => ("LockTurns$Day", "turns", "I", false)
  | _ => ("LockTurns$Day", "cost", "I", false)
def tyX0 : Nat → FieldType := fun k => match k with
  | 0 => .array .int
  | 1 => .array .int
  | 2 => .array .int
  | 3 => .array .int
  | 4 => .array .int
  | 5 => .int
  | 6 => .int
  | 7 => .int
  | 8 => .int
  | 9 => .int
  | 10 => .int
  | 11 => .int
  | _ => .int
abbrev wsX00 : List Cond := u_ws RX0 TX0 13
theorem nmX0 : ∀ a, a < 13 → ∀ b, b < 13 → a ≠ b → (TX0 a).2.1 ≠ (TX0 b).2.1 := by decide +kernel
theorem tyX0_ok : ∀ k, k < 13 → parseFieldDescriptor (TX0 k).2.2.1 = some (tyX0 k) := by decide +kernel
abbrev cX0_init : ByteArray := prog_2_method_1_code
def yX0_init : MethodName := ⟨RX0, "<init>", "()V"⟩
abbrev cX0_by : ByteArray := prog_2_method_2_code
def yX0_by : MethodName := ⟨RX0, "by", "(LLockTurns$Lock;III)V"⟩
abbrev cX0_inOrder : ByteArray := prog_2_method_3_code
def yX0_inOrder : MethodName := ⟨RX0, "inOrder", "(LLockTurns$Lock;[I)V"⟩
abbrev cX0_measure : ByteArray := prog_2_method_4_code
def yX0_measure : MethodName := ⟨RX0, "measure", "(I)I"⟩
abbrev cX0_costOf : ByteArray := prog_2_method_5_code
def yX0_costOf : MethodName := ⟨RX0, "costOf", "(LLockTurns$Lock;I)I"⟩
abbrev cX0_isAsSeen : ByteArray := prog_2_method_6_code
def yX0_isAsSeen : MethodName := ⟨RX0, "isAsSeen", "(LLockTurns$Lock;)Z"⟩
abbrev cX0_begin : ByteArray := prog_2_method_7_code
def yX0_begin : MethodName := ⟨RX0, "begin", "(LLockTurns$Lock;)V"⟩
abbrev cX0_waitForOne : ByteArray := prog_2_method_8_code
def yX0_waitForOne : MethodName := ⟨RX0, "waitForOne", "(I)V"⟩
abbrev cX0_waits : ByteArray := prog_2_method_9_code
def yX0_waits : MethodName := ⟨RX0, "waits", "(I)Z"⟩
abbrev cX0_chosen : ByteArray := prog_2_method_10_code
def yX0_chosen : MethodName := ⟨RX0, "chosen", "(LLockTurns$Lock;II)I"⟩
abbrev cX0_rank : ByteArray := prog_2_method_11_code
def yX0_rank : MethodName := ⟨RX0, "rank", "(LLockTurns$Lock;III)I"⟩
abbrev cX0_sideAhead : ByteArray := prog_2_method_12_code
def yX0_sideAhead : MethodName := ⟨RX0, "sideAhead", "(LLockTurns$Lock;I)I"⟩
abbrev cX0_sideByTwos : ByteArray := prog_2_method_13_code
def yX0_sideByTwos : MethodName := ⟨RX0, "sideByTwos", "(LLockTurns$Lock;)I"⟩
abbrev cX0_sideByQueue : ByteArray := prog_2_method_14_code
def yX0_sideByQueue : MethodName := ⟨RX0, "sideByQueue", "(LLockTurns$Lock;)I"⟩
abbrev cX0_admit : ByteArray := prog_2_method_15_code
def yX0_admit : MethodName := ⟨RX0, "admit", "(LLockTurns$Lock;I)V"⟩
def RX1 : String := "LockTurns$Lock"
def TX1 : u_T := fun k => match k with
  | 0 => ("LockTurns$Lock", "rules", "[I", true)
  | 1 => ("LockTurns$Lock", "marks", "[I", true)
  | 2 => ("LockTurns$Lock", "boats", "I", false)
  | 3 => ("LockTurns$Lock", "liars", "I", false)
  | 4 => ("LockTurns$Lock", "seen", "I", false)
  | 5 => ("LockTurns$Lock", "seenPlaces", "[I", true)
  | _ => ("LockTurns$Lock", "seenBoats", "[I", true)
def tyX1 : Nat → FieldType := fun k => match k with
  | 0 => .array .int
  | 1 => .array .int
  | 2 => .int
  | 3 => .int
  | 4 => .int
  | 5 => .array .int
  | _ => .array .int
abbrev wsX10 : List Cond := u_ws RX1 TX1 7
theorem nmX1 : ∀ a, a < 7 → ∀ b, b < 7 → a ≠ b → (TX1 a).2.1 ≠ (TX1 b).2.1 := by decide +kernel
theorem tyX1_ok : ∀ k, k < 7 → parseFieldDescriptor (TX1 k).2.2.1 = some (tyX1 k) := by decide +kernel
abbrev cX1_init : ByteArray := prog_3_method_1_code
def yX1_init : MethodName := ⟨RX1, "<init>", "()V"⟩
abbrev cX1_clear : ByteArray := prog_3_method_2_code
def yX1_clear : MethodName := ⟨RX1, "clear", "()V"⟩
abbrev cX1_copyFrom : ByteArray := prog_3_method_3_code
def yX1_copyFrom : MethodName := ⟨RX1, "copyFrom", "(LLockTurns$Lock;)V"⟩
abbrev cX1_mark : ByteArray := prog_3_method_4_code
def yX1_mark : MethodName := ⟨RX1, "mark", "(II)I"⟩
abbrev cX1_setMark : ByteArray := prog_3_method_5_code
def yX1_setMark : MethodName := ⟨RX1, "setMark", "(III)V"⟩
abbrev cX1_countsFrom : ByteArray := prog_3_method_6_code
def yX1_countsFrom : MethodName := ⟨RX1, "countsFrom", "(I)I"⟩
abbrev cX1_boatsFrom : ByteArray := prog_3_method_7_code
def yX1_boatsFrom : MethodName := ⟨RX1, "boatsFrom", "(I)I"⟩
abbrev cX1_addSeen : ByteArray := prog_3_method_8_code
def yX1_addSeen : MethodName := ⟨RX1, "addSeen", "(II)Z"⟩
abbrev cX1_wasSeenAs : ByteArray := prog_3_method_9_code
def yX1_wasSeenAs : MethodName := ⟨RX1, "wasSeenAs", "([I)Z"⟩
def RX2 : String := "LockTurns$Plan"
def TX2 : u_T := fun k => match k with
  | 0 => ("LockTurns$Plan", "cost", "I", false)
  | 1 => ("LockTurns$Plan", "best", "[I", true)
  | _ => ("LockTurns$Plan", "path", "[I", true)
def tyX2 : Nat → FieldType := fun k => match k with
  | 0 => .int
  | 1 => .array .int
  | _ => .array .int
abbrev wsX20 : List Cond := u_ws RX2 TX2 3
theorem nmX2 : ∀ a, a < 3 → ∀ b, b < 3 → a ≠ b → (TX2 a).2.1 ≠ (TX2 b).2.1 := by decide +kernel
theorem tyX2_ok : ∀ k, k < 3 → parseFieldDescriptor (TX2 k).2.2.1 = some (tyX2 k) := by decide +kernel
abbrev cX2_init : ByteArray := prog_4_method_1_code
def yX2_init : MethodName := ⟨RX2, "<init>", "()V"⟩
abbrev cX2_seekLeastCost : ByteArray := prog_4_method_2_code
def yX2_seekLeastCost : MethodName := ⟨RX2, "seekLeastCost", "(LLockTurns$Lock;)V"⟩
abbrev cX2_seek : ByteArray := prog_4_method_3_code
def yX2_seek : MethodName := ⟨RX2, "seek", "(LLockTurns$Lock;IIIII)V"⟩
def RX3 : String := "LockTurns$Sheet"
def TX3 : u_T := fun k => match k with
  | 0 => ("LockTurns$Sheet", "cells", "[I", true)
  | 1 => ("LockTurns$Sheet", "lane", "I", false)
  | _ => ("LockTurns$Sheet", "size", "I", false)
def tyX3 : Nat → FieldType := fun k => match k with
  | 0 => .array .int
  | 1 => .int
  | _ => .int
abbrev wsX30 : List Cond := u_ws RX3 TX3 3
theorem nmX3 : ∀ a, a < 3 → ∀ b, b < 3 → a ≠ b → (TX3 a).2.1 ≠ (TX3 b).2.1 := by decide +kernel
theorem tyX3_ok : ∀ k, k < 3 → parseFieldDescriptor (TX3 k).2.2.1 = some (tyX3 k) := by decide +kernel
abbrev cX3_init : ByteArray := prog_5_method_1_code
def yX3_init : MethodName := ⟨RX3, "<init>", "()V"⟩
abbrev cX3_isLane : ByteArray := prog_5_method_2_code
def yX3_isLane : MethodName := ⟨RX3, "isLane", "(I)Z"⟩
abbrev cX3_isNothing : ByteArray := prog_5_method_3_code
def yX3_isNothing : MethodName := ⟨RX3, "isNothing", "()Z"⟩
abbrev cX3_renew : ByteArray := prog_5_method_4_code
def yX3_renew : MethodName := ⟨RX3, "renew", "(II)V"⟩
abbrev cX3_put : ByteArray := prog_5_method_5_code
def yX3_put : MethodName := ⟨RX3, "put", "(II)V"⟩
abbrev cX3_cell : ByteArray := prog_5_method_6_code
def yX3_cell : MethodName := ⟨RX3, "cell", "(I)I"⟩
abbrev cX3_faultAt : ByteArray := prog_5_method_7_code
def yX3_faultAt : MethodName := ⟨RX3, "faultAt", "(I)I"⟩
abbrev cX3_faultOfPair : ByteArray := prog_5_method_8_code
def yX3_faultOfPair : MethodName := ⟨RX3, "faultOfPair", "(II)I"⟩
def RX4 : String := "LockTurns$Tape"
def TX4 : u_T := fun k => match k with
  | 0 => ("LockTurns$Tape", "bytes", "[B", true)
  | 1 => ("LockTurns$Tape", "length", "I", false)
  | 2 => ("LockTurns$Tape", "at", "I", false)
  | 3 => ("LockTurns$Tape", "kind", "I", false)
  | 4 => ("LockTurns$Tape", "start", "I", false)
  | _ => ("LockTurns$Tape", "number", "I", false)
def tyX4 : Nat → FieldType := fun k => match k with
  | 0 => .array .byte
  | 1 => .int
  | 2 => .int
  | 3 => .int
  | 4 => .int
  | _ => .int
abbrev wsX40 : List Cond := u_ws RX4 TX4 6
theorem nmX4 : ∀ a, a < 6 → ∀ b, b < 6 → a ≠ b → (TX4 a).2.1 ≠ (TX4 b).2.1 := by decide +kernel
theorem tyX4_ok : ∀ k, k < 6 → parseFieldDescriptor (TX4 k).2.2.1 = some (tyX4 k) := by decide +kernel
abbrev cX4_init : ByteArray := prog_6_method_1_code
def yX4_init : MethodName := ⟨RX4, "<init>", "()V"⟩
abbrev cX4_append : ByteArray := prog_6_method_2_code
def yX4_append : MethodName := ⟨RX4, "append", "(I)Z"⟩
abbrev cX4_rewind : ByteArray := prog_6_method_3_code
def yX4_rewind : MethodName := ⟨RX4, "rewind", "()V"⟩
abbrev cX4_next : ByteArray := prog_6_method_4_code
def yX4_next : MethodName := ⟨RX4, "next", "()V"⟩
abbrev cX4_kindOf : ByteArray := prog_6_method_5_code
def yX4_kindOf : MethodName := ⟨RX4, "kindOf", "(B)I"⟩
abbrev cX4_valueNumber : ByteArray := prog_6_method_6_code
def yX4_valueNumber : MethodName := ⟨RX4, "valueNumber", "()V"⟩
abbrev cX4_isName : ByteArray := prog_6_method_7_code
def yX4_isName : MethodName := ⟨RX4, "isName", "(Ljava/lang/String;)Z"⟩
def RX5 : String := "LockTurns$Teller"
def TX5 : u_T := fun k => match k with
  | 0 => ("LockTurns$Teller", "told", "LLockTurns$Lock;", true)
  | 1 => ("LockTurns$Teller", "fault", "I", false)
  | 2 => ("LockTurns$Teller", "tape", "LLockTurns$Tape;", true)
  | 3 => ("LockTurns$Teller", "place", "I", false)
  | _ => ("LockTurns$Teller", "linesMet", "I", false)
def tyX5 : Nat → FieldType := fun k => match k with
  | 0 => .object "LockTurns$Lock"
  | 1 => .int
  | 2 => .object "LockTurns$Tape"
  | 3 => .int
  | _ => .int
abbrev wsX50 : List Cond := u_ws RX5 TX5 5
theorem nmX5 : ∀ a, a < 5 → ∀ b, b < 5 → a ≠ b → (TX5 a).2.1 ≠ (TX5 b).2.1 := by decide +kernel
theorem tyX5_ok : ∀ k, k < 5 → parseFieldDescriptor (TX5 k).2.2.1 = some (tyX5 k) := by decide +kernel
abbrev cX5_init : ByteArray := prog_7_method_1_code
def yX5_init : MethodName := ⟨RX5, "<init>", "(LLockTurns$Tape;)V"⟩
abbrev cX5_tell : ByteArray := prog_7_method_2_code
def yX5_tell : MethodName := ⟨RX5, "tell", "()I"⟩
abbrev cX5_takeLine : ByteArray := prog_7_method_3_code
def yX5_takeLine : MethodName := ⟨RX5, "takeLine", "()Z"⟩
abbrev cX5_isFirst : ByteArray := prog_7_method_4_code
def yX5_isFirst : MethodName := ⟨RX5, "isFirst", "(I)Z"⟩
abbrev cX5_takeBoat : ByteArray := prog_7_method_5_code
def yX5_takeBoat : MethodName := ⟨RX5, "takeBoat", "(I)Z"⟩
abbrev cX5_takeCargo : ByteArray := prog_7_method_6_code
def yX5_takeCargo : MethodName := ⟨RX5, "takeCargo", "(I)Z"⟩
abbrev cX5_takeRules : ByteArray := prog_7_method_7_code
def yX5_takeRules : MethodName := ⟨RX5, "takeRules", "(II)Z"⟩
abbrev cX5_takeLaw : ByteArray := prog_7_method_8_code
def yX5_takeLaw : MethodName := ⟨RX5, "takeLaw", "()Z"⟩
abbrev cX5_takeLiar : ByteArray := prog_7_method_9_code
def yX5_takeLiar : MethodName := ⟨RX5, "takeLiar", "()Z"⟩
abbrev cX5_takeNumber : ByteArray := prog_7_method_10_code
def yX5_takeNumber : MethodName := ⟨RX5, "takeNumber", "(II)Z"⟩
abbrev cX5_takeStop : ByteArray := prog_7_method_11_code
def yX5_takeStop : MethodName := ⟨RX5, "takeStop", "()Z"⟩
abbrev cX5_blameToken : ByteArray := prog_7_method_12_code
def yX5_blameToken : MethodName := ⟨RX5, "blameToken", "(I)Z"⟩
abbrev cX5_blame : ByteArray := prog_7_method_13_code
def yX5_blame : MethodName := ⟨RX5, "blame", "(II)Z"⟩
def RX6 : String := "LockTurns"
def TX6 : u_T := fun k => match k with
  | 0 => ("LockTurns", "now", "LLockTurns$Lock;", true)
  | 1 => ("LockTurns", "trial", "LLockTurns$Lock;", true)
  | 2 => ("LockTurns", "images", "[LLockTurns$Lock;", true)
  | 3 => ("LockTurns", "kept", "I", false)
  | 4 => ("LockTurns", "tape", "LLockTurns$Tape;", true)
  | 5 => ("LockTurns", "teller", "LLockTurns$Teller;", true)
  | 6 => ("LockTurns", "run", "LLockTurns$Day;", true)
  | 7 => ("LockTurns", "plan", "LLockTurns$Plan;", true)
  | 8 => ("LockTurns", "places", "[I", true)
  | 9 => ("LockTurns", "stoodBySet", "[I", true)
  | 10 => ("LockTurns", "sheets", "[LLockTurns$Sheet;", true)
  | _ => ("LockTurns", "tornBy", "I", false)
def tyX6 : Nat → FieldType := fun k => match k with
  | 0 => .object "LockTurns$Lock"
  | 1 => .object "LockTurns$Lock"
  | 2 => .array (.object "LockTurns$Lock")
  | 3 => .int
  | 4 => .object "LockTurns$Tape"
  | 5 => .object "LockTurns$Teller"
  | 6 => .object "LockTurns$Day"
  | 7 => .object "LockTurns$Plan"
  | 8 => .array .int
  | 9 => .array .int
  | 10 => .array (.object "LockTurns$Sheet")
  | _ => .int
abbrev wsX60 : List Cond := u_ws RX6 TX6 12
theorem nmX6 : ∀ a, a < 12 → ∀ b, b < 12 → a ≠ b → (TX6 a).2.1 ≠ (TX6 b).2.1 := by decide +kernel
theorem tyX6_ok : ∀ k, k < 12 → parseFieldDescriptor (TX6 k).2.2.1 = some (tyX6 k) := by decide +kernel
abbrev cX6_init : ByteArray := prog_1_method_1_code
def yX6_init : MethodName := ⟨RX6, "<init>", "()V"⟩
abbrev cX6_feed : ByteArray := prog_1_method_2_code
def yX6_feed : MethodName := ⟨RX6, "feed", "(I)I"⟩
abbrev cX6_end : ByteArray := prog_1_method_3_code
def yX6_end : MethodName := ⟨RX6, "end", "(I)I"⟩
abbrev cX6_text : ByteArray := prog_1_method_4_code
def yX6_text : MethodName := ⟨RX6, "text", "()I"⟩
abbrev cX6_fault : ByteArray := prog_1_method_5_code
def yX6_fault : MethodName := ⟨RX6, "fault", "()I"⟩
abbrev cX6_rule : ByteArray := prog_1_method_6_code
def yX6_rule : MethodName := ⟨RX6, "rule", "(I)I"⟩
abbrev cX6_boat : ByteArray := prog_1_method_7_code
def yX6_boat : MethodName := ⟨RX6, "boat", "(II)I"⟩
abbrev cX6_set : ByteArray := prog_1_method_8_code
def yX6_set : MethodName := ⟨RX6, "set", "(II)I"⟩
abbrev cX6_alter : ByteArray := prog_1_method_9_code
def yX6_alter : MethodName := ⟨RX6, "alter", "(III)I"⟩
abbrev cX6_lie : ByteArray := prog_1_method_10_code
def yX6_lie : MethodName := ⟨RX6, "lie", "(IZ)I"⟩
abbrev cX6_cross : ByteArray := prog_1_method_11_code
def yX6_cross : MethodName := ⟨RX6, "cross", "(I)I"⟩
abbrev cX6_passes : ByteArray := prog_1_method_12_code
def yX6_passes : MethodName := ⟨RX6, "passes", "(I)I"⟩
abbrev cX6_through : ByteArray := prog_1_method_13_code
def yX6_through : MethodName := ⟨RX6, "through", "(I)I"⟩
abbrev cX6_stood : ByteArray := prog_1_method_14_code
def yX6_stood : MethodName := ⟨RX6, "stood", "(I)I"⟩
abbrev cX6_day : ByteArray := prog_1_method_15_code
def yX6_day : MethodName := ⟨RX6, "day", "(I)I"⟩
abbrev cX6_table : ByteArray := prog_1_method_16_code
def yX6_table : MethodName := ⟨RX6, "table", "(II)I"⟩
abbrev cX6_best : ByteArray := prog_1_method_17_code
def yX6_best : MethodName := ⟨RX6, "best", "(I)I"⟩
abbrev cX6_order : ByteArray := prog_1_method_18_code
def yX6_order : MethodName := ⟨RX6, "order", "(I)I"⟩
abbrev cX6_firsts : ByteArray := prog_1_method_19_code
def yX6_firsts : MethodName := ⟨RX6, "firsts", "(I)I"⟩
abbrev cX6_gain : ByteArray := prog_1_method_20_code
def yX6_gain : MethodName := ⟨RX6, "gain", "(I)I"⟩
abbrev cX6_calm : ByteArray := prog_1_method_21_code
def yX6_calm : MethodName := ⟨RX6, "calm", "()I"⟩
abbrev cX6_rests : ByteArray := prog_1_method_22_code
def yX6_rests : MethodName := ⟨RX6, "rests", "(I)I"⟩
abbrev cX6_isCalm : ByteArray := prog_1_method_23_code
def yX6_isCalm : MethodName := ⟨RX6, "isCalm", "(I)Z"⟩
abbrev cX6_gained : ByteArray := prog_1_method_24_code
def yX6_gained : MethodName := ⟨RX6, "gained", "(II)I"⟩
abbrev cX6_fillStoodBySet : ByteArray := prog_1_method_25_code
def yX6_fillStoodBySet : MethodName := ⟨RX6, "fillStoodBySet", "(I)V"⟩
abbrev cX6_isRest : ByteArray := prog_1_method_26_code
def yX6_isRest : MethodName := ⟨RX6, "isRest", "(I)Z"⟩
abbrev cX6_boy : ByteArray := prog_1_method_27_code
def yX6_boy : MethodName := ⟨RX6, "boy", "(II)I"⟩
abbrev cX6_post : ByteArray := prog_1_method_28_code
def yX6_post : MethodName := ⟨RX6, "post", "(I)I"⟩
abbrev cX6_late : ByteArray := prog_1_method_29_code
def yX6_late : MethodName := ⟨RX6, "late", "(I)I"⟩
abbrev cX6_deal : ByteArray := prog_1_method_30_code
def yX6_deal : MethodName := ⟨RX6, "deal", "(III)I"⟩
abbrev cX6_mean : ByteArray := prog_1_method_31_code
def yX6_mean : MethodName := ⟨RX6, "mean", "(III)J"⟩
abbrev cX6_luck : ByteArray := prog_1_method_32_code
def yX6_luck : MethodName := ⟨RX6, "luck", "(IIII)J"⟩
abbrev cX6_weight : ByteArray := prog_1_method_33_code
def yX6_weight : MethodName := ⟨RX6, "weight", "(II)J"⟩
abbrev cX6_weightOfAll : ByteArray := prog_1_method_34_code
def yX6_weightOfAll : MethodName := ⟨RX6, "weightOfAll", "()J"⟩
abbrev cX6_lowest : ByteArray := prog_1_method_35_code
def yX6_lowest : MethodName := ⟨RX6, "lowest", "(JJI)J"⟩
abbrev cX6_commonDivisor : ByteArray := prog_1_method_36_code
def yX6_commonDivisor : MethodName := ⟨RX6, "commonDivisor", "(JJ)J"⟩
abbrev cX6_see : ByteArray := prog_1_method_37_code
def yX6_see : MethodName := ⟨RX6, "see", "(II)I"⟩
abbrev cX6_forget : ByteArray := prog_1_method_38_code
def yX6_forget : MethodName := ⟨RX6, "forget", "(I)I"⟩
abbrev cX6_fits : ByteArray := prog_1_method_39_code
def yX6_fits : MethodName := ⟨RX6, "fits", "(I)I"⟩
abbrev cX6_drift : ByteArray := prog_1_method_40_code
def yX6_drift : MethodName := ⟨RX6, "drift", "(III)I"⟩
abbrev cX6_keep : ByteArray := prog_1_method_41_code
def yX6_keep : MethodName := ⟨RX6, "keep", "(I)I"⟩
abbrev cX6_back : ByteArray := prog_1_method_42_code
def yX6_back : MethodName := ⟨RX6, "back", "(I)I"⟩
abbrev cX6_sheet : ByteArray := prog_1_method_43_code
def yX6_sheet : MethodName := ⟨RX6, "sheet", "(III)I"⟩
abbrev cX6_lay : ByteArray := prog_1_method_44_code
def yX6_lay : MethodName := ⟨RX6, "lay", "(III)I"⟩
abbrev cX6_read : ByteArray := prog_1_method_45_code
def yX6_read : MethodName := ⟨RX6, "read", "(IIII)I"⟩
abbrev cX6_torn : ByteArray := prog_1_method_46_code
def yX6_torn : MethodName := ⟨RX6, "torn", "()I"⟩
abbrev cX6_count : ByteArray := prog_1_method_47_code
def yX6_count : MethodName := ⟨RX6, "count", "(I)I"⟩
abbrev cX6_isComing : ByteArray := prog_1_method_48_code
def yX6_isComing : MethodName := ⟨RX6, "isComing", "(LLockTurns$Sheet;I)Z"⟩
abbrev cX6_runAsTold : ByteArray := prog_1_method_49_code
def yX6_runAsTold : MethodName := ⟨RX6, "runAsTold", "(LLockTurns$Lock;)V"⟩
abbrev cX6_isBoat : ByteArray := prog_1_method_50_code
def yX6_isBoat : MethodName := ⟨RX6, "isBoat", "(I)Z"⟩
abbrev cX6_isPair : ByteArray := prog_1_method_51_code
def yX6_isPair : MethodName := ⟨RX6, "isPair", "(II)Z"⟩
abbrev cX6_liarSets : ByteArray := prog_1_method_52_code
def yX6_liarSets : MethodName := ⟨RX6, "liarSets", "()I"⟩
abbrev cX6_isLaw : ByteArray := prog_1_method_53_code
def yX6_isLaw : MethodName := ⟨RX6, "isLaw", "(I)Z"⟩
abbrev cX6_isMeasure : ByteArray := prog_1_method_54_code
def yX6_isMeasure : MethodName := ⟨RX6, "isMeasure", "(I)Z"⟩
abbrev cX6_isSheet : ByteArray := prog_1_method_55_code
def yX6_isSheet : MethodName := ⟨RX6, "isSheet", "(I)Z"⟩
abbrev cX6_hearsLies : ByteArray := prog_1_method_56_code
def yX6_hearsLies : MethodName := ⟨RX6, "hearsLies", "(I)Z"⟩
abbrev cX6_otherSide : ByteArray := prog_1_method_57_code
def yX6_otherSide : MethodName := ⟨RX6, "otherSide", "(I)I"⟩
abbrev cX6_within : ByteArray := prog_1_method_58_code
def yX6_within : MethodName := ⟨RX6, "within", "(III)Z"⟩
def RX7 : String := "LockTurnsModel"
def TX7 : u_T := fun k => match k with
  | 0 => ("LockTurnsModel", "st", "[I", true)
  | 1 => ("LockTurnsModel", "at", "[I", true)
  | 2 => ("LockTurnsModel", "isKept", "[Z", true)
  | 3 => ("LockTurnsModel", "boats", "I", false)
  | 4 => ("LockTurnsModel", "draft", "[I", true)
  | 5 => ("LockTurnsModel", "dBoats", "I", false)
  | 6 => ("LockTurnsModel", "toldLines", "I", false)
  | 7 => ("LockTurnsModel", "toldLiars", "I", false)
  | 8 => ("LockTurnsModel", "highest", "I", false)
  | 9 => ("LockTurnsModel", "tape", "[I", true)
  | 10 => ("LockTurnsModel", "taped", "I", false)
  | 11 => ("LockTurnsModel", "pos", "I", false)
  | 12 => ("LockTurnsModel", "from", "I", false)
  | 13 => ("LockTurnsModel", "sort", "I", false)
  | 14 => ("LockTurnsModel", "value", "I", false)
  | 15 => ("LockTurnsModel", "fault", "I", false)
  | 16 => ("LockTurnsModel", "wrongAt", "I", false)
  | 17 => ("LockTurnsModel", "caught", "I", false)
  | 18 => ("LockTurnsModel", "passed", "[I", true)
  | 19 => ("LockTurnsModel", "done", "[I", true)
  | 20 => ("LockTurnsModel", "stands", "[I", true)
  | 21 => ("LockTurnsModel", "passedMany", "I", false)
  | 22 => ("LockTurnsModel", "free", "I", false)
  | 23 => ("LockTurnsModel", "ready", "I", false)
  | 24 => ("LockTurnsModel", "water", "I", false)
  | 25 => ("LockTurnsModel", "turned", "I", false)
  | 26 => ("LockTurnsModel", "row", "[I", true)
  | 27 => ("LockTurnsModel", "lanes", "[I", true)
  | 28 => ("LockTurnsModel", "sizes", "[I", true)
  | 29 => ("LockTurnsModel", "cells", "[I", true)
  | 30 => ("LockTurnsModel", "torn", "I", false)
  | _ => ("LockTurnsModel", "had", "[I", true)
def tyX7 : Nat → FieldType := fun k => match k with
  | 0 => .array .int
  | 1 => .array .int
  | 2 => .array .boolean
  | 3 => .int
  | 4 => .array .int
  | 5 => .int
  | 6 => .int
  | 7 => .int
  | 8 => .int
  | 9 => .array .int
  | 10 => .int
  | 11 => .int
  | 12 => .int
  | 13 => .int
  | 14 => .int
  | 15 => .int
  | 16 => .int
  | 17 => .int
  | 18 => .array .int
  | 19 => .array .int
  | 20 => .array .int
  | 21 => .int
  | 22 => .int
  | 23 => .int
  | 24 => .int
  | 25 => .int
  | 26 => .array .int
  | 27 => .array .int
  | 28 => .array .int
  | 29 => .array .int
  | 30 => .int
  | _ => .array .int
abbrev wsX70 : List Cond := u_ws RX7 TX7 32
theorem nmX7 : ∀ a, a < 32 → ∀ b, b < 32 → a ≠ b → (TX7 a).2.1 ≠ (TX7 b).2.1 := by decide +kernel
theorem tyX7_ok : ∀ k, k < 32 → parseFieldDescriptor (TX7 k).2.2.1 = some (tyX7 k) := by decide +kernel
abbrev cX7_init : ByteArray := prog_9_method_1_code
def yX7_init : MethodName := ⟨RX7, "<init>", "()V"⟩
abbrev cX7_in : ByteArray := prog_9_method_3_code
def yX7_in : MethodName := ⟨RX7, "in", "(JJJ)Z"⟩
abbrev cX7_flag : ByteArray := prog_9_method_4_code
def yX7_flag : MethodName := ⟨RX7, "flag", "(Z)I"⟩
abbrev cX7_firstDraft : ByteArray := prog_9_method_5_code
def yX7_firstDraft : MethodName := ⟨RX7, "firstDraft", "()V"⟩
abbrev cX7_keepDraft : ByteArray := prog_9_method_6_code
def yX7_keepDraft : MethodName := ⟨RX7, "keepDraft", "()V"⟩
abbrev cX7_feed : ByteArray := prog_9_method_7_code
def yX7_feed : MethodName := ⟨RX7, "feed", "(I)I"⟩
abbrev cX7_end : ByteArray := prog_9_method_8_code
def yX7_end : MethodName := ⟨RX7, "end", "(I)I"⟩
abbrev cX7_needs : ByteArray := prog_9_method_9_code
def yX7_needs : MethodName := ⟨RX7, "needs", "(ZI)V"⟩
abbrev cX7_byteAt : ByteArray := prog_9_method_10_code
def yX7_byteAt : MethodName := ⟨RX7, "byteAt", "(I)I"⟩
abbrev cX7_is : ByteArray := prog_9_method_11_code
def yX7_is : MethodName := ⟨RX7, "is", "(IIIII)Z"⟩
abbrev cX7_endsWith : ByteArray := prog_9_method_12_code
def yX7_endsWith : MethodName := ⟨RX7, "endsWith", "(I)Z"⟩
abbrev cX7_lineNow : ByteArray := prog_9_method_13_code
def yX7_lineNow : MethodName := ⟨RX7, "lineNow", "()I"⟩
abbrev cX7_cargoNow : ByteArray := prog_9_method_14_code
def yX7_cargoNow : MethodName := ⟨RX7, "cargoNow", "()I"⟩
abbrev cX7_lawNow : ByteArray := prog_9_method_15_code
def yX7_lawNow : MethodName := ⟨RX7, "lawNow", "()I"⟩
abbrev cX7_next : ByteArray := prog_9_method_16_code
def yX7_next : MethodName := ⟨RX7, "next", "()V"⟩
abbrev cX7_looked : ByteArray := prog_9_method_17_code
def yX7_looked : MethodName := ⟨RX7, "looked", "(II)I"⟩
abbrev cX7_readNumber : ByteArray := prog_9_method_18_code
def yX7_readNumber : MethodName := ⟨RX7, "readNumber", "(II)I"⟩
abbrev cX7_readName : ByteArray := prog_9_method_19_code
def yX7_readName : MethodName := ⟨RX7, "readName", "(I)I"⟩
abbrev cX7_readBoat : ByteArray := prog_9_method_20_code
def yX7_readBoat : MethodName := ⟨RX7, "readBoat", "(I)V"⟩
abbrev cX7_readLiar : ByteArray := prog_9_method_21_code
def yX7_readLiar : MethodName := ⟨RX7, "readLiar", "()V"⟩
abbrev cX7_readLineOf : ByteArray := prog_9_method_22_code
def yX7_readLineOf : MethodName := ⟨RX7, "readLineOf", "(I)V"⟩
abbrev cX7_readLine : ByteArray := prog_9_method_23_code
def yX7_readLine : MethodName := ⟨RX7, "readLine", "()V"⟩
abbrev cX7_text : ByteArray := prog_9_method_24_code
def yX7_text : MethodName := ⟨RX7, "text", "()I"⟩
abbrev cX7_fault : ByteArray := prog_9_method_25_code
def yX7_fault : MethodName := ⟨RX7, "fault", "()I"⟩
abbrev cX7_isBoat : ByteArray := prog_9_method_26_code
def yX7_isBoat : MethodName := ⟨RX7, "isBoat", "(I)Z"⟩
abbrev cX7_isPart : ByteArray := prog_9_method_27_code
def yX7_isPart : MethodName := ⟨RX7, "isPart", "(I)Z"⟩
abbrev cX7_starts : ByteArray := prog_9_method_28_code
def yX7_starts : MethodName := ⟨RX7, "starts", "()V"⟩
abbrev cX7_of : ByteArray := prog_9_method_29_code
def yX7_of : MethodName := ⟨RX7, "of", "(II)I"⟩
abbrev cX7_becomesOf : ByteArray := prog_9_method_30_code
def yX7_becomesOf : MethodName := ⟨RX7, "becomesOf", "(III)V"⟩
abbrev cX7_countsFrom : ByteArray := prog_9_method_31_code
def yX7_countsFrom : MethodName := ⟨RX7, "countsFrom", "(I)I"⟩
abbrev cX7_cargoTold : ByteArray := prog_9_method_32_code
def yX7_cargoTold : MethodName := ⟨RX7, "cargoTold", "(I)I"⟩
abbrev cX7_opens : ByteArray := prog_9_method_33_code
def yX7_opens : MethodName := ⟨RX7, "opens", "()V"⟩
abbrev cX7_lets : ByteArray := prog_9_method_34_code
def yX7_lets : MethodName := ⟨RX7, "lets", "(I)V"⟩
abbrev cX7_sideOf : ByteArray := prog_9_method_35_code
def yX7_sideOf : MethodName := ⟨RX7, "sideOf", "(I)I"⟩
abbrev cX7_comeFrom : ByteArray := prog_9_method_36_code
def yX7_comeFrom : MethodName := ⟨RX7, "comeFrom", "(II)I"⟩
abbrev cX7_bitsOf : ByteArray := prog_9_method_37_code
def yX7_bitsOf : MethodName := ⟨RX7, "bitsOf", "(I)I"⟩
abbrev cX7_preferred : ByteArray := prog_9_method_38_code
def yX7_preferred : MethodName := ⟨RX7, "preferred", "(II)I"⟩
abbrev cX7_leastCargo : ByteArray := prog_9_method_39_code
def yX7_leastCargo : MethodName := ⟨RX7, "leastCargo", "(I)I"⟩
abbrev cX7_taken : ByteArray := prog_9_method_40_code
def yX7_taken : MethodName := ⟨RX7, "taken", "(I)I"⟩
abbrev cX7_earliest : ByteArray := prog_9_method_41_code
def yX7_earliest : MethodName := ⟨RX7, "earliest", "(I)I"⟩
abbrev cX7_counting : ByteArray := prog_9_method_42_code
def yX7_counting : MethodName := ⟨RX7, "counting", "(I)I"⟩
abbrev cX7_dayGoes : ByteArray := prog_9_method_43_code
def yX7_dayGoes : MethodName := ⟨RX7, "dayGoes", "()V"⟩
abbrev cX7_costNow : ByteArray := prog_9_method_44_code
def yX7_costNow : MethodName := ⟨RX7, "costNow", "()I"⟩
abbrev cX7_tells : ByteArray := prog_9_method_45_code
def yX7_tells : MethodName := ⟨RX7, "tells", "(I)I"⟩
abbrev cX7_dayNow : ByteArray := prog_9_method_46_code
def yX7_dayNow : MethodName := ⟨RX7, "dayNow", "()V"⟩
abbrev cX7_placeOf : ByteArray := prog_9_method_47_code
def yX7_placeOf : MethodName := ⟨RX7, "placeOf", "(I)I"⟩
abbrev cX7_liars : ByteArray := prog_9_method_48_code
def yX7_liars : MethodName := ⟨RX7, "liars", "()I"⟩
abbrev cX7_rule : ByteArray := prog_9_method_49_code
def yX7_rule : MethodName := ⟨RX7, "rule", "(I)I"⟩
abbrev cX7_boat : ByteArray := prog_9_method_50_code
def yX7_boat : MethodName := ⟨RX7, "boat", "(II)I"⟩
abbrev cX7_becomes : ByteArray := prog_9_method_51_code
def yX7_becomes : MethodName := ⟨RX7, "becomes", "(II)I"⟩
abbrev cX7_mostOf : ByteArray := prog_9_method_52_code
def yX7_mostOf : MethodName := ⟨RX7, "mostOf", "(I)I"⟩
abbrev cX7_set : ByteArray := prog_9_method_53_code
def yX7_set : MethodName := ⟨RX7, "set", "(II)I"⟩
abbrev cX7_alter : ByteArray := prog_9_method_54_code
def yX7_alter : MethodName := ⟨RX7, "alter", "(III)I"⟩
abbrev cX7_lie : ByteArray := prog_9_method_55_code
def yX7_lie : MethodName := ⟨RX7, "lie", "(IZ)I"⟩
abbrev cX7_cross : ByteArray := prog_9_method_56_code
def yX7_cross : MethodName := ⟨RX7, "cross", "(I)I"⟩
abbrev cX7_passes : ByteArray := prog_9_method_57_code
def yX7_passes : MethodName := ⟨RX7, "passes", "(I)I"⟩
abbrev cX7_through : ByteArray := prog_9_method_58_code
def yX7_through : MethodName := ⟨RX7, "through", "(I)I"⟩
abbrev cX7_stood : ByteArray := prog_9_method_59_code
def yX7_stood : MethodName := ⟨RX7, "stood", "(I)I"⟩
abbrev cX7_day : ByteArray := prog_9_method_60_code
def yX7_day : MethodName := ⟨RX7, "day", "(I)I"⟩
abbrev cX7_dayBy : ByteArray := prog_9_method_61_code
def yX7_dayBy : MethodName := ⟨RX7, "dayBy", "(I)V"⟩
abbrev cX7_table : ByteArray := prog_9_method_62_code
def yX7_table : MethodName := ⟨RX7, "table", "(II)I"⟩
abbrev cX7_best : ByteArray := prog_9_method_63_code
def yX7_best : MethodName := ⟨RX7, "best", "(I)I"⟩
abbrev cX7_rows : ByteArray := prog_9_method_64_code
def yX7_rows : MethodName := ⟨RX7, "rows", "()I"⟩
abbrev cX7_isOrder : ByteArray := prog_9_method_65_code
def yX7_isOrder : MethodName := ⟨RX7, "isOrder", "(I)Z"⟩
abbrev cX7_goesInOrder : ByteArray := prog_9_method_66_code
def yX7_goesInOrder : MethodName := ⟨RX7, "goesInOrder", "()V"⟩
abbrev cX7_order : ByteArray := prog_9_method_67_code
def yX7_order : MethodName := ⟨RX7, "order", "(I)I"⟩
abbrev cX7_firsts : ByteArray := prog_9_method_68_code
def yX7_firsts : MethodName := ⟨RX7, "firsts", "(I)I"⟩
abbrev cX7_gainOf : ByteArray := prog_9_method_69_code
def yX7_gainOf : MethodName := ⟨RX7, "gainOf", "(I)I"⟩
abbrev cX7_gain : ByteArray := prog_9_method_70_code
def yX7_gain : MethodName := ⟨RX7, "gain", "(I)I"⟩
abbrev cX7_isCalm : ByteArray := prog_9_method_71_code
def yX7_isCalm : MethodName := ⟨RX7, "isCalm", "()Z"⟩
abbrev cX7_calm : ByteArray := prog_9_method_72_code
def yX7_calm : MethodName := ⟨RX7, "calm", "()I"⟩
abbrev cX7_liesBy : ByteArray := prog_9_method_73_code
def yX7_liesBy : MethodName := ⟨RX7, "liesBy", "(I)V"⟩
abbrev cX7_rests : ByteArray := prog_9_method_74_code
def yX7_rests : MethodName := ⟨RX7, "rests", "(I)I"⟩
abbrev cX7_boy : ByteArray := prog_9_method_75_code
def yX7_boy : MethodName := ⟨RX7, "boy", "(II)I"⟩
abbrev cX7_post : ByteArray := prog_9_method_76_code
def yX7_post : MethodName := ⟨RX7, "post", "(I)I"⟩
abbrev cX7_late : ByteArray := prog_9_method_77_code
def yX7_late : MethodName := ⟨RX7, "late", "(I)I"⟩
abbrev cX7_deal : ByteArray := prog_9_method_78_code
def yX7_deal : MethodName := ⟨RX7, "deal", "(III)I"⟩
abbrev cX7_common : ByteArray := prog_9_method_79_code
def yX7_common : MethodName := ⟨RX7, "common", "(JJ)J"⟩
abbrev cX7_told : ByteArray := prog_9_method_80_code
def yX7_told : MethodName := ⟨RX7, "told", "(JJI)J"⟩
abbrev cX7_waysOf : ByteArray := prog_9_method_81_code
def yX7_waysOf : MethodName := ⟨RX7, "waysOf", "(II)J"⟩
abbrev cX7_allWays : ByteArray := prog_9_method_82_code
def yX7_allWays : MethodName := ⟨RX7, "allWays", "()J"⟩
abbrev cX7_dayCaught : ByteArray := prog_9_method_83_code
def yX7_dayCaught : MethodName := ⟨RX7, "dayCaught", "(I)V"⟩
abbrev cX7_mean : ByteArray := prog_9_method_84_code
def yX7_mean : MethodName := ⟨RX7, "mean", "(III)J"⟩
abbrev cX7_luck : ByteArray := prog_9_method_85_code
def yX7_luck : MethodName := ⟨RX7, "luck", "(IIII)J"⟩
abbrev cX7_see : ByteArray := prog_9_method_86_code
def yX7_see : MethodName := ⟨RX7, "see", "(II)I"⟩
abbrev cX7_forget : ByteArray := prog_9_method_87_code
def yX7_forget : MethodName := ⟨RX7, "forget", "(I)I"⟩
abbrev cX7_isSo : ByteArray := prog_9_method_88_code
def yX7_isSo : MethodName := ⟨RX7, "isSo", "(II)Z"⟩
abbrev cX7_fits : ByteArray := prog_9_method_89_code
def yX7_fits : MethodName := ⟨RX7, "fits", "(I)I"⟩
abbrev cX7_drift : ByteArray := prog_9_method_90_code
def yX7_drift : MethodName := ⟨RX7, "drift", "(III)I"⟩
abbrev cX7_copies : ByteArray := prog_9_method_91_code
def yX7_copies : MethodName := ⟨RX7, "copies", "(II)V"⟩
abbrev cX7_keep : ByteArray := prog_9_method_92_code
def yX7_keep : MethodName := ⟨RX7, "keep", "(I)I"⟩
abbrev cX7_back : ByteArray := prog_9_method_93_code
def yX7_back : MethodName := ⟨RX7, "back", "(I)I"⟩
abbrev cX7_isSheet : ByteArray := prog_9_method_94_code
def yX7_isSheet : MethodName := ⟨RX7, "isSheet", "(II)Z"⟩
abbrev cX7_sheet : ByteArray := prog_9_method_95_code
def yX7_sheet : MethodName := ⟨RX7, "sheet", "(III)I"⟩
abbrev cX7_lay : ByteArray := prog_9_method_96_code
def yX7_lay : MethodName := ⟨RX7, "lay", "(III)I"⟩
abbrev cX7_read : ByteArray := prog_9_method_97_code
def yX7_read : MethodName := ⟨RX7, "read", "(IIII)I"⟩
abbrev cX7_torn : ByteArray := prog_9_method_98_code
def yX7_torn : MethodName := ⟨RX7, "torn", "()I"⟩
abbrev cX7_count : ByteArray := prog_9_method_99_code
def yX7_count : MethodName := ⟨RX7, "count", "(I)I"⟩
def RJx145de : String := "java/io/Serializable"
def TJx145de : u_T := fun k => match k with
  | _ => ("", "", "", false)
def tyJx145de : Nat → FieldType := fun k => match k with
  | _ => .int
abbrev wsJx145de0 : List Cond := u_ws RJx145de TJx145de 0
theorem nmJx145de : ∀ a, a < 0 → ∀ b, b < 0 → a ≠ b → (TJx145de a).2.1 ≠ (TJx145de b).2.1 := by decide +kernel
theorem tyJx145de_ok : ∀ k, k < 0 → parseFieldDescriptor (TJx145de k).2.2.1 = some (tyJx145de k) := by decide +kernel
def RJx9f9b0 : String := "java/lang/CharSequence"
def TJx9f9b0 : u_T := fun k => match k with
  | _ => ("", "", "", false)
def tyJx9f9b0 : Nat → FieldType := fun k => match k with
  | _ => .int
abbrev wsJx9f9b00 : List Cond := u_ws RJx9f9b0 TJx9f9b0 0
theorem nmJx9f9b0 : ∀ a, a < 0 → ∀ b, b < 0 → a ≠ b → (TJx9f9b0 a).2.1 ≠ (TJx9f9b0 b).2.1 := by decide +kernel
theorem tyJx9f9b0_ok : ∀ k, k < 0 → parseFieldDescriptor (TJx9f9b0 k).2.2.1 = some (tyJx9f9b0 k) := by decide +kernel
def RJx8e188 : String := "java/lang/Cloneable"
def TJx8e188 : u_T := fun k => match k with
  | _ => ("", "", "", false)
def tyJx8e188 : Nat → FieldType := fun k => match k with
  | _ => .int
abbrev wsJx8e1880 : List Cond := u_ws RJx8e188 TJx8e188 0
theorem nmJx8e188 : ∀ a, a < 0 → ∀ b, b < 0 → a ≠ b → (TJx8e188 a).2.1 ≠ (TJx8e188 b).2.1 := by decide +kernel
theorem tyJx8e188_ok : ∀ k, k < 0 → parseFieldDescriptor (TJx8e188 k).2.2.1 = some (tyJx8e188 k) := by decide +kernel
def RJxb160c : String := "java/lang/Comparable"
def TJxb160c : u_T := fun k => match k with
  | _ => ("", "", "", false)
def tyJxb160c : Nat → FieldType := fun k => match k with
  | _ => .int
abbrev wsJxb160c0 : List Cond := u_ws RJxb160c TJxb160c 0
theorem nmJxb160c : ∀ a, a < 0 → ∀ b, b < 0 → a ≠ b → (TJxb160c a).2.1 ≠ (TJxb160c b).2.1 := by decide +kernel
theorem tyJxb160c_ok : ∀ k, k < 0 → parseFieldDescriptor (TJxb160c k).2.2.1 = some (tyJxb160c k) := by decide +kernel
def RJ6 : String := "java/lang/Integer"
def TJ6 : u_T := fun k => match k with
  | _ => ("", "", "", false)
def tyJ6 : Nat → FieldType := fun k => match k with
  | _ => .int
abbrev wsJ60 : List Cond := u_ws RJ6 TJ6 0
theorem nmJ6 : ∀ a, a < 0 → ∀ b, b < 0 → a ≠ b → (TJ6 a).2.1 ≠ (TJ6 b).2.1 := by decide +kernel
theorem tyJ6_ok : ∀ k, k < 0 → parseFieldDescriptor (TJ6 k).2.2.1 = some (tyJ6 k) := by decide +kernel
abbrev cJ6_bitCount_0f7a4 : ByteArray := prog_11_method_49_code
def yJ6_bitCount_0f7a4 : MethodName := ⟨RJ6, "bitCount", "(I)I"⟩
def RJ9 : String := "java/lang/Math"
def TJ9 : u_T := fun k => match k with
  | _ => ("", "", "", false)
def tyJ9 : Nat → FieldType := fun k => match k with
  | _ => .int
abbrev wsJ90 : List Cond := u_ws RJ9 TJ9 0
theorem nmJ9 : ∀ a, a < 0 → ∀ b, b < 0 → a ≠ b → (TJ9 a).2.1 ≠ (TJ9 b).2.1 := by decide +kernel
theorem tyJ9_ok : ∀ k, k < 0 → parseFieldDescriptor (TJ9 k).2.2.1 = some (tyJ9 k) := by decide +kernel
abbrev cJ9_max_7cf53 : ByteArray := prog_12_method_65_code
def yJ9_max_7cf53 : MethodName := ⟨RJ9, "max", "(II)I"⟩
abbrev cJ9_min_7cf53 : ByteArray := prog_12_method_69_code
def yJ9_min_7cf53 : MethodName := ⟨RJ9, "min", "(II)I"⟩
def RJ0 : String := "java/lang/String"
def TJ0 : u_T := fun k => match k with
  | _ => ("", "", "", false)
def tyJ0 : Nat → FieldType := fun k => match k with
  | _ => .int
abbrev wsJ00 : List Cond := u_ws RJ0 TJ0 0
theorem nmJ0 : ∀ a, a < 0 → ∀ b, b < 0 → a ≠ b → (TJ0 a).2.1 ≠ (TJ0 b).2.1 := by decide +kernel
theorem tyJ0_ok : ∀ k, k < 0 → parseFieldDescriptor (TJ0 k).2.2.1 = some (tyJ0 k) := by decide +kernel
abbrev cJ0_length_8abf5 : ByteArray := prog_13_method_54_code
def yJ0_length_8abf5 : MethodName := ⟨RJ0, "length", "()I"⟩
abbrev cJ0_charAt_5068e : ByteArray := prog_13_method_56_code
def yJ0_charAt_5068e : MethodName := ⟨RJ0, "charAt", "(I)C"⟩
abbrev cJ0_coder_7d493 : ByteArray := prog_13_method_152_code
def yJ0_coder_7d493 : MethodName := ⟨RJ0, "coder", "()B"⟩
abbrev cJ0_isLatin1_aae02 : ByteArray := prog_13_method_154_code
def yJ0_isLatin1_aae02 : MethodName := ⟨RJ0, "isLatin1", "()Z"⟩
abbrev cJ0_checkIndex_df160 : ByteArray := prog_13_method_155_code
def yJ0_checkIndex_df160 : MethodName := ⟨RJ0, "checkIndex", "(II)V"⟩
def RJ1 : String := "java/lang/StringLatin1"
def TJ1 : u_T := fun k => match k with
  | _ => ("", "", "", false)
def tyJ1 : Nat → FieldType := fun k => match k with
  | _ => .int
abbrev wsJ10 : List Cond := u_ws RJ1 TJ1 0
theorem nmJ1 : ∀ a, a < 0 → ∀ b, b < 0 → a ≠ b → (TJ1 a).2.1 ≠ (TJ1 b).2.1 := by decide +kernel
theorem tyJ1_ok : ∀ k, k < 0 → parseFieldDescriptor (TJ1 k).2.2.1 = some (tyJ1 k) := by decide +kernel
abbrev cJ1_charAt_3b067 : ByteArray := prog_14_method_2_code
def yJ1_charAt_3b067 : MethodName := ⟨RJ1, "charAt", "([BI)C"⟩
def RJ2 : String := "java/lang/StringUTF16"
def TJ2 : u_T := fun k => match k with
  | _ => ("", "", "", false)
def tyJ2 : Nat → FieldType := fun k => match k with
  | _ => .int
abbrev wsJ20 : List Cond := u_ws RJ2 TJ2 0
theorem nmJ2 : ∀ a, a < 0 → ∀ b, b < 0 → a ≠ b → (TJ2 a).2.1 ≠ (TJ2 b).2.1 := by decide +kernel
theorem tyJ2_ok : ∀ k, k < 0 → parseFieldDescriptor (TJ2 k).2.2.1 = some (tyJ2 k) := by decide +kernel
abbrev cJ2_getChar_3b067 : ByteArray := prog_15_method_5_code
def yJ2_getChar_3b067 : MethodName := ⟨RJ2, "getChar", "([BI)C"⟩
abbrev cJ2_length_9d52b : ByteArray := prog_15_method_6_code
def yJ2_length_9d52b : MethodName := ⟨RJ2, "length", "([B)I"⟩
abbrev cJ2_charAt_3b067 : ByteArray := prog_15_method_83_code
def yJ2_charAt_3b067 : MethodName := ⟨RJ2, "charAt", "([BI)C"⟩
abbrev cJ2_checkIndex_2214a : ByteArray := prog_15_method_91_code
def yJ2_checkIndex_2214a : MethodName := ⟨RJ2, "checkIndex", "(I[B)V"⟩
def RJ10 : String := "java/lang/System"
def TJ10 : u_T := fun k => match k with
  | _ => ("", "", "", false)
def tyJ10 : Nat → FieldType := fun k => match k with
  | _ => .int
abbrev wsJ100 : List Cond := u_ws RJ10 TJ10 0
theorem nmJ10 : ∀ a, a < 0 → ∀ b, b < 0 → a ≠ b → (TJ10 a).2.1 ≠ (TJ10 b).2.1 := by decide +kernel
theorem tyJ10_ok : ∀ k, k < 0 → parseFieldDescriptor (TJ10 k).2.2.1 = some (tyJ10 k) := by decide +kernel
def RJxfd54e : String := "java/lang/constant/Constable"
def TJxfd54e : u_T := fun k => match k with
  | _ => ("", "", "", false)
def tyJxfd54e : Nat → FieldType := fun k => match k with
  | _ => .int
abbrev wsJxfd54e0 : List Cond := u_ws RJxfd54e TJxfd54e 0
theorem nmJxfd54e : ∀ a, a < 0 → ∀ b, b < 0 → a ≠ b → (TJxfd54e a).2.1 ≠ (TJxfd54e b).2.1 := by decide +kernel
theorem tyJxfd54e_ok : ∀ k, k < 0 → parseFieldDescriptor (TJxfd54e k).2.2.1 = some (tyJxfd54e k) := by decide +kernel
def RJx3cf43 : String := "java/lang/constant/ConstantDesc"
def TJx3cf43 : u_T := fun k => match k with
  | _ => ("", "", "", false)
def tyJx3cf43 : Nat → FieldType := fun k => match k with
  | _ => .int
abbrev wsJx3cf430 : List Cond := u_ws RJx3cf43 TJx3cf43 0
theorem nmJx3cf43 : ∀ a, a < 0 → ∀ b, b < 0 → a ≠ b → (TJx3cf43 a).2.1 ≠ (TJx3cf43 b).2.1 := by decide +kernel
theorem tyJx3cf43_ok : ∀ k, k < 0 → parseFieldDescriptor (TJx3cf43 k).2.2.1 = some (tyJx3cf43 k) := by decide +kernel
def RJ7 : String := "java/util/Arrays"
def TJ7 : u_T := fun k => match k with
  | _ => ("", "", "", false)
def tyJ7 : Nat → FieldType := fun k => match k with
  | _ => .int
abbrev wsJ70 : List Cond := u_ws RJ7 TJ7 0
theorem nmJ7 : ∀ a, a < 0 → ∀ b, b < 0 → a ≠ b → (TJ7 a).2.1 ≠ (TJ7 b).2.1 := by decide +kernel
theorem tyJ7_ok : ∀ k, k < 0 → parseFieldDescriptor (TJ7 k).2.2.1 = some (tyJ7 k) := by decide +kernel
abbrev cJ7_fill_53178 : ByteArray := prog_17_method_103_code
def yJ7_fill_53178 : MethodName := ⟨RJ7, "fill", "([II)V"⟩
def RJ3 : String := "jdk/internal/util/Preconditions"
def TJ3 : u_T := fun k => match k with
  | _ => ("", "", "", false)
def tyJ3 : Nat → FieldType := fun k => match k with
  | _ => .int
abbrev wsJ30 : List Cond := u_ws RJ3 TJ3 0
theorem nmJ3 : ∀ a, a < 0 → ∀ b, b < 0 → a ≠ b → (TJ3 a).2.1 ≠ (TJ3 b).2.1 := by decide +kernel
theorem tyJ3_ok : ∀ k, k < 0 → parseFieldDescriptor (TJ3 k).2.2.1 = some (tyJ3 k) := by decide +kernel
abbrev cJ3_checkIndex_8e157 : ByteArray := prog_18_method_11_code
def yJ3_checkIndex_8e157 : MethodName := ⟨RJ3, "checkIndex", "(IILjava/util/function/BiFunction;)I"⟩
def RL : String := "LockTurnsLaw"
abbrev cL_law : ByteArray := code
def yL_law : MethodName := ⟨RL, "law", "([I)Z"⟩

abbrev vwCl : List vw_C := [(RX0, TX0, 13), (RX1, TX1, 7), (RX2, TX2, 3), (RX3, TX3, 3), (RX4, TX4, 6), (RX5, TX5, 5), (RX6, TX6, 12), (RX7, TX7, 32)]
def z_WS : List Cond := lw_tbl.filter goodWord
theorem z_w {w : Cond} (i : Nat) (h : lw_tbl[i]? = some w) (hg : goodWord w = true) : w ∈ z_WS := List.mem_filter.mpr ⟨List.mem_of_getElem? h, hg⟩
theorem z_wn {w : Cond} (i : Nat) (h : lw_tbl[i]? = some w) : w ∈ lw_tbl := List.mem_of_getElem? h
theorem z_good : GoodIn z_WS z_WS := fun w h => ⟨h, good_of_word (List.mem_filter.mp h).2⟩
theorem z_ins {ws : List Cond} (ps : List Nat) (hp : ws.map some = ps.map (fun i => lw_tbl[i]?)) (hg : ws.all goodWord = true) : ∀ w ∈ ws, w ∈ z_WS := by
  intro w hw
  obtain ⟨k, hk⟩ := List.getElem?_of_mem hw
  have h1 : (ws.map some)[k]? = some (some w) := by rw [List.getElem?_map, hk]; rfl
  rw [hp, List.getElem?_map] at h1
  cases hi : ps[k]? with
  | none => rw [hi] at h1; cases h1
  | some i => rw [hi] at h1; exact z_w i (Option.some.inj h1) (List.all_eq_true.mp hg w hw)
/-- a method: its name, its code, how many locals, what it answers -/
abbrev zM : Type := MethodName × ByteArray × Nat × Option FieldType
abbrev mX0_init : zM := (yX0_init, cX0_init, 1, none)
abbrev mX0_by : zM := (yX0_by, cX0_by, 6, none)
abbrev mX0_inOrder : zM := (yX0_inOrder, cX0_inOrder, 4, none)
abbrev mX0_measure : zM := (yX0_measure, cX0_measure, 2, (some .int))
abbrev mX0_costOf : zM := (yX0_costOf, cX0_costOf, 3, (some .int))
abbrev mX0_isAsSeen : zM := (yX0_isAsSeen, cX0_isAsSeen, 2, (some .boolean))
abbrev mX0_begin : zM := (yX0_begin, cX0_begin, 2, none)
abbrev mX0_waitForOne : zM := (yX0_waitForOne, cX0_waitForOne, 4, none)
abbrev mX0_waits : zM := (yX0_waits, cX0_waits, 2, (some .boolean))
abbrev mX0_chosen : zM := (yX0_chosen, cX0_chosen, 8, (some .int))
abbrev mX0_rank : zM := (yX0_rank, cX0_rank, 5, (some .int))
abbrev mX0_sideAhead : zM := (yX0_sideAhead, cX0_sideAhead, 3, (some .int))
abbrev mX0_sideByTwos : zM := (yX0_sideByTwos, cX0_sideByTwos, 3, (some .int))
abbrev mX0_sideByQueue : zM := (yX0_sideByQueue, cX0_sideByQueue, 4, (some .int))
abbrev mX0_admit : zM := (yX0_admit, cX0_admit, 6, none)
abbrev mX1_init : zM := (yX1_init, cX1_init, 1, none)
abbrev mX1_clear : zM := (yX1_clear, cX1_clear, 1, none)
abbrev mX1_copyFrom : zM := (yX1_copyFrom, cX1_copyFrom, 2, none)
abbrev mX1_mark : zM := (yX1_mark, cX1_mark, 3, (some .int))
abbrev mX1_setMark : zM := (yX1_setMark, cX1_setMark, 4, none)
abbrev mX1_countsFrom : zM := (yX1_countsFrom, cX1_countsFrom, 3, (some .int))
abbrev mX1_boatsFrom : zM := (yX1_boatsFrom, cX1_boatsFrom, 4, (some .int))
abbrev mX1_addSeen : zM := (yX1_addSeen, cX1_addSeen, 3, (some .boolean))
abbrev mX1_wasSeenAs : zM := (yX1_wasSeenAs, cX1_wasSeenAs, 3, (some .boolean))
abbrev mX2_init : zM := (yX2_init, cX2_init, 1, none)
abbrev mX2_seekLeastCost : zM := (yX2_seekLeastCost, cX2_seekLeastCost, 2, none)
abbrev mX2_seek : zM := (yX2_seek, cX2_seek, 12, none)
abbrev mX3_init : zM := (yX3_init, cX3_init, 1, none)
abbrev mX3_isLane : zM := (yX3_isLane, cX3_isLane, 1, (some .boolean))
abbrev mX3_isNothing : zM := (yX3_isNothing, cX3_isNothing, 1, (some .boolean))
abbrev mX3_renew : zM := (yX3_renew, cX3_renew, 3, none)
abbrev mX3_put : zM := (yX3_put, cX3_put, 3, none)
abbrev mX3_cell : zM := (yX3_cell, cX3_cell, 2, (some .int))
abbrev mX3_faultAt : zM := (yX3_faultAt, cX3_faultAt, 2, (some .int))
abbrev mX3_faultOfPair : zM := (yX3_faultOfPair, cX3_faultOfPair, 4, (some .int))
abbrev mX4_init : zM := (yX4_init, cX4_init, 1, none)
abbrev mX4_append : zM := (yX4_append, cX4_append, 2, (some .boolean))
abbrev mX4_rewind : zM := (yX4_rewind, cX4_rewind, 1, none)
abbrev mX4_next : zM := (yX4_next, cX4_next, 1, none)
abbrev mX4_kindOf : zM := (yX4_kindOf, cX4_kindOf, 1, (some .int))
abbrev mX4_valueNumber : zM := (yX4_valueNumber, cX4_valueNumber, 2, none)
abbrev mX4_isName : zM := (yX4_isName, cX4_isName, 3, (some .boolean))
abbrev mX5_init : zM := (yX5_init, cX5_init, 2, none)
abbrev mX5_tell : zM := (yX5_tell, cX5_tell, 2, (some .int))
abbrev mX5_takeLine : zM := (yX5_takeLine, cX5_takeLine, 1, (some .boolean))
abbrev mX5_isFirst : zM := (yX5_isFirst, cX5_isFirst, 2, (some .boolean))
abbrev mX5_takeBoat : zM := (yX5_takeBoat, cX5_takeBoat, 4, (some .boolean))
abbrev mX5_takeCargo : zM := (yX5_takeCargo, cX5_takeCargo, 3, (some .boolean))
abbrev mX5_takeRules : zM := (yX5_takeRules, cX5_takeRules, 4, (some .boolean))
abbrev mX5_takeLaw : zM := (yX5_takeLaw, cX5_takeLaw, 2, (some .boolean))
abbrev mX5_takeLiar : zM := (yX5_takeLiar, cX5_takeLiar, 1, (some .boolean))
abbrev mX5_takeNumber : zM := (yX5_takeNumber, cX5_takeNumber, 3, (some .boolean))
abbrev mX5_takeStop : zM := (yX5_takeStop, cX5_takeStop, 1, (some .boolean))
abbrev mX5_blameToken : zM := (yX5_blameToken, cX5_blameToken, 2, (some .boolean))
abbrev mX5_blame : zM := (yX5_blame, cX5_blame, 3, (some .boolean))
abbrev mX6_init : zM := (yX6_init, cX6_init, 2, none)
abbrev mX6_feed : zM := (yX6_feed, cX6_feed, 2, (some .int))
abbrev mX6_end : zM := (yX6_end, cX6_end, 3, (some .int))
abbrev mX6_text : zM := (yX6_text, cX6_text, 2, (some .int))
abbrev mX6_fault : zM := (yX6_fault, cX6_fault, 1, (some .int))
abbrev mX6_rule : zM := (yX6_rule, cX6_rule, 2, (some .int))
abbrev mX6_boat : zM := (yX6_boat, cX6_boat, 3, (some .int))
abbrev mX6_set : zM := (yX6_set, cX6_set, 4, (some .int))
abbrev mX6_alter : zM := (yX6_alter, cX6_alter, 5, (some .int))
abbrev mX6_lie : zM := (yX6_lie, cX6_lie, 4, (some .int))
abbrev mX6_cross : zM := (yX6_cross, cX6_cross, 3, (some .int))
abbrev mX6_passes : zM := (yX6_passes, cX6_passes, 2, (some .int))
abbrev mX6_through : zM := (yX6_through, cX6_through, 2, (some .int))
abbrev mX6_stood : zM := (yX6_stood, cX6_stood, 2, (some .int))
abbrev mX6_day : zM := (yX6_day, cX6_day, 2, (some .int))
abbrev mX6_table : zM := (yX6_table, cX6_table, 3, (some .int))
abbrev mX6_best : zM := (yX6_best, cX6_best, 6, (some .int))
abbrev mX6_order : zM := (yX6_order, cX6_order, 2, (some .int))
abbrev mX6_firsts : zM := (yX6_firsts, cX6_firsts, 4, (some .int))
abbrev mX6_gain : zM := (yX6_gain, cX6_gain, 2, (some .int))
abbrev mX6_calm : zM := (yX6_calm, cX6_calm, 3, (some .int))
abbrev mX6_rests : zM := (yX6_rests, cX6_rests, 5, (some .int))
abbrev mX6_isCalm : zM := (yX6_isCalm, cX6_isCalm, 3, (some .boolean))
abbrev mX6_gained : zM := (yX6_gained, cX6_gained, 4, (some .int))
abbrev mX6_fillStoodBySet : zM := (yX6_fillStoodBySet, cX6_fillStoodBySet, 3, none)
abbrev mX6_isRest : zM := (yX6_isRest, cX6_isRest, 4, (some .boolean))
abbrev mX6_boy : zM := (yX6_boy, cX6_boy, 4, (some .int))
abbrev mX6_post : zM := (yX6_post, cX6_post, 5, (some .int))
abbrev mX6_late : zM := (yX6_late, cX6_late, 6, (some .int))
abbrev mX6_deal : zM := (yX6_deal, cX6_deal, 8, (some .int))
abbrev mX6_mean : zM := (yX6_mean, cX6_mean, 9, (some .long))
abbrev mX6_luck : zM := (yX6_luck, cX6_luck, 10, (some .long))
abbrev mX6_weight : zM := (yX6_weight, cX6_weight, 6, (some .long))
abbrev mX6_weightOfAll : zM := (yX6_weightOfAll, cX6_weightOfAll, 4, (some .long))
abbrev mX6_lowest : zM := (yX6_lowest, cX6_lowest, 7, (some .long))
abbrev mX6_commonDivisor : zM := (yX6_commonDivisor, cX6_commonDivisor, 7, (some .long))
abbrev mX6_see : zM := (yX6_see, cX6_see, 3, (some .int))
abbrev mX6_forget : zM := (yX6_forget, cX6_forget, 3, (some .int))
abbrev mX6_fits : zM := (yX6_fits, cX6_fits, 9, (some .int))
abbrev mX6_drift : zM := (yX6_drift, cX6_drift, 8, (some .int))
abbrev mX6_keep : zM := (yX6_keep, cX6_keep, 3, (some .int))
abbrev mX6_back : zM := (yX6_back, cX6_back, 2, (some .int))
abbrev mX6_sheet : zM := (yX6_sheet, cX6_sheet, 4, (some .int))
abbrev mX6_lay : zM := (yX6_lay, cX6_lay, 5, (some .int))
abbrev mX6_read : zM := (yX6_read, cX6_read, 9, (some .int))
abbrev mX6_torn : zM := (yX6_torn, cX6_torn, 1, (some .int))
abbrev mX6_count : zM := (yX6_count, cX6_count, 2, (some .int))
abbrev mX6_isComing : zM := (yX6_isComing, cX6_isComing, 3, (some .boolean))
abbrev mX6_runAsTold : zM := (yX6_runAsTold, cX6_runAsTold, 2, none)
abbrev mX6_isBoat : zM := (yX6_isBoat, cX6_isBoat, 2, (some .boolean))
abbrev mX6_isPair : zM := (yX6_isPair, cX6_isPair, 3, (some .boolean))
abbrev mX6_liarSets : zM := (yX6_liarSets, cX6_liarSets, 1, (some .int))
abbrev mX6_isLaw : zM := (yX6_isLaw, cX6_isLaw, 1, (some .boolean))
abbrev mX6_isMeasure : zM := (yX6_isMeasure, cX6_isMeasure, 1, (some .boolean))
abbrev mX6_isSheet : zM := (yX6_isSheet, cX6_isSheet, 1, (some .boolean))
abbrev mX6_hearsLies : zM := (yX6_hearsLies, cX6_hearsLies, 1, (some .boolean))
abbrev mX6_otherSide : zM := (yX6_otherSide, cX6_otherSide, 1, (some .int))
abbrev mX6_within : zM := (yX6_within, cX6_within, 3, (some .boolean))
abbrev mX7_init : zM := (yX7_init, cX7_init, 2, none)
abbrev mX7_in : zM := (yX7_in, cX7_in, 6, (some .boolean))
abbrev mX7_flag : zM := (yX7_flag, cX7_flag, 1, (some .int))
abbrev mX7_firstDraft : zM := (yX7_firstDraft, cX7_firstDraft, 2, none)
abbrev mX7_keepDraft : zM := (yX7_keepDraft, cX7_keepDraft, 2, none)
abbrev mX7_feed : zM := (yX7_feed, cX7_feed, 2, (some .int))
abbrev mX7_end : zM := (yX7_end, cX7_end, 3, (some .int))
abbrev mX7_needs : zM := (yX7_needs, cX7_needs, 3, none)
abbrev mX7_byteAt : zM := (yX7_byteAt, cX7_byteAt, 2, (some .int))
abbrev mX7_is : zM := (yX7_is, cX7_is, 6, (some .boolean))
abbrev mX7_endsWith : zM := (yX7_endsWith, cX7_endsWith, 2, (some .boolean))
abbrev mX7_lineNow : zM := (yX7_lineNow, cX7_lineNow, 1, (some .int))
abbrev mX7_cargoNow : zM := (yX7_cargoNow, cX7_cargoNow, 1, (some .int))
abbrev mX7_lawNow : zM := (yX7_lawNow, cX7_lawNow, 1, (some .int))
abbrev mX7_next : zM := (yX7_next, cX7_next, 2, none)
abbrev mX7_looked : zM := (yX7_looked, cX7_looked, 3, (some .int))
abbrev mX7_readNumber : zM := (yX7_readNumber, cX7_readNumber, 4, (some .int))
abbrev mX7_readName : zM := (yX7_readName, cX7_readName, 3, (some .int))
abbrev mX7_readBoat : zM := (yX7_readBoat, cX7_readBoat, 3, none)
abbrev mX7_readLiar : zM := (yX7_readLiar, cX7_readLiar, 2, none)
abbrev mX7_readLineOf : zM := (yX7_readLineOf, cX7_readLineOf, 2, none)
abbrev mX7_readLine : zM := (yX7_readLine, cX7_readLine, 2, none)
abbrev mX7_text : zM := (yX7_text, cX7_text, 2, (some .int))
abbrev mX7_fault : zM := (yX7_fault, cX7_fault, 1, (some .int))
abbrev mX7_isBoat : zM := (yX7_isBoat, cX7_isBoat, 2, (some .boolean))
abbrev mX7_isPart : zM := (yX7_isPart, cX7_isPart, 1, (some .boolean))
abbrev mX7_starts : zM := (yX7_starts, cX7_starts, 2, none)
abbrev mX7_of : zM := (yX7_of, cX7_of, 3, (some .int))
abbrev mX7_becomesOf : zM := (yX7_becomesOf, cX7_becomesOf, 4, none)
abbrev mX7_countsFrom : zM := (yX7_countsFrom, cX7_countsFrom, 4, (some .int))
abbrev mX7_cargoTold : zM := (yX7_cargoTold, cX7_cargoTold, 2, (some .int))
abbrev mX7_opens : zM := (yX7_opens, cX7_opens, 1, none)
abbrev mX7_lets : zM := (yX7_lets, cX7_lets, 4, none)
abbrev mX7_sideOf : zM := (yX7_sideOf, cX7_sideOf, 2, (some .int))
abbrev mX7_comeFrom : zM := (yX7_comeFrom, cX7_comeFrom, 5, (some .int))
abbrev mX7_bitsOf : zM := (yX7_bitsOf, cX7_bitsOf, 3, (some .int))
abbrev mX7_preferred : zM := (yX7_preferred, cX7_preferred, 4, (some .int))
abbrev mX7_leastCargo : zM := (yX7_leastCargo, cX7_leastCargo, 6, (some .int))
abbrev mX7_taken : zM := (yX7_taken, cX7_taken, 5, (some .int))
abbrev mX7_earliest : zM := (yX7_earliest, cX7_earliest, 5, (some .int))
abbrev mX7_counting : zM := (yX7_counting, cX7_counting, 4, (some .int))
abbrev mX7_dayGoes : zM := (yX7_dayGoes, cX7_dayGoes, 3, none)
abbrev mX7_costNow : zM := (yX7_costNow, cX7_costNow, 3, (some .int))
abbrev mX7_tells : zM := (yX7_tells, cX7_tells, 4, (some .int))
abbrev mX7_dayNow : zM := (yX7_dayNow, cX7_dayNow, 1, none)
abbrev mX7_placeOf : zM := (yX7_placeOf, cX7_placeOf, 4, (some .int))
abbrev mX7_liars : zM := (yX7_liars, cX7_liars, 3, (some .int))
abbrev mX7_rule : zM := (yX7_rule, cX7_rule, 2, (some .int))
abbrev mX7_boat : zM := (yX7_boat, cX7_boat, 3, (some .int))
abbrev mX7_becomes : zM := (yX7_becomes, cX7_becomes, 4, (some .int))
abbrev mX7_mostOf : zM := (yX7_mostOf, cX7_mostOf, 1, (some .int))
abbrev mX7_set : zM := (yX7_set, cX7_set, 3, (some .int))
abbrev mX7_alter : zM := (yX7_alter, cX7_alter, 4, (some .int))
abbrev mX7_lie : zM := (yX7_lie, cX7_lie, 3, (some .int))
abbrev mX7_cross : zM := (yX7_cross, cX7_cross, 3, (some .int))
abbrev mX7_passes : zM := (yX7_passes, cX7_passes, 2, (some .int))
abbrev mX7_through : zM := (yX7_through, cX7_through, 2, (some .int))
abbrev mX7_stood : zM := (yX7_stood, cX7_stood, 2, (some .int))
abbrev mX7_day : zM := (yX7_day, cX7_day, 2, (some .int))
abbrev mX7_dayBy : zM := (yX7_dayBy, cX7_dayBy, 2, none)
abbrev mX7_table : zM := (yX7_table, cX7_table, 3, (some .int))
abbrev mX7_best : zM := (yX7_best, cX7_best, 5, (some .int))
abbrev mX7_rows : zM := (yX7_rows, cX7_rows, 3, (some .int))
abbrev mX7_isOrder : zM := (yX7_isOrder, cX7_isOrder, 5, (some .boolean))
abbrev mX7_goesInOrder : zM := (yX7_goesInOrder, cX7_goesInOrder, 2, none)
abbrev mX7_order : zM := (yX7_order, cX7_order, 6, (some .int))
abbrev mX7_firsts : zM := (yX7_firsts, cX7_firsts, 4, (some .int))
abbrev mX7_gainOf : zM := (yX7_gainOf, cX7_gainOf, 3, (some .int))
abbrev mX7_gain : zM := (yX7_gain, cX7_gain, 2, (some .int))
abbrev mX7_isCalm : zM := (yX7_isCalm, cX7_isCalm, 3, (some .boolean))
abbrev mX7_calm : zM := (yX7_calm, cX7_calm, 3, (some .int))
abbrev mX7_liesBy : zM := (yX7_liesBy, cX7_liesBy, 3, none)
abbrev mX7_rests : zM := (yX7_rests, cX7_rests, 5, (some .int))
abbrev mX7_boy : zM := (yX7_boy, cX7_boy, 4, (some .int))
abbrev mX7_post : zM := (yX7_post, cX7_post, 6, (some .int))
abbrev mX7_late : zM := (yX7_late, cX7_late, 5, (some .int))
abbrev mX7_deal : zM := (yX7_deal, cX7_deal, 8, (some .int))
abbrev mX7_common : zM := (yX7_common, cX7_common, 10, (some .long))
abbrev mX7_told : zM := (yX7_told, cX7_told, 7, (some .long))
abbrev mX7_waysOf : zM := (yX7_waysOf, cX7_waysOf, 7, (some .long))
abbrev mX7_allWays : zM := (yX7_allWays, cX7_allWays, 4, (some .long))
abbrev mX7_dayCaught : zM := (yX7_dayCaught, cX7_dayCaught, 2, none)
abbrev mX7_mean : zM := (yX7_mean, cX7_mean, 7, (some .long))
abbrev mX7_luck : zM := (yX7_luck, cX7_luck, 8, (some .long))
abbrev mX7_see : zM := (yX7_see, cX7_see, 3, (some .int))
abbrev mX7_forget : zM := (yX7_forget, cX7_forget, 2, (some .int))
abbrev mX7_isSo : zM := (yX7_isSo, cX7_isSo, 5, (some .boolean))
abbrev mX7_fits : zM := (yX7_fits, cX7_fits, 9, (some .int))
abbrev mX7_drift : zM := (yX7_drift, cX7_drift, 8, (some .int))
abbrev mX7_copies : zM := (yX7_copies, cX7_copies, 4, none)
abbrev mX7_keep : zM := (yX7_keep, cX7_keep, 3, (some .int))
abbrev mX7_back : zM := (yX7_back, cX7_back, 2, (some .int))
abbrev mX7_isSheet : zM := (yX7_isSheet, cX7_isSheet, 2, (some .boolean))
abbrev mX7_sheet : zM := (yX7_sheet, cX7_sheet, 5, (some .int))
abbrev mX7_lay : zM := (yX7_lay, cX7_lay, 4, (some .int))
abbrev mX7_read : zM := (yX7_read, cX7_read, 11, (some .int))
abbrev mX7_torn : zM := (yX7_torn, cX7_torn, 1, (some .int))
abbrev mX7_count : zM := (yX7_count, cX7_count, 2, (some .int))
abbrev mJ6_bitCount_0f7a4 : zM := (yJ6_bitCount_0f7a4, cJ6_bitCount_0f7a4, 1, (some .int))
abbrev mJ9_max_7cf53 : zM := (yJ9_max_7cf53, cJ9_max_7cf53, 2, (some .int))
abbrev mJ9_min_7cf53 : zM := (yJ9_min_7cf53, cJ9_min_7cf53, 2, (some .int))
abbrev mJ0_length_8abf5 : zM := (yJ0_length_8abf5, cJ0_length_8abf5, 1, (some .int))
abbrev mJ0_charAt_5068e : zM := (yJ0_charAt_5068e, cJ0_charAt_5068e, 2, (some .char))
abbrev mJ0_coder_7d493 : zM := (yJ0_coder_7d493, cJ0_coder_7d493, 1, (some .byte))
abbrev mJ0_isLatin1_aae02 : zM := (yJ0_isLatin1_aae02, cJ0_isLatin1_aae02, 1, (some .boolean))
abbrev mJ0_checkIndex_df160 : zM := (yJ0_checkIndex_df160, cJ0_checkIndex_df160, 2, none)
abbrev mJ1_charAt_3b067 : zM := (yJ1_charAt_3b067, cJ1_charAt_3b067, 2, (some .char))
abbrev mJ2_getChar_3b067 : zM := (yJ2_getChar_3b067, cJ2_getChar_3b067, 2, (some .char))
abbrev mJ2_length_9d52b : zM := (yJ2_length_9d52b, cJ2_length_9d52b, 1, (some .int))
abbrev mJ2_charAt_3b067 : zM := (yJ2_charAt_3b067, cJ2_charAt_3b067, 2, (some .char))
abbrev mJ2_checkIndex_2214a : zM := (yJ2_checkIndex_2214a, cJ2_checkIndex_2214a, 2, none)
abbrev mJ7_fill_53178 : zM := (yJ7_fill_53178, cJ7_fill_53178, 4, none)
abbrev mJ3_checkIndex_8e157 : zM := (yJ3_checkIndex_8e157, cJ3_checkIndex_8e157, 3, (some .int))
theorem inX0 : ∀ w ∈ wsX00, w ∈ z_WS := z_ins [239, 241, 243, 245, 247, 249, 251, 253, 255, 257, 259, 261, 263] (by decide +kernel) (by decide +kernel)
theorem inX1 : ∀ w ∈ wsX10, w ∈ z_WS := z_ins [142, 144, 146, 148, 150, 152, 154] (by decide +kernel) (by decide +kernel)
theorem inX2 : ∀ w ∈ wsX20, w ∈ z_WS := z_ins [277, 279, 281] (by decide +kernel) (by decide +kernel)
theorem inX3 : ∀ w ∈ wsX30, w ∈ z_WS := z_ins [295, 297, 299] (by decide +kernel) (by decide +kernel)
theorem inX4 : ∀ w ∈ wsX40, w ∈ z_WS := z_ins [176, 178, 180, 182, 184, 186] (by decide +kernel) (by decide +kernel)
theorem inX5 : ∀ w ∈ wsX50, w ∈ z_WS := z_ins [205, 207, 209, 211, 213] (by decide +kernel) (by decide +kernel)
theorem inX6 : ∀ w ∈ wsX60, w ∈ z_WS := z_ins [314, 316, 318, 320, 322, 324, 326, 328, 330, 332, 334, 336] (by decide +kernel) (by decide +kernel)
theorem inX7 : ∀ w ∈ wsX70, w ∈ z_WS := z_ins [917, 919, 921, 923, 925, 927, 929, 931, 933, 935, 937, 939, 941, 943, 945, 947, 949, 951, 953, 955, 957, 959, 961, 963, 965, 967, 969, 971, 973, 975, 977, 979] (by decide +kernel) (by decide +kernel)
theorem in_L : Cond.initialized RL ∈ z_WS := z_w 84 (by decide +kernel) rfl
theorem in_X6 : Cond.initialized RX6 ∈ z_WS := z_w 85 (by decide +kernel) rfl
theorem in_X1 : Cond.initialized RX1 ∈ z_WS := z_w 86 (by decide +kernel) rfl
theorem in_X4 : Cond.initialized RX4 ∈ z_WS := z_w 87 (by decide +kernel) rfl
theorem in_X5 : Cond.initialized RX5 ∈ z_WS := z_w 88 (by decide +kernel) rfl
theorem in_X0 : Cond.initialized RX0 ∈ z_WS := z_w 89 (by decide +kernel) rfl
theorem in_X2 : Cond.initialized RX2 ∈ z_WS := z_w 90 (by decide +kernel) rfl
theorem in_X3 : Cond.initialized RX3 ∈ z_WS := z_w 91 (by decide +kernel) rfl
theorem in_X7 : Cond.initialized RX7 ∈ z_WS := z_w 92 (by decide +kernel) rfl
theorem in_J10 : Cond.initialized RJ10 ∈ z_WS := z_w 93 (by decide +kernel) rfl
theorem in_J0 : Cond.initialized RJ0 ∈ z_WS := z_w 94 (by decide +kernel) rfl
theorem in_J1 : Cond.initialized RJ1 ∈ z_WS := z_w 95 (by decide +kernel) rfl
theorem in_J3 : Cond.initialized RJ3 ∈ z_WS := z_w 96 (by decide +kernel) rfl
theorem in_J2 : Cond.initialized RJ2 ∈ z_WS := z_w 97 (by decide +kernel) rfl
theorem in_J9 : Cond.initialized RJ9 ∈ z_WS := z_w 98 (by decide +kernel) rfl
theorem in_J7 : Cond.initialized RJ7 ∈ z_WS := z_w 99 (by decide +kernel) rfl
theorem in_J6 : Cond.initialized RJ6 ∈ z_WS := z_w 100 (by decide +kernel) rfl
theorem ml_L_9 : Cond.methodLink RL 9 yX6_init ∈ z_WS := z_w 103 (by decide +kernel) rfl
theorem ml_X6_9 : Cond.methodLink RX6 9 yX1_init ∈ z_WS := z_w 111 (by decide +kernel) rfl
theorem fl_X1_18 : Cond.fieldLink RX1 18 "LockTurns$Lock" "rules" "[I" ∈ z_WS := z_w 124 (by decide +kernel) rfl
theorem fl_X2_25 : Cond.fieldLink RX2 25 "LockTurns$Lock" "rules" "[I" ∈ z_WS := z_w 125 (by decide +kernel) rfl
theorem fl_X5_100 : Cond.fieldLink RX5 100 "LockTurns$Lock" "rules" "[I" ∈ z_WS := z_w 126 (by decide +kernel) rfl
theorem fl_X6_102 : Cond.fieldLink RX6 102 "LockTurns$Lock" "rules" "[I" ∈ z_WS := z_w 127 (by decide +kernel) rfl
theorem fl_X0_86 : Cond.fieldLink RX0 86 "LockTurns$Lock" "rules" "[I" ∈ z_WS := z_w 128 (by decide +kernel) rfl
theorem fl_X1_23 : Cond.fieldLink RX1 23 "LockTurns$Lock" "marks" "[I" ∈ z_WS := z_w 129 (by decide +kernel) rfl
theorem fl_X0_31 : Cond.fieldLink RX0 31 "LockTurns$Lock" "boats" "I" ∈ z_WS := z_w 130 (by decide +kernel) rfl
theorem fl_X1_38 : Cond.fieldLink RX1 38 "LockTurns$Lock" "boats" "I" ∈ z_WS := z_w 131 (by decide +kernel) rfl
theorem fl_X5_50 : Cond.fieldLink RX5 50 "LockTurns$Lock" "boats" "I" ∈ z_WS := z_w 132 (by decide +kernel) rfl
theorem fl_X2_34 : Cond.fieldLink RX2 34 "LockTurns$Lock" "boats" "I" ∈ z_WS := z_w 133 (by decide +kernel) rfl
theorem fl_X6_96 : Cond.fieldLink RX6 96 "LockTurns$Lock" "boats" "I" ∈ z_WS := z_w 134 (by decide +kernel) rfl
theorem fl_X1_42 : Cond.fieldLink RX1 42 "LockTurns$Lock" "liars" "I" ∈ z_WS := z_w 135 (by decide +kernel) rfl
theorem fl_X5_47 : Cond.fieldLink RX5 47 "LockTurns$Lock" "liars" "I" ∈ z_WS := z_w 136 (by decide +kernel) rfl
theorem fl_X6_99 : Cond.fieldLink RX6 99 "LockTurns$Lock" "liars" "I" ∈ z_WS := z_w 137 (by decide +kernel) rfl
theorem fl_X1_45 : Cond.fieldLink RX1 45 "LockTurns$Lock" "seen" "I" ∈ z_WS := z_w 138 (by decide +kernel) rfl
theorem fl_X6_238 : Cond.fieldLink RX6 238 "LockTurns$Lock" "seen" "I" ∈ z_WS := z_w 139 (by decide +kernel) rfl
theorem fl_X1_26 : Cond.fieldLink RX1 26 "LockTurns$Lock" "seenPlaces" "[I" ∈ z_WS := z_w 140 (by decide +kernel) rfl
theorem fl_X1_29 : Cond.fieldLink RX1 29 "LockTurns$Lock" "seenBoats" "[I" ∈ z_WS := z_w 141 (by decide +kernel) rfl
theorem ml_X6_25 : Cond.methodLink RX6 25 yX4_init ∈ z_WS := z_w 161 (by decide +kernel) rfl
theorem fl_X4_9 : Cond.fieldLink RX4 9 "LockTurns$Tape" "bytes" "[B" ∈ z_WS := z_w 165 (by decide +kernel) rfl
theorem fl_X4_13 : Cond.fieldLink RX4 13 "LockTurns$Tape" "length" "I" ∈ z_WS := z_w 166 (by decide +kernel) rfl
theorem fl_X6_75 : Cond.fieldLink RX6 75 "LockTurns$Tape" "length" "I" ∈ z_WS := z_w 167 (by decide +kernel) rfl
theorem fl_X5_53 : Cond.fieldLink RX5 53 "LockTurns$Tape" "length" "I" ∈ z_WS := z_w 168 (by decide +kernel) rfl
theorem fl_X4_17 : Cond.fieldLink RX4 17 "LockTurns$Tape" "at" "I" ∈ z_WS := z_w 169 (by decide +kernel) rfl
theorem fl_X5_40 : Cond.fieldLink RX5 40 "LockTurns$Tape" "kind" "I" ∈ z_WS := z_w 170 (by decide +kernel) rfl
theorem fl_X4_30 : Cond.fieldLink RX4 30 "LockTurns$Tape" "kind" "I" ∈ z_WS := z_w 171 (by decide +kernel) rfl
theorem fl_X4_20 : Cond.fieldLink RX4 20 "LockTurns$Tape" "start" "I" ∈ z_WS := z_w 172 (by decide +kernel) rfl
theorem fl_X5_151 : Cond.fieldLink RX5 151 "LockTurns$Tape" "start" "I" ∈ z_WS := z_w 173 (by decide +kernel) rfl
theorem fl_X4_23 : Cond.fieldLink RX4 23 "LockTurns$Tape" "number" "I" ∈ z_WS := z_w 174 (by decide +kernel) rfl
theorem fl_X5_120 : Cond.fieldLink RX5 120 "LockTurns$Tape" "number" "I" ∈ z_WS := z_w 175 (by decide +kernel) rfl
theorem ml_X6_32 : Cond.methodLink RX6 32 yX5_init ∈ z_WS := z_w 192 (by decide +kernel) rfl
theorem ml_X5_17 : Cond.methodLink RX5 17 yX1_init ∈ z_WS := z_w 197 (by decide +kernel) rfl
theorem fl_X5_18 : Cond.fieldLink RX5 18 "LockTurns$Teller" "told" "LLockTurns$Lock;" ∈ z_WS := z_w 198 (by decide +kernel) rfl
theorem fl_X6_83 : Cond.fieldLink RX6 83 "LockTurns$Teller" "told" "LLockTurns$Lock;" ∈ z_WS := z_w 199 (by decide +kernel) rfl
theorem fl_X5_30 : Cond.fieldLink RX5 30 "LockTurns$Teller" "fault" "I" ∈ z_WS := z_w 200 (by decide +kernel) rfl
theorem fl_X6_93 : Cond.fieldLink RX6 93 "LockTurns$Teller" "fault" "I" ∈ z_WS := z_w 201 (by decide +kernel) rfl
theorem fl_X5_9 : Cond.fieldLink RX5 9 "LockTurns$Teller" "tape" "LLockTurns$Tape;" ∈ z_WS := z_w 202 (by decide +kernel) rfl
theorem fl_X5_60 : Cond.fieldLink RX5 60 "LockTurns$Teller" "place" "I" ∈ z_WS := z_w 203 (by decide +kernel) rfl
theorem fl_X5_34 : Cond.fieldLink RX5 34 "LockTurns$Teller" "linesMet" "I" ∈ z_WS := z_w 204 (by decide +kernel) rfl
theorem ml_X6_41 : Cond.methodLink RX6 41 yX0_init ∈ z_WS := z_w 218 (by decide +kernel) rfl
theorem fl_X0_9 : Cond.fieldLink RX0 9 "LockTurns$Day" "passing" "[I" ∈ z_WS := z_w 222 (by decide +kernel) rfl
theorem fl_X6_135 : Cond.fieldLink RX6 135 "LockTurns$Day" "passing" "[I" ∈ z_WS := z_w 223 (by decide +kernel) rfl
theorem fl_X0_15 : Cond.fieldLink RX0 15 "LockTurns$Day" "through" "[I" ∈ z_WS := z_w 224 (by decide +kernel) rfl
theorem fl_X6_138 : Cond.fieldLink RX6 138 "LockTurns$Day" "through" "[I" ∈ z_WS := z_w 225 (by decide +kernel) rfl
theorem fl_X0_18 : Cond.fieldLink RX0 18 "LockTurns$Day" "stood" "[I" ∈ z_WS := z_w 226 (by decide +kernel) rfl
theorem fl_X6_141 : Cond.fieldLink RX6 141 "LockTurns$Day" "stood" "[I" ∈ z_WS := z_w 227 (by decide +kernel) rfl
theorem fl_X0_21 : Cond.fieldLink RX0 21 "LockTurns$Day" "counts" "[I" ∈ z_WS := z_w 228 (by decide +kernel) rfl
theorem fl_X0_24 : Cond.fieldLink RX0 24 "LockTurns$Day" "tells" "[I" ∈ z_WS := z_w 229 (by decide +kernel) rfl
theorem fl_X0_80 : Cond.fieldLink RX0 80 "LockTurns$Day" "passed" "I" ∈ z_WS := z_w 230 (by decide +kernel) rfl
theorem fl_X0_83 : Cond.fieldLink RX0 83 "LockTurns$Day" "gone" "I" ∈ z_WS := z_w 231 (by decide +kernel) rfl
theorem fl_X0_70 : Cond.fieldLink RX0 70 "LockTurns$Day" "free" "I" ∈ z_WS := z_w 232 (by decide +kernel) rfl
theorem fl_X0_89 : Cond.fieldLink RX0 89 "LockTurns$Day" "ready" "I" ∈ z_WS := z_w 233 (by decide +kernel) rfl
theorem fl_X0_64 : Cond.fieldLink RX0 64 "LockTurns$Day" "longest" "I" ∈ z_WS := z_w 234 (by decide +kernel) rfl
theorem fl_X0_67 : Cond.fieldLink RX0 67 "LockTurns$Day" "water" "I" ∈ z_WS := z_w 235 (by decide +kernel) rfl
theorem fl_X0_73 : Cond.fieldLink RX0 73 "LockTurns$Day" "turns" "I" ∈ z_WS := z_w 236 (by decide +kernel) rfl
theorem fl_X0_61 : Cond.fieldLink RX0 61 "LockTurns$Day" "cost" "I" ∈ z_WS := z_w 237 (by decide +kernel) rfl
theorem fl_X6_201 : Cond.fieldLink RX6 201 "LockTurns$Day" "cost" "I" ∈ z_WS := z_w 238 (by decide +kernel) rfl
theorem ml_X6_48 : Cond.methodLink RX6 48 yX2_init ∈ z_WS := z_w 268 (by decide +kernel) rfl
theorem fl_X2_21 : Cond.fieldLink RX2 21 "LockTurns$Plan" "cost" "I" ∈ z_WS := z_w 272 (by decide +kernel) rfl
theorem fl_X6_166 : Cond.fieldLink RX6 166 "LockTurns$Plan" "cost" "I" ∈ z_WS := z_w 273 (by decide +kernel) rfl
theorem fl_X2_9 : Cond.fieldLink RX2 9 "LockTurns$Plan" "best" "[I" ∈ z_WS := z_w 274 (by decide +kernel) rfl
theorem fl_X6_169 : Cond.fieldLink RX6 169 "LockTurns$Plan" "best" "[I" ∈ z_WS := z_w 275 (by decide +kernel) rfl
theorem fl_X2_15 : Cond.fieldLink RX2 15 "LockTurns$Plan" "path" "[I" ∈ z_WS := z_w 276 (by decide +kernel) rfl
theorem ml_X6_66 : Cond.methodLink RX6 66 yX3_init ∈ z_WS := z_w 287 (by decide +kernel) rfl
theorem fl_X3_11 : Cond.fieldLink RX3 11 "LockTurns$Sheet" "cells" "[I" ∈ z_WS := z_w 291 (by decide +kernel) rfl
theorem fl_X3_23 : Cond.fieldLink RX3 23 "LockTurns$Sheet" "lane" "I" ∈ z_WS := z_w 292 (by decide +kernel) rfl
theorem fl_X3_15 : Cond.fieldLink RX3 15 "LockTurns$Sheet" "size" "I" ∈ z_WS := z_w 293 (by decide +kernel) rfl
theorem fl_X6_292 : Cond.fieldLink RX6 292 "LockTurns$Sheet" "size" "I" ∈ z_WS := z_w 294 (by decide +kernel) rfl
theorem fl_X6_10 : Cond.fieldLink RX6 10 "LockTurns" "now" "LLockTurns$Lock;" ∈ z_WS := z_w 302 (by decide +kernel) rfl
theorem fl_X6_16 : Cond.fieldLink RX6 16 "LockTurns" "trial" "LLockTurns$Lock;" ∈ z_WS := z_w 303 (by decide +kernel) rfl
theorem fl_X6_19 : Cond.fieldLink RX6 19 "LockTurns" "images" "[LLockTurns$Lock;" ∈ z_WS := z_w 304 (by decide +kernel) rfl
theorem fl_X6_90 : Cond.fieldLink RX6 90 "LockTurns" "kept" "I" ∈ z_WS := z_w 305 (by decide +kernel) rfl
theorem fl_X6_26 : Cond.fieldLink RX6 26 "LockTurns" "tape" "LLockTurns$Tape;" ∈ z_WS := z_w 306 (by decide +kernel) rfl
theorem fl_X6_35 : Cond.fieldLink RX6 35 "LockTurns" "teller" "LLockTurns$Teller;" ∈ z_WS := z_w 307 (by decide +kernel) rfl
theorem fl_X6_42 : Cond.fieldLink RX6 42 "LockTurns" "run" "LLockTurns$Day;" ∈ z_WS := z_w 308 (by decide +kernel) rfl
theorem fl_X6_49 : Cond.fieldLink RX6 49 "LockTurns" "plan" "LLockTurns$Plan;" ∈ z_WS := z_w 309 (by decide +kernel) rfl
theorem fl_X6_53 : Cond.fieldLink RX6 53 "LockTurns" "places" "[I" ∈ z_WS := z_w 310 (by decide +kernel) rfl
theorem fl_X6_57 : Cond.fieldLink RX6 57 "LockTurns" "stoodBySet" "[I" ∈ z_WS := z_w 311 (by decide +kernel) rfl
theorem fl_X6_62 : Cond.fieldLink RX6 62 "LockTurns" "sheets" "[LLockTurns$Sheet;" ∈ z_WS := z_w 312 (by decide +kernel) rfl
theorem fl_X6_279 : Cond.fieldLink RX6 279 "LockTurns" "tornBy" "I" ∈ z_WS := z_w 313 (by decide +kernel) rfl
theorem ml_L_13 : Cond.methodLink RL 13 yX6_feed ∈ z_WS := z_w 339 (by decide +kernel) rfl
theorem ml_X6_67 : Cond.methodLink RX6 67 yX6_within ∈ z_WS := z_w 343 (by decide +kernel) rfl
theorem ml_X6_71 : Cond.methodLink RX6 71 yX4_append ∈ z_WS := z_w 346 (by decide +kernel) rfl
theorem ml_L_18 : Cond.methodLink RL 18 yX6_end ∈ z_WS := z_w 350 (by decide +kernel) rfl
theorem ml_L_22 : Cond.methodLink RL 22 yX6_text ∈ z_WS := z_w 354 (by decide +kernel) rfl
theorem ml_X6_79 : Cond.methodLink RX6 79 yX5_tell ∈ z_WS := z_w 358 (by decide +kernel) rfl
theorem ml_X5_22 : Cond.methodLink RX5 22 yX1_clear ∈ z_WS := z_w 362 (by decide +kernel) rfl
theorem ml_X5_25 : Cond.methodLink RX5 25 yX4_rewind ∈ z_WS := z_w 369 (by decide +kernel) rfl
theorem ml_X5_37 : Cond.methodLink RX5 37 yX4_next ∈ z_WS := z_w 373 (by decide +kernel) rfl
theorem ml_X4_26 : Cond.methodLink RX4 26 yX4_kindOf ∈ z_WS := z_w 377 (by decide +kernel) rfl
theorem ml_X4_33 : Cond.methodLink RX4 33 yX4_valueNumber ∈ z_WS := z_w 380 (by decide +kernel) rfl
theorem ml_X5_43 : Cond.methodLink RX5 43 yX5_takeLine ∈ z_WS := z_w 384 (by decide +kernel) rfl
theorem ml_X5_65 : Cond.methodLink RX5 65 yX4_isName ∈ z_WS := z_w 389 (by decide +kernel) rfl
theorem ml_X4_36 : Cond.methodLink RX4 36 yJ0_length_8abf5 ∈ z_WS := z_w 393 (by decide +kernel) rfl
theorem ml_J0_335 : Cond.methodLink RJ0 335 yJ0_coder_7d493 ∈ z_WS := z_w 397 (by decide +kernel) rfl
theorem fl_J0_38 : Cond.fieldLink RJ0 38 "java/lang/String" "COMPACT_STRINGS" "Z" ∈ z_WS := z_w 401 (by decide +kernel) rfl
theorem ml_X4_41 : Cond.methodLink RX4 41 yJ0_charAt_5068e ∈ z_WS := z_w 403 (by decide +kernel) rfl
theorem ml_J0_492 : Cond.methodLink RJ0 492 yJ0_isLatin1_aae02 ∈ z_WS := z_w 407 (by decide +kernel) rfl
theorem ml_J0_495 : Cond.methodLink RJ0 495 yJ1_charAt_3b067 ∈ z_WS := z_w 411 (by decide +kernel) rfl
theorem ml_J1_9 : Cond.methodLink RJ1 9 yJ0_checkIndex_df160 ∈ z_WS := z_w 414 (by decide +kernel) rfl
theorem fl_J0_1053 : Cond.fieldLink RJ0 1053 "jdk/internal/util/Preconditions" "SIOOBE_FORMATTER" "Ljava/util/function/BiFunction;" ∈ z_WS := z_w 417 (by decide +kernel) rfl
theorem ml_J0_1059 : Cond.methodLink RJ0 1059 yJ3_checkIndex_8e157 ∈ z_WS := z_w 419 (by decide +kernel) rfl
theorem ml_J0_498 : Cond.methodLink RJ0 498 yJ2_charAt_3b067 ∈ z_WS := z_w 422 (by decide +kernel) rfl
theorem ml_J2_67 : Cond.methodLink RJ2 67 yJ2_checkIndex_2214a ∈ z_WS := z_w 425 (by decide +kernel) rfl
theorem ml_J2_48 : Cond.methodLink RJ2 48 yJ2_length_9d52b ∈ z_WS := z_w 428 (by decide +kernel) rfl
theorem ml_J2_414 : Cond.methodLink RJ2 414 yJ0_checkIndex_df160 ∈ z_WS := z_w 431 (by decide +kernel) rfl
theorem ml_J2_71 : Cond.methodLink RJ2 71 yJ2_getChar_3b067 ∈ z_WS := z_w 432 (by decide +kernel) rfl
theorem fl_J2_44 : Cond.fieldLink RJ2 44 "java/lang/StringUTF16" "$assertionsDisabled" "Z" ∈ z_WS := z_w 435 (by decide +kernel) rfl
theorem fl_J2_59 : Cond.fieldLink RJ2 59 "java/lang/StringUTF16" "HI_BYTE_SHIFT" "I" ∈ z_WS := z_w 437 (by decide +kernel) rfl
theorem fl_J2_63 : Cond.fieldLink RJ2 63 "java/lang/StringUTF16" "LO_BYTE_SHIFT" "I" ∈ z_WS := z_w 439 (by decide +kernel) rfl
theorem ml_X5_69 : Cond.methodLink RX5 69 yX5_takeBoat ∈ z_WS := z_w 441 (by decide +kernel) rfl
theorem ml_X5_104 : Cond.methodLink RX5 104 yX5_blameToken ∈ z_WS := z_w 445 (by decide +kernel) rfl
theorem ml_X5_56 : Cond.methodLink RX5 56 yX5_blame ∈ z_WS := z_w 449 (by decide +kernel) rfl
theorem ml_X5_107 : Cond.methodLink RX5 107 yX1_setMark ∈ z_WS := z_w 453 (by decide +kernel) rfl
theorem ml_X5_111 : Cond.methodLink RX5 111 yX5_takeCargo ∈ z_WS := z_w 457 (by decide +kernel) rfl
theorem ml_X5_117 : Cond.methodLink RX5 117 yX5_takeNumber ∈ z_WS := z_w 467 (by decide +kernel) rfl
theorem ml_X5_73 : Cond.methodLink RX5 73 yX5_takeStop ∈ z_WS := z_w 472 (by decide +kernel) rfl
theorem ml_X5_80 : Cond.methodLink RX5 80 yX5_takeLiar ∈ z_WS := z_w 478 (by decide +kernel) rfl
theorem ml_X5_85 : Cond.methodLink RX5 85 yX5_isFirst ∈ z_WS := z_w 483 (by decide +kernel) rfl
theorem ml_X5_88 : Cond.methodLink RX5 88 yX5_takeRules ∈ z_WS := z_w 487 (by decide +kernel) rfl
theorem ml_X5_93 : Cond.methodLink RX5 93 yX5_takeLaw ∈ z_WS := z_w 496 (by decide +kernel) rfl
theorem ml_X6_86 : Cond.methodLink RX6 86 yX1_copyFrom ∈ z_WS := z_w 507 (by decide +kernel) rfl
theorem ml_L_27 : Cond.methodLink RL 27 yX6_fault ∈ z_WS := z_w 511 (by decide +kernel) rfl
theorem ml_L_31 : Cond.methodLink RL 31 yX6_rule ∈ z_WS := z_w 515 (by decide +kernel) rfl
theorem ml_L_35 : Cond.methodLink RL 35 yX6_boat ∈ z_WS := z_w 519 (by decide +kernel) rfl
theorem ml_X6_105 : Cond.methodLink RX6 105 yX6_isBoat ∈ z_WS := z_w 523 (by decide +kernel) rfl
theorem ml_X6_108 : Cond.methodLink RX6 108 yX1_countsFrom ∈ z_WS := z_w 527 (by decide +kernel) rfl
theorem ml_X1_48 : Cond.methodLink RX1 48 yX1_mark ∈ z_WS := z_w 531 (by decide +kernel) rfl
theorem ml_X1_52 : Cond.methodLink RX1 52 yJ9_max_7cf53 ∈ z_WS := z_w 535 (by decide +kernel) rfl
theorem ml_X6_112 : Cond.methodLink RX6 112 yX1_mark ∈ z_WS := z_w 538 (by decide +kernel) rfl
theorem ml_L_40 : Cond.methodLink RL 40 yX6_set ∈ z_WS := z_w 539 (by decide +kernel) rfl
theorem fl_X6_116 : Cond.fieldLink RX6 116 "LockTurns" "RULE_LEAST" "[I" ∈ z_WS := z_w 543 (by decide +kernel) rfl
theorem fl_X6_119 : Cond.fieldLink RX6 119 "LockTurns" "RULE_MOST" "[I" ∈ z_WS := z_w 544 (by decide +kernel) rfl
theorem ml_L_44 : Cond.methodLink RL 44 yX6_alter ∈ z_WS := z_w 545 (by decide +kernel) rfl
theorem fl_X6_122 : Cond.fieldLink RX6 122 "LockTurns" "MARK_MOST" "[I" ∈ z_WS := z_w 549 (by decide +kernel) rfl
theorem ml_X6_125 : Cond.methodLink RX6 125 yX1_setMark ∈ z_WS := z_w 550 (by decide +kernel) rfl
theorem ml_L_49 : Cond.methodLink RL 49 yX6_lie ∈ z_WS := z_w 551 (by decide +kernel) rfl
theorem ml_L_54 : Cond.methodLink RL 54 yX6_cross ∈ z_WS := z_w 555 (by decide +kernel) rfl
theorem ml_X6_129 : Cond.methodLink RX6 129 yX6_otherSide ∈ z_WS := z_w 559 (by decide +kernel) rfl
theorem ml_L_58 : Cond.methodLink RL 58 yX6_passes ∈ z_WS := z_w 562 (by decide +kernel) rfl
theorem ml_X6_132 : Cond.methodLink RX6 132 yX6_runAsTold ∈ z_WS := z_w 566 (by decide +kernel) rfl
theorem ml_X6_153 : Cond.methodLink RX6 153 yX0_by ∈ z_WS := z_w 570 (by decide +kernel) rfl
theorem ml_X0_27 : Cond.methodLink RX0 27 yX0_begin ∈ z_WS := z_w 574 (by decide +kernel) rfl
theorem ml_X0_37 : Cond.methodLink RX0 37 yX1_countsFrom ∈ z_WS := z_w 578 (by decide +kernel) rfl
theorem ml_X0_41 : Cond.methodLink RX0 41 yX1_mark ∈ z_WS := z_w 579 (by decide +kernel) rfl
theorem ml_X0_45 : Cond.methodLink RX0 45 yX0_waitForOne ∈ z_WS := z_w 580 (by decide +kernel) rfl
theorem kc_X0_94 : Cond.constant RX0 94 (2147483647) ∈ z_WS := z_w 584 (by decide +kernel) rfl
theorem ml_X0_95 : Cond.methodLink RX0 95 yJ9_min_7cf53 ∈ z_WS := z_w 585 (by decide +kernel) rfl
theorem ml_X0_100 : Cond.methodLink RX0 100 yJ9_max_7cf53 ∈ z_WS := z_w 588 (by decide +kernel) rfl
theorem ml_X0_49 : Cond.methodLink RX0 49 yX0_sideAhead ∈ z_WS := z_w 589 (by decide +kernel) rfl
theorem ml_X0_111 : Cond.methodLink RX0 111 yX0_sideByTwos ∈ z_WS := z_w 593 (by decide +kernel) rfl
theorem ml_X0_115 : Cond.methodLink RX0 115 yX0_sideByQueue ∈ z_WS := z_w 598 (by decide +kernel) rfl
theorem ml_X0_103 : Cond.methodLink RX0 103 yX0_waits ∈ z_WS := z_w 602 (by decide +kernel) rfl
theorem ml_X0_53 : Cond.methodLink RX0 53 yX0_chosen ∈ z_WS := z_w 606 (by decide +kernel) rfl
theorem ml_X0_107 : Cond.methodLink RX0 107 yX0_rank ∈ z_WS := z_w 610 (by decide +kernel) rfl
theorem ml_X0_57 : Cond.methodLink RX0 57 yX0_admit ∈ z_WS := z_w 614 (by decide +kernel) rfl
theorem ml_X0_125 : Cond.methodLink RX0 125 yX0_costOf ∈ z_WS := z_w 619 (by decide +kernel) rfl
theorem ml_L_62 : Cond.methodLink RL 62 yX6_through ∈ z_WS := z_w 623 (by decide +kernel) rfl
theorem ml_L_66 : Cond.methodLink RL 66 yX6_stood ∈ z_WS := z_w 627 (by decide +kernel) rfl
theorem ml_L_70 : Cond.methodLink RL 70 yX6_day ∈ z_WS := z_w 631 (by decide +kernel) rfl
theorem ml_X6_144 : Cond.methodLink RX6 144 yX6_table ∈ z_WS := z_w 635 (by decide +kernel) rfl
theorem ml_X6_147 : Cond.methodLink RX6 147 yX6_isLaw ∈ z_WS := z_w 639 (by decide +kernel) rfl
theorem ml_X6_150 : Cond.methodLink RX6 150 yX6_isMeasure ∈ z_WS := z_w 642 (by decide +kernel) rfl
theorem ml_X6_157 : Cond.methodLink RX6 157 yX0_measure ∈ z_WS := z_w 645 (by decide +kernel) rfl
theorem ml_L_74 : Cond.methodLink RL 74 yX6_table ∈ z_WS := z_w 649 (by decide +kernel) rfl
theorem ml_L_78 : Cond.methodLink RL 78 yX6_best ∈ z_WS := z_w 650 (by decide +kernel) rfl
theorem kc_X6_162 : Cond.constant RX6 162 (2147483647) ∈ z_WS := z_w 654 (by decide +kernel) rfl
theorem ml_L_82 : Cond.methodLink RL 82 yX6_order ∈ z_WS := z_w 655 (by decide +kernel) rfl
theorem ml_X6_163 : Cond.methodLink RX6 163 yX2_seekLeastCost ∈ z_WS := z_w 659 (by decide +kernel) rfl
theorem kc_X2_20 : Cond.constant RX2 20 (2147483647) ∈ z_WS := z_w 663 (by decide +kernel) rfl
theorem ml_X2_30 : Cond.methodLink RX2 30 yX2_seek ∈ z_WS := z_w 664 (by decide +kernel) rfl
theorem ml_X2_43 : Cond.methodLink RX2 43 yX1_mark ∈ z_WS := z_w 669 (by decide +kernel) rfl
theorem ml_X2_47 : Cond.methodLink RX2 47 yJ9_max_7cf53 ∈ z_WS := z_w 670 (by decide +kernel) rfl
theorem ml_L_86 : Cond.methodLink RL 86 yX6_firsts ∈ z_WS := z_w 672 (by decide +kernel) rfl
theorem ml_L_90 : Cond.methodLink RL 90 yX6_gain ∈ z_WS := z_w 676 (by decide +kernel) rfl
theorem ml_X6_172 : Cond.methodLink RX6 172 yX6_gained ∈ z_WS := z_w 680 (by decide +kernel) rfl
theorem ml_X6_188 : Cond.methodLink RX6 188 yX6_hearsLies ∈ z_WS := z_w 684 (by decide +kernel) rfl
theorem ml_L_94 : Cond.methodLink RL 94 yX6_calm ∈ z_WS := z_w 687 (by decide +kernel) rfl
theorem ml_X6_175 : Cond.methodLink RX6 175 yX6_isCalm ∈ z_WS := z_w 691 (by decide +kernel) rfl
theorem ml_L_98 : Cond.methodLink RL 98 yX6_rests ∈ z_WS := z_w 695 (by decide +kernel) rfl
theorem ml_X6_178 : Cond.methodLink RX6 178 yX6_fillStoodBySet ∈ z_WS := z_w 699 (by decide +kernel) rfl
theorem ml_X6_182 : Cond.methodLink RX6 182 yX6_liarSets ∈ z_WS := z_w 703 (by decide +kernel) rfl
theorem ml_X6_185 : Cond.methodLink RX6 185 yX6_isRest ∈ z_WS := z_w 708 (by decide +kernel) rfl
theorem ml_L_102 : Cond.methodLink RL 102 yX6_boy ∈ z_WS := z_w 712 (by decide +kernel) rfl
theorem ml_X6_197 : Cond.methodLink RX6 197 yX6_isPair ∈ z_WS := z_w 716 (by decide +kernel) rfl
theorem ml_L_106 : Cond.methodLink RL 106 yX6_post ∈ z_WS := z_w 720 (by decide +kernel) rfl
theorem ml_L_110 : Cond.methodLink RL 110 yX6_late ∈ z_WS := z_w 724 (by decide +kernel) rfl
theorem ml_X6_202 : Cond.methodLink RX6 202 yJ9_min_7cf53 ∈ z_WS := z_w 728 (by decide +kernel) rfl
theorem ml_L_114 : Cond.methodLink RL 114 yX6_deal ∈ z_WS := z_w 729 (by decide +kernel) rfl
theorem ml_X6_207 : Cond.methodLink RX6 207 yX0_costOf ∈ z_WS := z_w 733 (by decide +kernel) rfl
theorem ml_X6_211 : Cond.methodLink RX6 211 yX0_inOrder ∈ z_WS := z_w 734 (by decide +kernel) rfl
theorem ml_L_118 : Cond.methodLink RL 118 yX6_mean ∈ z_WS := z_w 738 (by decide +kernel) rfl
theorem kl_X6_215 : Cond.constantLong RX6 215 (-1) ∈ z_WS := z_w 742 (by decide +kernel) rfl
theorem ml_X6_217 : Cond.methodLink RX6 217 yX6_weight ∈ z_WS := z_w 743 (by decide +kernel) rfl
theorem ml_X6_221 : Cond.methodLink RX6 221 yX6_weightOfAll ∈ z_WS := z_w 747 (by decide +kernel) rfl
theorem kl_X6_229 : Cond.constantLong RX6 229 (10) ∈ z_WS := z_w 751 (by decide +kernel) rfl
theorem ml_X6_225 : Cond.methodLink RX6 225 yX6_lowest ∈ z_WS := z_w 752 (by decide +kernel) rfl
theorem ml_X6_231 : Cond.methodLink RX6 231 yX6_commonDivisor ∈ z_WS := z_w 755 (by decide +kernel) rfl
theorem ml_L_123 : Cond.methodLink RL 123 yX6_luck ∈ z_WS := z_w 758 (by decide +kernel) rfl
theorem ml_L_128 : Cond.methodLink RL 128 yX6_see ∈ z_WS := z_w 762 (by decide +kernel) rfl
theorem ml_X6_235 : Cond.methodLink RX6 235 yX1_addSeen ∈ z_WS := z_w 766 (by decide +kernel) rfl
theorem ml_L_132 : Cond.methodLink RL 132 yX6_forget ∈ z_WS := z_w 770 (by decide +kernel) rfl
theorem ml_L_136 : Cond.methodLink RL 136 yX6_fits ∈ z_WS := z_w 774 (by decide +kernel) rfl
theorem ml_X6_241 : Cond.methodLink RX6 241 yX0_isAsSeen ∈ z_WS := z_w 778 (by decide +kernel) rfl
theorem ml_X0_76 : Cond.methodLink RX0 76 yX1_wasSeenAs ∈ z_WS := z_w 782 (by decide +kernel) rfl
theorem ml_L_140 : Cond.methodLink RL 140 yX6_drift ∈ z_WS := z_w 786 (by decide +kernel) rfl
theorem kc_X6_245 : Cond.constant RX6 245 (1103515245) ∈ z_WS := z_w 790 (by decide +kernel) rfl
theorem ml_L_144 : Cond.methodLink RL 144 yX6_keep ∈ z_WS := z_w 791 (by decide +kernel) rfl
theorem ml_L_148 : Cond.methodLink RL 148 yX6_back ∈ z_WS := z_w 795 (by decide +kernel) rfl
theorem ml_X6_246 : Cond.methodLink RX6 246 yX6_day ∈ z_WS := z_w 799 (by decide +kernel) rfl
theorem ml_L_152 : Cond.methodLink RL 152 yX6_sheet ∈ z_WS := z_w 800 (by decide +kernel) rfl
theorem ml_X6_249 : Cond.methodLink RX6 249 yX6_isSheet ∈ z_WS := z_w 804 (by decide +kernel) rfl
theorem ml_X6_252 : Cond.methodLink RX6 252 yX3_isLane ∈ z_WS := z_w 807 (by decide +kernel) rfl
theorem ml_X6_255 : Cond.methodLink RX6 255 yX3_renew ∈ z_WS := z_w 811 (by decide +kernel) rfl
theorem ml_X3_26 : Cond.methodLink RX3 26 yJ7_fill_53178 ∈ z_WS := z_w 815 (by decide +kernel) rfl
theorem ml_L_156 : Cond.methodLink RL 156 yX6_lay ∈ z_WS := z_w 818 (by decide +kernel) rfl
theorem ml_X6_259 : Cond.methodLink RX6 259 yX3_faultAt ∈ z_WS := z_w 822 (by decide +kernel) rfl
theorem ml_X3_32 : Cond.methodLink RX3 32 yX3_isNothing ∈ z_WS := z_w 826 (by decide +kernel) rfl
theorem ml_X6_262 : Cond.methodLink RX6 262 yX3_put ∈ z_WS := z_w 830 (by decide +kernel) rfl
theorem ml_L_160 : Cond.methodLink RL 160 yX6_read ∈ z_WS := z_w 834 (by decide +kernel) rfl
theorem ml_X6_265 : Cond.methodLink RX6 265 yX3_faultOfPair ∈ z_WS := z_w 838 (by decide +kernel) rfl
theorem ml_X3_36 : Cond.methodLink RX3 36 yX3_faultAt ∈ z_WS := z_w 842 (by decide +kernel) rfl
theorem ml_X6_268 : Cond.methodLink RX6 268 yX6_isComing ∈ z_WS := z_w 843 (by decide +kernel) rfl
theorem ml_X6_272 : Cond.methodLink RX6 272 yX3_cell ∈ z_WS := z_w 847 (by decide +kernel) rfl
theorem ml_X6_275 : Cond.methodLink RX6 275 yX6_alter ∈ z_WS := z_w 851 (by decide +kernel) rfl
theorem ml_L_165 : Cond.methodLink RL 165 yX6_torn ∈ z_WS := z_w 852 (by decide +kernel) rfl
theorem ml_L_169 : Cond.methodLink RL 169 yX6_count ∈ z_WS := z_w 856 (by decide +kernel) rfl
theorem ml_X6_282 : Cond.methodLink RX6 282 yX1_boatsFrom ∈ z_WS := z_w 860 (by decide +kernel) rfl
theorem ml_X6_285 : Cond.methodLink RX6 285 yJ6_bitCount_0f7a4 ∈ z_WS := z_w 864 (by decide +kernel) rfl
theorem kc_J6_265 : Cond.constant RJ6 265 (1431655765) ∈ z_WS := z_w 867 (by decide +kernel) rfl
theorem kc_J6_266 : Cond.constant RJ6 266 (858993459) ∈ z_WS := z_w 868 (by decide +kernel) rfl
theorem kc_J6_267 : Cond.constant RJ6 267 (252645135) ∈ z_WS := z_w 869 (by decide +kernel) rfl
theorem ml_X6_288 : Cond.methodLink RX6 288 yX3_isNothing ∈ z_WS := z_w 870 (by decide +kernel) rfl
theorem ml_L_12 : Cond.methodLink RL 12 yX7_init ∈ z_WS := z_w 873 (by decide +kernel) rfl
theorem ml_X7_50 : Cond.methodLink RX7 50 yX7_firstDraft ∈ z_WS := z_w 877 (by decide +kernel) rfl
theorem ml_X7_53 : Cond.methodLink RX7 53 yX7_keepDraft ∈ z_WS := z_w 881 (by decide +kernel) rfl
theorem fl_X7_7 : Cond.fieldLink RX7 7 "LockTurnsModel" "st" "[I" ∈ z_WS := z_w 885 (by decide +kernel) rfl
theorem fl_X7_13 : Cond.fieldLink RX7 13 "LockTurnsModel" "at" "[I" ∈ z_WS := z_w 886 (by decide +kernel) rfl
theorem fl_X7_16 : Cond.fieldLink RX7 16 "LockTurnsModel" "isKept" "[Z" ∈ z_WS := z_w 887 (by decide +kernel) rfl
theorem fl_X7_69 : Cond.fieldLink RX7 69 "LockTurnsModel" "boats" "I" ∈ z_WS := z_w 888 (by decide +kernel) rfl
theorem fl_X7_20 : Cond.fieldLink RX7 20 "LockTurnsModel" "draft" "[I" ∈ z_WS := z_w 889 (by decide +kernel) rfl
theorem fl_X7_56 : Cond.fieldLink RX7 56 "LockTurnsModel" "dBoats" "I" ∈ z_WS := z_w 890 (by decide +kernel) rfl
theorem fl_X7_60 : Cond.fieldLink RX7 60 "LockTurnsModel" "toldLines" "I" ∈ z_WS := z_w 891 (by decide +kernel) rfl
theorem fl_X7_63 : Cond.fieldLink RX7 63 "LockTurnsModel" "toldLiars" "I" ∈ z_WS := z_w 892 (by decide +kernel) rfl
theorem fl_X7_66 : Cond.fieldLink RX7 66 "LockTurnsModel" "highest" "I" ∈ z_WS := z_w 893 (by decide +kernel) rfl
theorem fl_X7_23 : Cond.fieldLink RX7 23 "LockTurnsModel" "tape" "[I" ∈ z_WS := z_w 894 (by decide +kernel) rfl
theorem fl_X7_78 : Cond.fieldLink RX7 78 "LockTurnsModel" "taped" "I" ∈ z_WS := z_w 895 (by decide +kernel) rfl
theorem fl_X7_90 : Cond.fieldLink RX7 90 "LockTurnsModel" "pos" "I" ∈ z_WS := z_w 896 (by decide +kernel) rfl
theorem fl_X7_84 : Cond.fieldLink RX7 84 "LockTurnsModel" "from" "I" ∈ z_WS := z_w 897 (by decide +kernel) rfl
theorem fl_X7_105 : Cond.fieldLink RX7 105 "LockTurnsModel" "sort" "I" ∈ z_WS := z_w 898 (by decide +kernel) rfl
theorem fl_X7_116 : Cond.fieldLink RX7 116 "LockTurnsModel" "value" "I" ∈ z_WS := z_w 899 (by decide +kernel) rfl
theorem fl_X7_81 : Cond.fieldLink RX7 81 "LockTurnsModel" "fault" "I" ∈ z_WS := z_w 900 (by decide +kernel) rfl
theorem fl_X7_87 : Cond.fieldLink RX7 87 "LockTurnsModel" "wrongAt" "I" ∈ z_WS := z_w 901 (by decide +kernel) rfl
theorem fl_X7_163 : Cond.fieldLink RX7 163 "LockTurnsModel" "caught" "I" ∈ z_WS := z_w 902 (by decide +kernel) rfl
theorem fl_X7_26 : Cond.fieldLink RX7 26 "LockTurnsModel" "passed" "[I" ∈ z_WS := z_w 903 (by decide +kernel) rfl
theorem fl_X7_29 : Cond.fieldLink RX7 29 "LockTurnsModel" "done" "[I" ∈ z_WS := z_w 904 (by decide +kernel) rfl
theorem fl_X7_32 : Cond.fieldLink RX7 32 "LockTurnsModel" "stands" "[I" ∈ z_WS := z_w 905 (by decide +kernel) rfl
theorem fl_X7_169 : Cond.fieldLink RX7 169 "LockTurnsModel" "passedMany" "I" ∈ z_WS := z_w 906 (by decide +kernel) rfl
theorem fl_X7_172 : Cond.fieldLink RX7 172 "LockTurnsModel" "free" "I" ∈ z_WS := z_w 907 (by decide +kernel) rfl
theorem fl_X7_175 : Cond.fieldLink RX7 175 "LockTurnsModel" "ready" "I" ∈ z_WS := z_w 908 (by decide +kernel) rfl
theorem fl_X7_178 : Cond.fieldLink RX7 178 "LockTurnsModel" "water" "I" ∈ z_WS := z_w 909 (by decide +kernel) rfl
theorem fl_X7_181 : Cond.fieldLink RX7 181 "LockTurnsModel" "turned" "I" ∈ z_WS := z_w 910 (by decide +kernel) rfl
theorem fl_X7_35 : Cond.fieldLink RX7 35 "LockTurnsModel" "row" "[I" ∈ z_WS := z_w 911 (by decide +kernel) rfl
theorem fl_X7_38 : Cond.fieldLink RX7 38 "LockTurnsModel" "lanes" "[I" ∈ z_WS := z_w 912 (by decide +kernel) rfl
theorem fl_X7_41 : Cond.fieldLink RX7 41 "LockTurnsModel" "sizes" "[I" ∈ z_WS := z_w 913 (by decide +kernel) rfl
theorem fl_X7_44 : Cond.fieldLink RX7 44 "LockTurnsModel" "cells" "[I" ∈ z_WS := z_w 914 (by decide +kernel) rfl
theorem fl_X7_335 : Cond.fieldLink RX7 335 "LockTurnsModel" "torn" "I" ∈ z_WS := z_w 915 (by decide +kernel) rfl
theorem fl_X7_47 : Cond.fieldLink RX7 47 "LockTurnsModel" "had" "[I" ∈ z_WS := z_w 916 (by decide +kernel) rfl
theorem ml_L_17 : Cond.methodLink RL 17 yX7_feed ∈ z_WS := z_w 983 (by decide +kernel) rfl
theorem kl_X7_72 : Cond.constantLong RX7 72 (127) ∈ z_WS := z_w 987 (by decide +kernel) rfl
theorem ml_X7_74 : Cond.methodLink RX7 74 yX7_in ∈ z_WS := z_w 988 (by decide +kernel) rfl
theorem ml_L_21 : Cond.methodLink RL 21 yX7_end ∈ z_WS := z_w 991 (by decide +kernel) rfl
theorem ml_L_26 : Cond.methodLink RL 26 yX7_text ∈ z_WS := z_w 995 (by decide +kernel) rfl
theorem ml_X7_127 : Cond.methodLink RX7 127 yX7_next ∈ z_WS := z_w 999 (by decide +kernel) rfl
theorem ml_X7_93 : Cond.methodLink RX7 93 yX7_byteAt ∈ z_WS := z_w 1003 (by decide +kernel) rfl
theorem kl_X7_108 : Cond.constantLong RX7 108 (97) ∈ z_WS := z_w 1007 (by decide +kernel) rfl
theorem kl_X7_110 : Cond.constantLong RX7 110 (122) ∈ z_WS := z_w 1008 (by decide +kernel) rfl
theorem kl_X7_112 : Cond.constantLong RX7 112 (48) ∈ z_WS := z_w 1009 (by decide +kernel) rfl
theorem kl_X7_114 : Cond.constantLong RX7 114 (57) ∈ z_WS := z_w 1010 (by decide +kernel) rfl
theorem ml_X7_119 : Cond.methodLink RX7 119 yX7_needs ∈ z_WS := z_w 1011 (by decide +kernel) rfl
theorem ml_X7_160 : Cond.methodLink RX7 160 yX7_readLine ∈ z_WS := z_w 1015 (by decide +kernel) rfl
theorem ml_X7_150 : Cond.methodLink RX7 150 yX7_lineNow ∈ z_WS := z_w 1019 (by decide +kernel) rfl
theorem ml_X7_97 : Cond.methodLink RX7 97 yX7_is ∈ z_WS := z_w 1023 (by decide +kernel) rfl
theorem ml_X7_101 : Cond.methodLink RX7 101 yX7_endsWith ∈ z_WS := z_w 1027 (by decide +kernel) rfl
theorem kl_X7_153 : Cond.constantLong RX7 153 (2) ∈ z_WS := z_w 1031 (by decide +kernel) rfl
theorem kl_X7_155 : Cond.constantLong RX7 155 (5) ∈ z_WS := z_w 1032 (by decide +kernel) rfl
theorem ml_X7_157 : Cond.methodLink RX7 157 yX7_readLineOf ∈ z_WS := z_w 1033 (by decide +kernel) rfl
theorem ml_X7_137 : Cond.methodLink RX7 137 yX7_readNumber ∈ z_WS := z_w 1037 (by decide +kernel) rfl
theorem ml_X7_123 : Cond.methodLink RX7 123 yX7_looked ∈ z_WS := z_w 1041 (by decide +kernel) rfl
theorem ml_X7_140 : Cond.methodLink RX7 140 yX7_lawNow ∈ z_WS := z_w 1045 (by decide +kernel) rfl
theorem ml_X7_134 : Cond.methodLink RX7 134 yX7_readName ∈ z_WS := z_w 1049 (by decide +kernel) rfl
theorem ml_X7_143 : Cond.methodLink RX7 143 yX7_readLiar ∈ z_WS := z_w 1053 (by decide +kernel) rfl
theorem ml_X7_146 : Cond.methodLink RX7 146 yX7_readBoat ∈ z_WS := z_w 1057 (by decide +kernel) rfl
theorem ml_X7_130 : Cond.methodLink RX7 130 yX7_cargoNow ∈ z_WS := z_w 1061 (by decide +kernel) rfl
theorem ml_L_30 : Cond.methodLink RL 30 yX7_fault ∈ z_WS := z_w 1065 (by decide +kernel) rfl
theorem ml_L_34 : Cond.methodLink RL 34 yX7_rule ∈ z_WS := z_w 1069 (by decide +kernel) rfl
theorem ml_X7_234 : Cond.methodLink RX7 234 yX7_liars ∈ z_WS := z_w 1073 (by decide +kernel) rfl
theorem ml_L_39 : Cond.methodLink RL 39 yX7_boat ∈ z_WS := z_w 1077 (by decide +kernel) rfl
theorem ml_X7_237 : Cond.methodLink RX7 237 yX7_isBoat ∈ z_WS := z_w 1081 (by decide +kernel) rfl
theorem kl_X7_240 : Cond.constantLong RX7 240 (6) ∈ z_WS := z_w 1085 (by decide +kernel) rfl
theorem ml_X7_228 : Cond.methodLink RX7 228 yX7_starts ∈ z_WS := z_w 1086 (by decide +kernel) rfl
theorem ml_X7_166 : Cond.methodLink RX7 166 yX7_of ∈ z_WS := z_w 1090 (by decide +kernel) rfl
theorem ml_X7_207 : Cond.methodLink RX7 207 yX7_countsFrom ∈ z_WS := z_w 1094 (by decide +kernel) rfl
theorem ml_L_43 : Cond.methodLink RL 43 yX7_set ∈ z_WS := z_w 1098 (by decide +kernel) rfl
theorem ml_X7_242 : Cond.methodLink RX7 242 yX7_mostOf ∈ z_WS := z_w 1102 (by decide +kernel) rfl
theorem ml_X7_245 : Cond.methodLink RX7 245 yX7_becomes ∈ z_WS := z_w 1105 (by decide +kernel) rfl
theorem ml_L_48 : Cond.methodLink RL 48 yX7_alter ∈ z_WS := z_w 1109 (by decide +kernel) rfl
theorem kl_X7_248 : Cond.constantLong RX7 248 (4) ∈ z_WS := z_w 1113 (by decide +kernel) rfl
theorem kl_X7_250 : Cond.constantLong RX7 250 (3) ∈ z_WS := z_w 1114 (by decide +kernel) rfl
theorem kl_X7_252 : Cond.constantLong RX7 252 (99) ∈ z_WS := z_w 1115 (by decide +kernel) rfl
theorem kl_X7_254 : Cond.constantLong RX7 254 (9) ∈ z_WS := z_w 1116 (by decide +kernel) rfl
theorem ml_L_53 : Cond.methodLink RL 53 yX7_lie ∈ z_WS := z_w 1117 (by decide +kernel) rfl
theorem ml_X7_184 : Cond.methodLink RX7 184 yX7_flag ∈ z_WS := z_w 1121 (by decide +kernel) rfl
theorem ml_L_57 : Cond.methodLink RL 57 yX7_cross ∈ z_WS := z_w 1124 (by decide +kernel) rfl
theorem ml_L_61 : Cond.methodLink RL 61 yX7_passes ∈ z_WS := z_w 1128 (by decide +kernel) rfl
theorem ml_X7_256 : Cond.methodLink RX7 256 yX7_dayNow ∈ z_WS := z_w 1132 (by decide +kernel) rfl
theorem ml_X7_231 : Cond.methodLink RX7 231 yX7_dayGoes ∈ z_WS := z_w 1136 (by decide +kernel) rfl
theorem ml_X7_210 : Cond.methodLink RX7 210 yX7_opens ∈ z_WS := z_w 1140 (by decide +kernel) rfl
theorem ml_X7_213 : Cond.methodLink RX7 213 yX7_counting ∈ z_WS := z_w 1144 (by decide +kernel) rfl
theorem ml_X7_216 : Cond.methodLink RX7 216 yX7_earliest ∈ z_WS := z_w 1148 (by decide +kernel) rfl
theorem ml_X7_219 : Cond.methodLink RX7 219 yX7_taken ∈ z_WS := z_w 1152 (by decide +kernel) rfl
theorem ml_X7_188 : Cond.methodLink RX7 188 yX7_comeFrom ∈ z_WS := z_w 1156 (by decide +kernel) rfl
theorem ml_X7_195 : Cond.methodLink RX7 195 yX7_bitsOf ∈ z_WS := z_w 1160 (by decide +kernel) rfl
theorem ml_X7_198 : Cond.methodLink RX7 198 yX7_preferred ∈ z_WS := z_w 1163 (by decide +kernel) rfl
theorem ml_X7_201 : Cond.methodLink RX7 201 yX7_sideOf ∈ z_WS := z_w 1167 (by decide +kernel) rfl
theorem ml_X7_204 : Cond.methodLink RX7 204 yX7_leastCargo ∈ z_WS := z_w 1171 (by decide +kernel) rfl
theorem kc_X7_191 : Cond.constant RX7 191 (1000000000) ∈ z_WS := z_w 1175 (by decide +kernel) rfl
theorem ml_X7_192 : Cond.methodLink RX7 192 yX7_cargoTold ∈ z_WS := z_w 1176 (by decide +kernel) rfl
theorem ml_X7_222 : Cond.methodLink RX7 222 yX7_lets ∈ z_WS := z_w 1180 (by decide +kernel) rfl
theorem ml_L_65 : Cond.methodLink RL 65 yX7_through ∈ z_WS := z_w 1184 (by decide +kernel) rfl
theorem ml_L_69 : Cond.methodLink RL 69 yX7_stood ∈ z_WS := z_w 1188 (by decide +kernel) rfl
theorem ml_L_73 : Cond.methodLink RL 73 yX7_day ∈ z_WS := z_w 1192 (by decide +kernel) rfl
theorem ml_X7_259 : Cond.methodLink RX7 259 yX7_tells ∈ z_WS := z_w 1196 (by decide +kernel) rfl
theorem ml_X7_225 : Cond.methodLink RX7 225 yX7_costNow ∈ z_WS := z_w 1200 (by decide +kernel) rfl
theorem ml_L_77 : Cond.methodLink RL 77 yX7_table ∈ z_WS := z_w 1204 (by decide +kernel) rfl
theorem ml_X7_262 : Cond.methodLink RX7 262 yX7_dayBy ∈ z_WS := z_w 1208 (by decide +kernel) rfl
theorem ml_L_81 : Cond.methodLink RL 81 yX7_best ∈ z_WS := z_w 1212 (by decide +kernel) rfl
theorem ml_L_85 : Cond.methodLink RL 85 yX7_order ∈ z_WS := z_w 1216 (by decide +kernel) rfl
theorem ml_X7_265 : Cond.methodLink RX7 265 yX7_rows ∈ z_WS := z_w 1220 (by decide +kernel) rfl
theorem ml_X7_268 : Cond.methodLink RX7 268 yX7_isOrder ∈ z_WS := z_w 1224 (by decide +kernel) rfl
theorem ml_X7_271 : Cond.methodLink RX7 271 yX7_goesInOrder ∈ z_WS := z_w 1228 (by decide +kernel) rfl
theorem ml_L_89 : Cond.methodLink RL 89 yX7_firsts ∈ z_WS := z_w 1232 (by decide +kernel) rfl
theorem ml_L_93 : Cond.methodLink RL 93 yX7_gain ∈ z_WS := z_w 1236 (by decide +kernel) rfl
theorem ml_X7_278 : Cond.methodLink RX7 278 yX7_gainOf ∈ z_WS := z_w 1240 (by decide +kernel) rfl
theorem ml_X7_274 : Cond.methodLink RX7 274 yX7_becomesOf ∈ z_WS := z_w 1244 (by decide +kernel) rfl
theorem ml_L_97 : Cond.methodLink RL 97 yX7_calm ∈ z_WS := z_w 1248 (by decide +kernel) rfl
theorem ml_X7_281 : Cond.methodLink RX7 281 yX7_isCalm ∈ z_WS := z_w 1252 (by decide +kernel) rfl
theorem ml_L_101 : Cond.methodLink RL 101 yX7_rests ∈ z_WS := z_w 1256 (by decide +kernel) rfl
theorem ml_X7_285 : Cond.methodLink RX7 285 yX7_isPart ∈ z_WS := z_w 1260 (by decide +kernel) rfl
theorem ml_X7_288 : Cond.methodLink RX7 288 yX7_liesBy ∈ z_WS := z_w 1263 (by decide +kernel) rfl
theorem ml_L_105 : Cond.methodLink RL 105 yX7_boy ∈ z_WS := z_w 1267 (by decide +kernel) rfl
theorem ml_X7_291 : Cond.methodLink RX7 291 yX7_placeOf ∈ z_WS := z_w 1271 (by decide +kernel) rfl
theorem ml_L_109 : Cond.methodLink RL 109 yX7_post ∈ z_WS := z_w 1275 (by decide +kernel) rfl
theorem ml_L_113 : Cond.methodLink RL 113 yX7_late ∈ z_WS := z_w 1279 (by decide +kernel) rfl
theorem ml_L_117 : Cond.methodLink RL 117 yX7_deal ∈ z_WS := z_w 1283 (by decide +kernel) rfl
theorem ml_L_122 : Cond.methodLink RL 122 yX7_mean ∈ z_WS := z_w 1287 (by decide +kernel) rfl
theorem kl_X7_298 : Cond.constantLong RX7 298 (10) ∈ z_WS := z_w 1291 (by decide +kernel) rfl
theorem kl_X7_300 : Cond.constantLong RX7 300 (-1) ∈ z_WS := z_w 1292 (by decide +kernel) rfl
theorem ml_X7_302 : Cond.methodLink RX7 302 yX7_dayCaught ∈ z_WS := z_w 1293 (by decide +kernel) rfl
theorem ml_X7_305 : Cond.methodLink RX7 305 yX7_waysOf ∈ z_WS := z_w 1297 (by decide +kernel) rfl
theorem ml_X7_309 : Cond.methodLink RX7 309 yX7_allWays ∈ z_WS := z_w 1301 (by decide +kernel) rfl
theorem ml_X7_313 : Cond.methodLink RX7 313 yX7_told ∈ z_WS := z_w 1305 (by decide +kernel) rfl
theorem ml_X7_294 : Cond.methodLink RX7 294 yX7_common ∈ z_WS := z_w 1308 (by decide +kernel) rfl
theorem ml_L_127 : Cond.methodLink RL 127 yX7_luck ∈ z_WS := z_w 1311 (by decide +kernel) rfl
theorem ml_L_131 : Cond.methodLink RL 131 yX7_see ∈ z_WS := z_w 1315 (by decide +kernel) rfl
theorem ml_L_135 : Cond.methodLink RL 135 yX7_forget ∈ z_WS := z_w 1319 (by decide +kernel) rfl
theorem ml_L_139 : Cond.methodLink RL 139 yX7_fits ∈ z_WS := z_w 1323 (by decide +kernel) rfl
theorem ml_X7_317 : Cond.methodLink RX7 317 yX7_isSo ∈ z_WS := z_w 1327 (by decide +kernel) rfl
theorem ml_L_143 : Cond.methodLink RL 143 yX7_drift ∈ z_WS := z_w 1331 (by decide +kernel) rfl
theorem kl_X7_321 : Cond.constantLong RX7 321 (20) ∈ z_WS := z_w 1335 (by decide +kernel) rfl
theorem kc_X7_323 : Cond.constant RX7 323 (1103515245) ∈ z_WS := z_w 1336 (by decide +kernel) rfl
theorem ml_L_147 : Cond.methodLink RL 147 yX7_keep ∈ z_WS := z_w 1337 (by decide +kernel) rfl
theorem ml_X7_324 : Cond.methodLink RX7 324 yX7_copies ∈ z_WS := z_w 1341 (by decide +kernel) rfl
theorem ml_L_151 : Cond.methodLink RL 151 yX7_back ∈ z_WS := z_w 1345 (by decide +kernel) rfl
theorem ml_L_155 : Cond.methodLink RL 155 yX7_sheet ∈ z_WS := z_w 1349 (by decide +kernel) rfl
theorem ml_X7_328 : Cond.methodLink RX7 328 yX7_isSheet ∈ z_WS := z_w 1353 (by decide +kernel) rfl
theorem ml_L_159 : Cond.methodLink RL 159 yX7_lay ∈ z_WS := z_w 1356 (by decide +kernel) rfl
theorem ml_L_164 : Cond.methodLink RL 164 yX7_read ∈ z_WS := z_w 1360 (by decide +kernel) rfl
theorem ml_X7_331 : Cond.methodLink RX7 331 yX7_alter ∈ z_WS := z_w 1364 (by decide +kernel) rfl
theorem ml_L_168 : Cond.methodLink RL 168 yX7_torn ∈ z_WS := z_w 1365 (by decide +kernel) rfl
theorem ml_L_172 : Cond.methodLink RL 172 yX7_count ∈ z_WS := z_w 1369 (by decide +kernel) rfl
theorem fl_J0_9 : Cond.fieldLink RJ0 9 "java/lang/String" "value" "[B" ∈ z_WS := z_w 1373 (by decide +kernel) rfl
theorem fl_J0_15 : Cond.fieldLink RJ0 15 "java/lang/String" "coder" "B" ∈ z_WS := z_w 1374 (by decide +kernel) rfl
theorem cw_X0_init : Cond.code yX0_init cX0_init 1 none ∈ z_WS := z_w 220 (by decide +kernel) rfl
theorem im_X0_init : Cond.instanceMethod yX0_init ∈ z_WS := z_w 219 (by decide +kernel) rfl
theorem cw_X0_by : Cond.code yX0_by cX0_by 6 none ∈ z_WS := z_w 573 (by decide +kernel) rfl
theorem im_X0_by : Cond.instanceMethod yX0_by ∈ z_WS := z_w 571 (by decide +kernel) rfl
theorem se_X0_by : Cond.selects RX0 yX0_by yX0_by ∈ z_WS := z_w 572 (by decide +kernel) rfl
theorem cw_X0_inOrder : Cond.code yX0_inOrder cX0_inOrder 4 none ∈ z_WS := z_w 737 (by decide +kernel) rfl
theorem im_X0_inOrder : Cond.instanceMethod yX0_inOrder ∈ z_WS := z_w 735 (by decide +kernel) rfl
theorem se_X0_inOrder : Cond.selects RX0 yX0_inOrder yX0_inOrder ∈ z_WS := z_w 736 (by decide +kernel) rfl
theorem cw_X0_measure : Cond.code yX0_measure cX0_measure 2 (some .int) ∈ z_WS := z_w 648 (by decide +kernel) rfl
theorem im_X0_measure : Cond.instanceMethod yX0_measure ∈ z_WS := z_w 646 (by decide +kernel) rfl
theorem se_X0_measure : Cond.selects RX0 yX0_measure yX0_measure ∈ z_WS := z_w 647 (by decide +kernel) rfl
theorem cw_X0_costOf : Cond.code yX0_costOf cX0_costOf 3 (some .int) ∈ z_WS := z_w 622 (by decide +kernel) rfl
theorem im_X0_costOf : Cond.instanceMethod yX0_costOf ∈ z_WS := z_w 620 (by decide +kernel) rfl
theorem se_X0_costOf : Cond.selects RX0 yX0_costOf yX0_costOf ∈ z_WS := z_w 621 (by decide +kernel) rfl
theorem cw_X0_isAsSeen : Cond.code yX0_isAsSeen cX0_isAsSeen 2 (some .boolean) ∈ z_WS := z_w 781 (by decide +kernel) rfl
theorem im_X0_isAsSeen : Cond.instanceMethod yX0_isAsSeen ∈ z_WS := z_w 779 (by decide +kernel) rfl
theorem se_X0_isAsSeen : Cond.selects RX0 yX0_isAsSeen yX0_isAsSeen ∈ z_WS := z_w 780 (by decide +kernel) rfl
theorem cw_X0_begin : Cond.code yX0_begin cX0_begin 2 none ∈ z_WS := z_w 577 (by decide +kernel) rfl
theorem im_X0_begin : Cond.instanceMethod yX0_begin ∈ z_WS := z_w 576 (by decide +kernel) rfl
theorem se_X0_begin : Cond.selects RX0 yX0_begin yX0_begin ∈ z_WS := z_w 14 (by decide +kernel) rfl
theorem cw_X0_waitForOne : Cond.code yX0_waitForOne cX0_waitForOne 4 none ∈ z_WS := z_w 583 (by decide +kernel) rfl
theorem im_X0_waitForOne : Cond.instanceMethod yX0_waitForOne ∈ z_WS := z_w 582 (by decide +kernel) rfl
theorem se_X0_waitForOne : Cond.selects RX0 yX0_waitForOne yX0_waitForOne ∈ z_WS := z_w 15 (by decide +kernel) rfl
theorem cw_X0_waits : Cond.code yX0_waits cX0_waits 2 (some .boolean) ∈ z_WS := z_w 605 (by decide +kernel) rfl
theorem im_X0_waits : Cond.instanceMethod yX0_waits ∈ z_WS := z_w 604 (by decide +kernel) rfl
theorem se_X0_waits : Cond.selects RX0 yX0_waits yX0_waits ∈ z_WS := z_w 19 (by decide +kernel) rfl
theorem cw_X0_chosen : Cond.code yX0_chosen cX0_chosen 8 (some .int) ∈ z_WS := z_w 609 (by decide +kernel) rfl
theorem im_X0_chosen : Cond.instanceMethod yX0_chosen ∈ z_WS := z_w 608 (by decide +kernel) rfl
theorem se_X0_chosen : Cond.selects RX0 yX0_chosen yX0_chosen ∈ z_WS := z_w 20 (by decide +kernel) rfl
theorem cw_X0_rank : Cond.code yX0_rank cX0_rank 5 (some .int) ∈ z_WS := z_w 613 (by decide +kernel) rfl
theorem im_X0_rank : Cond.instanceMethod yX0_rank ∈ z_WS := z_w 612 (by decide +kernel) rfl
theorem se_X0_rank : Cond.selects RX0 yX0_rank yX0_rank ∈ z_WS := z_w 21 (by decide +kernel) rfl
theorem cw_X0_sideAhead : Cond.code yX0_sideAhead cX0_sideAhead 3 (some .int) ∈ z_WS := z_w 592 (by decide +kernel) rfl
theorem im_X0_sideAhead : Cond.instanceMethod yX0_sideAhead ∈ z_WS := z_w 591 (by decide +kernel) rfl
theorem se_X0_sideAhead : Cond.selects RX0 yX0_sideAhead yX0_sideAhead ∈ z_WS := z_w 16 (by decide +kernel) rfl
theorem cw_X0_sideByTwos : Cond.code yX0_sideByTwos cX0_sideByTwos 3 (some .int) ∈ z_WS := z_w 596 (by decide +kernel) rfl
theorem im_X0_sideByTwos : Cond.instanceMethod yX0_sideByTwos ∈ z_WS := z_w 595 (by decide +kernel) rfl
theorem se_X0_sideByTwos : Cond.selects RX0 yX0_sideByTwos yX0_sideByTwos ∈ z_WS := z_w 17 (by decide +kernel) rfl
theorem cw_X0_sideByQueue : Cond.code yX0_sideByQueue cX0_sideByQueue 4 (some .int) ∈ z_WS := z_w 601 (by decide +kernel) rfl
theorem im_X0_sideByQueue : Cond.instanceMethod yX0_sideByQueue ∈ z_WS := z_w 600 (by decide +kernel) rfl
theorem se_X0_sideByQueue : Cond.selects RX0 yX0_sideByQueue yX0_sideByQueue ∈ z_WS := z_w 18 (by decide +kernel) rfl
theorem cw_X0_admit : Cond.code yX0_admit cX0_admit 6 none ∈ z_WS := z_w 617 (by decide +kernel) rfl
theorem im_X0_admit : Cond.instanceMethod yX0_admit ∈ z_WS := z_w 616 (by decide +kernel) rfl
theorem se_X0_admit : Cond.selects RX0 yX0_admit yX0_admit ∈ z_WS := z_w 22 (by decide +kernel) rfl
theorem cw_X1_init : Cond.code yX1_init cX1_init 1 none ∈ z_WS := z_w 113 (by decide +kernel) rfl
theorem im_X1_init : Cond.instanceMethod yX1_init ∈ z_WS := z_w 112 (by decide +kernel) rfl
theorem cw_X1_clear : Cond.code yX1_clear cX1_clear 1 none ∈ z_WS := z_w 365 (by decide +kernel) rfl
theorem im_X1_clear : Cond.instanceMethod yX1_clear ∈ z_WS := z_w 363 (by decide +kernel) rfl
theorem se_X1_clear : Cond.selects RX1 yX1_clear yX1_clear ∈ z_WS := z_w 364 (by decide +kernel) rfl
theorem cw_X1_copyFrom : Cond.code yX1_copyFrom cX1_copyFrom 2 none ∈ z_WS := z_w 510 (by decide +kernel) rfl
theorem im_X1_copyFrom : Cond.instanceMethod yX1_copyFrom ∈ z_WS := z_w 508 (by decide +kernel) rfl
theorem se_X1_copyFrom : Cond.selects RX1 yX1_copyFrom yX1_copyFrom ∈ z_WS := z_w 509 (by decide +kernel) rfl
theorem cw_X1_mark : Cond.code yX1_mark cX1_mark 3 (some .int) ∈ z_WS := z_w 534 (by decide +kernel) rfl
theorem im_X1_mark : Cond.instanceMethod yX1_mark ∈ z_WS := z_w 532 (by decide +kernel) rfl
theorem se_X1_mark : Cond.selects RX1 yX1_mark yX1_mark ∈ z_WS := z_w 533 (by decide +kernel) rfl
theorem cw_X1_setMark : Cond.code yX1_setMark cX1_setMark 4 none ∈ z_WS := z_w 456 (by decide +kernel) rfl
theorem im_X1_setMark : Cond.instanceMethod yX1_setMark ∈ z_WS := z_w 454 (by decide +kernel) rfl
theorem se_X1_setMark : Cond.selects RX1 yX1_setMark yX1_setMark ∈ z_WS := z_w 455 (by decide +kernel) rfl
theorem cw_X1_countsFrom : Cond.code yX1_countsFrom cX1_countsFrom 3 (some .int) ∈ z_WS := z_w 530 (by decide +kernel) rfl
theorem im_X1_countsFrom : Cond.instanceMethod yX1_countsFrom ∈ z_WS := z_w 528 (by decide +kernel) rfl
theorem se_X1_countsFrom : Cond.selects RX1 yX1_countsFrom yX1_countsFrom ∈ z_WS := z_w 529 (by decide +kernel) rfl
theorem cw_X1_boatsFrom : Cond.code yX1_boatsFrom cX1_boatsFrom 4 (some .int) ∈ z_WS := z_w 863 (by decide +kernel) rfl
theorem im_X1_boatsFrom : Cond.instanceMethod yX1_boatsFrom ∈ z_WS := z_w 861 (by decide +kernel) rfl
theorem se_X1_boatsFrom : Cond.selects RX1 yX1_boatsFrom yX1_boatsFrom ∈ z_WS := z_w 862 (by decide +kernel) rfl
theorem cw_X1_addSeen : Cond.code yX1_addSeen cX1_addSeen 3 (some .boolean) ∈ z_WS := z_w 769 (by decide +kernel) rfl
theorem im_X1_addSeen : Cond.instanceMethod yX1_addSeen ∈ z_WS := z_w 767 (by decide +kernel) rfl
theorem se_X1_addSeen : Cond.selects RX1 yX1_addSeen yX1_addSeen ∈ z_WS := z_w 768 (by decide +kernel) rfl
theorem cw_X1_wasSeenAs : Cond.code yX1_wasSeenAs cX1_wasSeenAs 3 (some .boolean) ∈ z_WS := z_w 785 (by decide +kernel) rfl
theorem im_X1_wasSeenAs : Cond.instanceMethod yX1_wasSeenAs ∈ z_WS := z_w 783 (by decide +kernel) rfl
theorem se_X1_wasSeenAs : Cond.selects RX1 yX1_wasSeenAs yX1_wasSeenAs ∈ z_WS := z_w 784 (by decide +kernel) rfl
theorem cw_X2_init : Cond.code yX2_init cX2_init 1 none ∈ z_WS := z_w 270 (by decide +kernel) rfl
theorem im_X2_init : Cond.instanceMethod yX2_init ∈ z_WS := z_w 269 (by decide +kernel) rfl
theorem cw_X2_seekLeastCost : Cond.code yX2_seekLeastCost cX2_seekLeastCost 2 none ∈ z_WS := z_w 662 (by decide +kernel) rfl
theorem im_X2_seekLeastCost : Cond.instanceMethod yX2_seekLeastCost ∈ z_WS := z_w 660 (by decide +kernel) rfl
theorem se_X2_seekLeastCost : Cond.selects RX2 yX2_seekLeastCost yX2_seekLeastCost ∈ z_WS := z_w 661 (by decide +kernel) rfl
theorem cw_X2_seek : Cond.code yX2_seek cX2_seek 12 none ∈ z_WS := z_w 667 (by decide +kernel) rfl
theorem im_X2_seek : Cond.instanceMethod yX2_seek ∈ z_WS := z_w 666 (by decide +kernel) rfl
theorem se_X2_seek : Cond.selects RX2 yX2_seek yX2_seek ∈ z_WS := z_w 23 (by decide +kernel) rfl
theorem cw_X3_init : Cond.code yX3_init cX3_init 1 none ∈ z_WS := z_w 289 (by decide +kernel) rfl
theorem im_X3_init : Cond.instanceMethod yX3_init ∈ z_WS := z_w 288 (by decide +kernel) rfl
theorem cw_X3_isLane : Cond.code yX3_isLane cX3_isLane 1 (some .boolean) ∈ z_WS := z_w 809 (by decide +kernel) rfl
theorem st_X3_isLane : Cond.static yX3_isLane ∈ z_WS := z_w 808 (by decide +kernel) rfl
theorem cw_X3_isNothing : Cond.code yX3_isNothing cX3_isNothing 1 (some .boolean) ∈ z_WS := z_w 829 (by decide +kernel) rfl
theorem im_X3_isNothing : Cond.instanceMethod yX3_isNothing ∈ z_WS := z_w 827 (by decide +kernel) rfl
theorem se_X3_isNothing : Cond.selects RX3 yX3_isNothing yX3_isNothing ∈ z_WS := z_w 828 (by decide +kernel) rfl
theorem cw_X3_renew : Cond.code yX3_renew cX3_renew 3 none ∈ z_WS := z_w 814 (by decide +kernel) rfl
theorem im_X3_renew : Cond.instanceMethod yX3_renew ∈ z_WS := z_w 812 (by decide +kernel) rfl
theorem se_X3_renew : Cond.selects RX3 yX3_renew yX3_renew ∈ z_WS := z_w 813 (by decide +kernel) rfl
theorem cw_X3_put : Cond.code yX3_put cX3_put 3 none ∈ z_WS := z_w 833 (by decide +kernel) rfl
theorem im_X3_put : Cond.instanceMethod yX3_put ∈ z_WS := z_w 831 (by decide +kernel) rfl
theorem se_X3_put : Cond.selects RX3 yX3_put yX3_put ∈ z_WS := z_w 832 (by decide +kernel) rfl
theorem cw_X3_cell : Cond.code yX3_cell cX3_cell 2 (some .int) ∈ z_WS := z_w 850 (by decide +kernel) rfl
theorem im_X3_cell : Cond.instanceMethod yX3_cell ∈ z_WS := z_w 848 (by decide +kernel) rfl
theorem se_X3_cell : Cond.selects RX3 yX3_cell yX3_cell ∈ z_WS := z_w 849 (by decide +kernel) rfl
theorem cw_X3_faultAt : Cond.code yX3_faultAt cX3_faultAt 2 (some .int) ∈ z_WS := z_w 825 (by decide +kernel) rfl
theorem im_X3_faultAt : Cond.instanceMethod yX3_faultAt ∈ z_WS := z_w 823 (by decide +kernel) rfl
theorem se_X3_faultAt : Cond.selects RX3 yX3_faultAt yX3_faultAt ∈ z_WS := z_w 824 (by decide +kernel) rfl
theorem cw_X3_faultOfPair : Cond.code yX3_faultOfPair cX3_faultOfPair 4 (some .int) ∈ z_WS := z_w 841 (by decide +kernel) rfl
theorem im_X3_faultOfPair : Cond.instanceMethod yX3_faultOfPair ∈ z_WS := z_w 839 (by decide +kernel) rfl
theorem se_X3_faultOfPair : Cond.selects RX3 yX3_faultOfPair yX3_faultOfPair ∈ z_WS := z_w 840 (by decide +kernel) rfl
theorem cw_X4_init : Cond.code yX4_init cX4_init 1 none ∈ z_WS := z_w 163 (by decide +kernel) rfl
theorem im_X4_init : Cond.instanceMethod yX4_init ∈ z_WS := z_w 162 (by decide +kernel) rfl
theorem cw_X4_append : Cond.code yX4_append cX4_append 2 (some .boolean) ∈ z_WS := z_w 349 (by decide +kernel) rfl
theorem im_X4_append : Cond.instanceMethod yX4_append ∈ z_WS := z_w 347 (by decide +kernel) rfl
theorem se_X4_append : Cond.selects RX4 yX4_append yX4_append ∈ z_WS := z_w 348 (by decide +kernel) rfl
theorem cw_X4_rewind : Cond.code yX4_rewind cX4_rewind 1 none ∈ z_WS := z_w 372 (by decide +kernel) rfl
theorem im_X4_rewind : Cond.instanceMethod yX4_rewind ∈ z_WS := z_w 370 (by decide +kernel) rfl
theorem se_X4_rewind : Cond.selects RX4 yX4_rewind yX4_rewind ∈ z_WS := z_w 371 (by decide +kernel) rfl
theorem cw_X4_next : Cond.code yX4_next cX4_next 1 none ∈ z_WS := z_w 376 (by decide +kernel) rfl
theorem im_X4_next : Cond.instanceMethod yX4_next ∈ z_WS := z_w 374 (by decide +kernel) rfl
theorem se_X4_next : Cond.selects RX4 yX4_next yX4_next ∈ z_WS := z_w 375 (by decide +kernel) rfl
theorem cw_X4_kindOf : Cond.code yX4_kindOf cX4_kindOf 1 (some .int) ∈ z_WS := z_w 379 (by decide +kernel) rfl
theorem st_X4_kindOf : Cond.static yX4_kindOf ∈ z_WS := z_w 378 (by decide +kernel) rfl
theorem cw_X4_valueNumber : Cond.code yX4_valueNumber cX4_valueNumber 2 none ∈ z_WS := z_w 383 (by decide +kernel) rfl
theorem im_X4_valueNumber : Cond.instanceMethod yX4_valueNumber ∈ z_WS := z_w 382 (by decide +kernel) rfl
theorem se_X4_valueNumber : Cond.selects RX4 yX4_valueNumber yX4_valueNumber ∈ z_WS := z_w 0 (by decide +kernel) rfl
theorem cw_X4_isName : Cond.code yX4_isName cX4_isName 3 (some .boolean) ∈ z_WS := z_w 392 (by decide +kernel) rfl
theorem im_X4_isName : Cond.instanceMethod yX4_isName ∈ z_WS := z_w 390 (by decide +kernel) rfl
theorem se_X4_isName : Cond.selects RX4 yX4_isName yX4_isName ∈ z_WS := z_w 391 (by decide +kernel) rfl
theorem cw_X5_init : Cond.code yX5_init cX5_init 2 none ∈ z_WS := z_w 194 (by decide +kernel) rfl
theorem im_X5_init : Cond.instanceMethod yX5_init ∈ z_WS := z_w 193 (by decide +kernel) rfl
theorem cw_X5_tell : Cond.code yX5_tell cX5_tell 2 (some .int) ∈ z_WS := z_w 361 (by decide +kernel) rfl
theorem im_X5_tell : Cond.instanceMethod yX5_tell ∈ z_WS := z_w 359 (by decide +kernel) rfl
theorem se_X5_tell : Cond.selects RX5 yX5_tell yX5_tell ∈ z_WS := z_w 360 (by decide +kernel) rfl
theorem cw_X5_takeLine : Cond.code yX5_takeLine cX5_takeLine 1 (some .boolean) ∈ z_WS := z_w 387 (by decide +kernel) rfl
theorem im_X5_takeLine : Cond.instanceMethod yX5_takeLine ∈ z_WS := z_w 386 (by decide +kernel) rfl
theorem se_X5_takeLine : Cond.selects RX5 yX5_takeLine yX5_takeLine ∈ z_WS := z_w 1 (by decide +kernel) rfl
theorem cw_X5_isFirst : Cond.code yX5_isFirst cX5_isFirst 2 (some .boolean) ∈ z_WS := z_w 486 (by decide +kernel) rfl
theorem im_X5_isFirst : Cond.instanceMethod yX5_isFirst ∈ z_WS := z_w 485 (by decide +kernel) rfl
theorem se_X5_isFirst : Cond.selects RX5 yX5_isFirst yX5_isFirst ∈ z_WS := z_w 9 (by decide +kernel) rfl
theorem cw_X5_takeBoat : Cond.code yX5_takeBoat cX5_takeBoat 4 (some .boolean) ∈ z_WS := z_w 444 (by decide +kernel) rfl
theorem im_X5_takeBoat : Cond.instanceMethod yX5_takeBoat ∈ z_WS := z_w 443 (by decide +kernel) rfl
theorem se_X5_takeBoat : Cond.selects RX5 yX5_takeBoat yX5_takeBoat ∈ z_WS := z_w 2 (by decide +kernel) rfl
theorem cw_X5_takeCargo : Cond.code yX5_takeCargo cX5_takeCargo 3 (some .boolean) ∈ z_WS := z_w 460 (by decide +kernel) rfl
theorem im_X5_takeCargo : Cond.instanceMethod yX5_takeCargo ∈ z_WS := z_w 459 (by decide +kernel) rfl
theorem se_X5_takeCargo : Cond.selects RX5 yX5_takeCargo yX5_takeCargo ∈ z_WS := z_w 5 (by decide +kernel) rfl
theorem cw_X5_takeRules : Cond.code yX5_takeRules cX5_takeRules 4 (some .boolean) ∈ z_WS := z_w 490 (by decide +kernel) rfl
theorem im_X5_takeRules : Cond.instanceMethod yX5_takeRules ∈ z_WS := z_w 489 (by decide +kernel) rfl
theorem se_X5_takeRules : Cond.selects RX5 yX5_takeRules yX5_takeRules ∈ z_WS := z_w 10 (by decide +kernel) rfl
theorem cw_X5_takeLaw : Cond.code yX5_takeLaw cX5_takeLaw 2 (some .boolean) ∈ z_WS := z_w 499 (by decide +kernel) rfl
theorem im_X5_takeLaw : Cond.instanceMethod yX5_takeLaw ∈ z_WS := z_w 498 (by decide +kernel) rfl
theorem se_X5_takeLaw : Cond.selects RX5 yX5_takeLaw yX5_takeLaw ∈ z_WS := z_w 11 (by decide +kernel) rfl
theorem cw_X5_takeLiar : Cond.code yX5_takeLiar cX5_takeLiar 1 (some .boolean) ∈ z_WS := z_w 481 (by decide +kernel) rfl
theorem im_X5_takeLiar : Cond.instanceMethod yX5_takeLiar ∈ z_WS := z_w 480 (by decide +kernel) rfl
theorem se_X5_takeLiar : Cond.selects RX5 yX5_takeLiar yX5_takeLiar ∈ z_WS := z_w 8 (by decide +kernel) rfl
theorem cw_X5_takeNumber : Cond.code yX5_takeNumber cX5_takeNumber 3 (some .boolean) ∈ z_WS := z_w 470 (by decide +kernel) rfl
theorem im_X5_takeNumber : Cond.instanceMethod yX5_takeNumber ∈ z_WS := z_w 469 (by decide +kernel) rfl
theorem se_X5_takeNumber : Cond.selects RX5 yX5_takeNumber yX5_takeNumber ∈ z_WS := z_w 6 (by decide +kernel) rfl
theorem cw_X5_takeStop : Cond.code yX5_takeStop cX5_takeStop 1 (some .boolean) ∈ z_WS := z_w 475 (by decide +kernel) rfl
theorem im_X5_takeStop : Cond.instanceMethod yX5_takeStop ∈ z_WS := z_w 474 (by decide +kernel) rfl
theorem se_X5_takeStop : Cond.selects RX5 yX5_takeStop yX5_takeStop ∈ z_WS := z_w 7 (by decide +kernel) rfl
theorem cw_X5_blameToken : Cond.code yX5_blameToken cX5_blameToken 2 (some .boolean) ∈ z_WS := z_w 448 (by decide +kernel) rfl
theorem im_X5_blameToken : Cond.instanceMethod yX5_blameToken ∈ z_WS := z_w 447 (by decide +kernel) rfl
theorem se_X5_blameToken : Cond.selects RX5 yX5_blameToken yX5_blameToken ∈ z_WS := z_w 3 (by decide +kernel) rfl
theorem cw_X5_blame : Cond.code yX5_blame cX5_blame 3 (some .boolean) ∈ z_WS := z_w 452 (by decide +kernel) rfl
theorem im_X5_blame : Cond.instanceMethod yX5_blame ∈ z_WS := z_w 451 (by decide +kernel) rfl
theorem se_X5_blame : Cond.selects RX5 yX5_blame yX5_blame ∈ z_WS := z_w 4 (by decide +kernel) rfl
theorem cw_X6_init : Cond.code yX6_init cX6_init 2 none ∈ z_WS := z_w 105 (by decide +kernel) rfl
theorem im_X6_init : Cond.instanceMethod yX6_init ∈ z_WS := z_w 104 (by decide +kernel) rfl
theorem cw_X6_feed : Cond.code yX6_feed cX6_feed 2 (some .int) ∈ z_WS := z_w 342 (by decide +kernel) rfl
theorem im_X6_feed : Cond.instanceMethod yX6_feed ∈ z_WS := z_w 340 (by decide +kernel) rfl
theorem se_X6_feed : Cond.selects RX6 yX6_feed yX6_feed ∈ z_WS := z_w 341 (by decide +kernel) rfl
theorem cw_X6_end : Cond.code yX6_end cX6_end 3 (some .int) ∈ z_WS := z_w 353 (by decide +kernel) rfl
theorem im_X6_end : Cond.instanceMethod yX6_end ∈ z_WS := z_w 351 (by decide +kernel) rfl
theorem se_X6_end : Cond.selects RX6 yX6_end yX6_end ∈ z_WS := z_w 352 (by decide +kernel) rfl
theorem cw_X6_text : Cond.code yX6_text cX6_text 2 (some .int) ∈ z_WS := z_w 357 (by decide +kernel) rfl
theorem im_X6_text : Cond.instanceMethod yX6_text ∈ z_WS := z_w 355 (by decide +kernel) rfl
theorem se_X6_text : Cond.selects RX6 yX6_text yX6_text ∈ z_WS := z_w 356 (by decide +kernel) rfl
theorem cw_X6_fault : Cond.code yX6_fault cX6_fault 1 (some .int) ∈ z_WS := z_w 514 (by decide +kernel) rfl
theorem im_X6_fault : Cond.instanceMethod yX6_fault ∈ z_WS := z_w 512 (by decide +kernel) rfl
theorem se_X6_fault : Cond.selects RX6 yX6_fault yX6_fault ∈ z_WS := z_w 513 (by decide +kernel) rfl
theorem cw_X6_rule : Cond.code yX6_rule cX6_rule 2 (some .int) ∈ z_WS := z_w 518 (by decide +kernel) rfl
theorem im_X6_rule : Cond.instanceMethod yX6_rule ∈ z_WS := z_w 516 (by decide +kernel) rfl
theorem se_X6_rule : Cond.selects RX6 yX6_rule yX6_rule ∈ z_WS := z_w 517 (by decide +kernel) rfl
theorem cw_X6_boat : Cond.code yX6_boat cX6_boat 3 (some .int) ∈ z_WS := z_w 522 (by decide +kernel) rfl
theorem im_X6_boat : Cond.instanceMethod yX6_boat ∈ z_WS := z_w 520 (by decide +kernel) rfl
theorem se_X6_boat : Cond.selects RX6 yX6_boat yX6_boat ∈ z_WS := z_w 521 (by decide +kernel) rfl
theorem cw_X6_set : Cond.code yX6_set cX6_set 4 (some .int) ∈ z_WS := z_w 542 (by decide +kernel) rfl
theorem im_X6_set : Cond.instanceMethod yX6_set ∈ z_WS := z_w 540 (by decide +kernel) rfl
theorem se_X6_set : Cond.selects RX6 yX6_set yX6_set ∈ z_WS := z_w 541 (by decide +kernel) rfl
theorem cw_X6_alter : Cond.code yX6_alter cX6_alter 5 (some .int) ∈ z_WS := z_w 548 (by decide +kernel) rfl
theorem im_X6_alter : Cond.instanceMethod yX6_alter ∈ z_WS := z_w 546 (by decide +kernel) rfl
theorem se_X6_alter : Cond.selects RX6 yX6_alter yX6_alter ∈ z_WS := z_w 547 (by decide +kernel) rfl
theorem cw_X6_lie : Cond.code yX6_lie cX6_lie 4 (some .int) ∈ z_WS := z_w 554 (by decide +kernel) rfl
theorem im_X6_lie : Cond.instanceMethod yX6_lie ∈ z_WS := z_w 552 (by decide +kernel) rfl
theorem se_X6_lie : Cond.selects RX6 yX6_lie yX6_lie ∈ z_WS := z_w 553 (by decide +kernel) rfl
theorem cw_X6_cross : Cond.code yX6_cross cX6_cross 3 (some .int) ∈ z_WS := z_w 558 (by decide +kernel) rfl
theorem im_X6_cross : Cond.instanceMethod yX6_cross ∈ z_WS := z_w 556 (by decide +kernel) rfl
theorem se_X6_cross : Cond.selects RX6 yX6_cross yX6_cross ∈ z_WS := z_w 557 (by decide +kernel) rfl
theorem cw_X6_passes : Cond.code yX6_passes cX6_passes 2 (some .int) ∈ z_WS := z_w 565 (by decide +kernel) rfl
theorem im_X6_passes : Cond.instanceMethod yX6_passes ∈ z_WS := z_w 563 (by decide +kernel) rfl
theorem se_X6_passes : Cond.selects RX6 yX6_passes yX6_passes ∈ z_WS := z_w 564 (by decide +kernel) rfl
theorem cw_X6_through : Cond.code yX6_through cX6_through 2 (some .int) ∈ z_WS := z_w 626 (by decide +kernel) rfl
theorem im_X6_through : Cond.instanceMethod yX6_through ∈ z_WS := z_w 624 (by decide +kernel) rfl
theorem se_X6_through : Cond.selects RX6 yX6_through yX6_through ∈ z_WS := z_w 625 (by decide +kernel) rfl
theorem cw_X6_stood : Cond.code yX6_stood cX6_stood 2 (some .int) ∈ z_WS := z_w 630 (by decide +kernel) rfl
theorem im_X6_stood : Cond.instanceMethod yX6_stood ∈ z_WS := z_w 628 (by decide +kernel) rfl
theorem se_X6_stood : Cond.selects RX6 yX6_stood yX6_stood ∈ z_WS := z_w 629 (by decide +kernel) rfl
theorem cw_X6_day : Cond.code yX6_day cX6_day 2 (some .int) ∈ z_WS := z_w 634 (by decide +kernel) rfl
theorem im_X6_day : Cond.instanceMethod yX6_day ∈ z_WS := z_w 632 (by decide +kernel) rfl
theorem se_X6_day : Cond.selects RX6 yX6_day yX6_day ∈ z_WS := z_w 633 (by decide +kernel) rfl
theorem cw_X6_table : Cond.code yX6_table cX6_table 3 (some .int) ∈ z_WS := z_w 638 (by decide +kernel) rfl
theorem im_X6_table : Cond.instanceMethod yX6_table ∈ z_WS := z_w 636 (by decide +kernel) rfl
theorem se_X6_table : Cond.selects RX6 yX6_table yX6_table ∈ z_WS := z_w 637 (by decide +kernel) rfl
theorem cw_X6_best : Cond.code yX6_best cX6_best 6 (some .int) ∈ z_WS := z_w 653 (by decide +kernel) rfl
theorem im_X6_best : Cond.instanceMethod yX6_best ∈ z_WS := z_w 651 (by decide +kernel) rfl
theorem se_X6_best : Cond.selects RX6 yX6_best yX6_best ∈ z_WS := z_w 652 (by decide +kernel) rfl
theorem cw_X6_order : Cond.code yX6_order cX6_order 2 (some .int) ∈ z_WS := z_w 658 (by decide +kernel) rfl
theorem im_X6_order : Cond.instanceMethod yX6_order ∈ z_WS := z_w 656 (by decide +kernel) rfl
theorem se_X6_order : Cond.selects RX6 yX6_order yX6_order ∈ z_WS := z_w 657 (by decide +kernel) rfl
theorem cw_X6_firsts : Cond.code yX6_firsts cX6_firsts 4 (some .int) ∈ z_WS := z_w 675 (by decide +kernel) rfl
theorem im_X6_firsts : Cond.instanceMethod yX6_firsts ∈ z_WS := z_w 673 (by decide +kernel) rfl
theorem se_X6_firsts : Cond.selects RX6 yX6_firsts yX6_firsts ∈ z_WS := z_w 674 (by decide +kernel) rfl
theorem cw_X6_gain : Cond.code yX6_gain cX6_gain 2 (some .int) ∈ z_WS := z_w 679 (by decide +kernel) rfl
theorem im_X6_gain : Cond.instanceMethod yX6_gain ∈ z_WS := z_w 677 (by decide +kernel) rfl
theorem se_X6_gain : Cond.selects RX6 yX6_gain yX6_gain ∈ z_WS := z_w 678 (by decide +kernel) rfl
theorem cw_X6_calm : Cond.code yX6_calm cX6_calm 3 (some .int) ∈ z_WS := z_w 690 (by decide +kernel) rfl
theorem im_X6_calm : Cond.instanceMethod yX6_calm ∈ z_WS := z_w 688 (by decide +kernel) rfl
theorem se_X6_calm : Cond.selects RX6 yX6_calm yX6_calm ∈ z_WS := z_w 689 (by decide +kernel) rfl
theorem cw_X6_rests : Cond.code yX6_rests cX6_rests 5 (some .int) ∈ z_WS := z_w 698 (by decide +kernel) rfl
theorem im_X6_rests : Cond.instanceMethod yX6_rests ∈ z_WS := z_w 696 (by decide +kernel) rfl
theorem se_X6_rests : Cond.selects RX6 yX6_rests yX6_rests ∈ z_WS := z_w 697 (by decide +kernel) rfl
theorem cw_X6_isCalm : Cond.code yX6_isCalm cX6_isCalm 3 (some .boolean) ∈ z_WS := z_w 694 (by decide +kernel) rfl
theorem im_X6_isCalm : Cond.instanceMethod yX6_isCalm ∈ z_WS := z_w 693 (by decide +kernel) rfl
theorem se_X6_isCalm : Cond.selects RX6 yX6_isCalm yX6_isCalm ∈ z_WS := z_w 25 (by decide +kernel) rfl
theorem cw_X6_gained : Cond.code yX6_gained cX6_gained 4 (some .int) ∈ z_WS := z_w 683 (by decide +kernel) rfl
theorem im_X6_gained : Cond.instanceMethod yX6_gained ∈ z_WS := z_w 682 (by decide +kernel) rfl
theorem se_X6_gained : Cond.selects RX6 yX6_gained yX6_gained ∈ z_WS := z_w 24 (by decide +kernel) rfl
theorem cw_X6_fillStoodBySet : Cond.code yX6_fillStoodBySet cX6_fillStoodBySet 3 none ∈ z_WS := z_w 702 (by decide +kernel) rfl
theorem im_X6_fillStoodBySet : Cond.instanceMethod yX6_fillStoodBySet ∈ z_WS := z_w 701 (by decide +kernel) rfl
theorem se_X6_fillStoodBySet : Cond.selects RX6 yX6_fillStoodBySet yX6_fillStoodBySet ∈ z_WS := z_w 26 (by decide +kernel) rfl
theorem cw_X6_isRest : Cond.code yX6_isRest cX6_isRest 4 (some .boolean) ∈ z_WS := z_w 711 (by decide +kernel) rfl
theorem im_X6_isRest : Cond.instanceMethod yX6_isRest ∈ z_WS := z_w 710 (by decide +kernel) rfl
theorem se_X6_isRest : Cond.selects RX6 yX6_isRest yX6_isRest ∈ z_WS := z_w 28 (by decide +kernel) rfl
theorem cw_X6_boy : Cond.code yX6_boy cX6_boy 4 (some .int) ∈ z_WS := z_w 715 (by decide +kernel) rfl
theorem im_X6_boy : Cond.instanceMethod yX6_boy ∈ z_WS := z_w 713 (by decide +kernel) rfl
theorem se_X6_boy : Cond.selects RX6 yX6_boy yX6_boy ∈ z_WS := z_w 714 (by decide +kernel) rfl
theorem cw_X6_post : Cond.code yX6_post cX6_post 5 (some .int) ∈ z_WS := z_w 723 (by decide +kernel) rfl
theorem im_X6_post : Cond.instanceMethod yX6_post ∈ z_WS := z_w 721 (by decide +kernel) rfl
theorem se_X6_post : Cond.selects RX6 yX6_post yX6_post ∈ z_WS := z_w 722 (by decide +kernel) rfl
theorem cw_X6_late : Cond.code yX6_late cX6_late 6 (some .int) ∈ z_WS := z_w 727 (by decide +kernel) rfl
theorem im_X6_late : Cond.instanceMethod yX6_late ∈ z_WS := z_w 725 (by decide +kernel) rfl
theorem se_X6_late : Cond.selects RX6 yX6_late yX6_late ∈ z_WS := z_w 726 (by decide +kernel) rfl
theorem cw_X6_deal : Cond.code yX6_deal cX6_deal 8 (some .int) ∈ z_WS := z_w 732 (by decide +kernel) rfl
theorem im_X6_deal : Cond.instanceMethod yX6_deal ∈ z_WS := z_w 730 (by decide +kernel) rfl
theorem se_X6_deal : Cond.selects RX6 yX6_deal yX6_deal ∈ z_WS := z_w 731 (by decide +kernel) rfl
theorem cw_X6_mean : Cond.code yX6_mean cX6_mean 9 (some .long) ∈ z_WS := z_w 741 (by decide +kernel) rfl
theorem im_X6_mean : Cond.instanceMethod yX6_mean ∈ z_WS := z_w 739 (by decide +kernel) rfl
theorem se_X6_mean : Cond.selects RX6 yX6_mean yX6_mean ∈ z_WS := z_w 740 (by decide +kernel) rfl
theorem cw_X6_luck : Cond.code yX6_luck cX6_luck 10 (some .long) ∈ z_WS := z_w 761 (by decide +kernel) rfl
theorem im_X6_luck : Cond.instanceMethod yX6_luck ∈ z_WS := z_w 759 (by decide +kernel) rfl
theorem se_X6_luck : Cond.selects RX6 yX6_luck yX6_luck ∈ z_WS := z_w 760 (by decide +kernel) rfl
theorem cw_X6_weight : Cond.code yX6_weight cX6_weight 6 (some .long) ∈ z_WS := z_w 746 (by decide +kernel) rfl
theorem im_X6_weight : Cond.instanceMethod yX6_weight ∈ z_WS := z_w 745 (by decide +kernel) rfl
theorem se_X6_weight : Cond.selects RX6 yX6_weight yX6_weight ∈ z_WS := z_w 30 (by decide +kernel) rfl
theorem cw_X6_weightOfAll : Cond.code yX6_weightOfAll cX6_weightOfAll 4 (some .long) ∈ z_WS := z_w 750 (by decide +kernel) rfl
theorem im_X6_weightOfAll : Cond.instanceMethod yX6_weightOfAll ∈ z_WS := z_w 749 (by decide +kernel) rfl
theorem se_X6_weightOfAll : Cond.selects RX6 yX6_weightOfAll yX6_weightOfAll ∈ z_WS := z_w 31 (by decide +kernel) rfl
theorem cw_X6_lowest : Cond.code yX6_lowest cX6_lowest 7 (some .long) ∈ z_WS := z_w 754 (by decide +kernel) rfl
theorem st_X6_lowest : Cond.static yX6_lowest ∈ z_WS := z_w 753 (by decide +kernel) rfl
theorem cw_X6_commonDivisor : Cond.code yX6_commonDivisor cX6_commonDivisor 7 (some .long) ∈ z_WS := z_w 757 (by decide +kernel) rfl
theorem st_X6_commonDivisor : Cond.static yX6_commonDivisor ∈ z_WS := z_w 756 (by decide +kernel) rfl
theorem cw_X6_see : Cond.code yX6_see cX6_see 3 (some .int) ∈ z_WS := z_w 765 (by decide +kernel) rfl
theorem im_X6_see : Cond.instanceMethod yX6_see ∈ z_WS := z_w 763 (by decide +kernel) rfl
theorem se_X6_see : Cond.selects RX6 yX6_see yX6_see ∈ z_WS := z_w 764 (by decide +kernel) rfl
theorem cw_X6_forget : Cond.code yX6_forget cX6_forget 3 (some .int) ∈ z_WS := z_w 773 (by decide +kernel) rfl
theorem im_X6_forget : Cond.instanceMethod yX6_forget ∈ z_WS := z_w 771 (by decide +kernel) rfl
theorem se_X6_forget : Cond.selects RX6 yX6_forget yX6_forget ∈ z_WS := z_w 772 (by decide +kernel) rfl
theorem cw_X6_fits : Cond.code yX6_fits cX6_fits 9 (some .int) ∈ z_WS := z_w 777 (by decide +kernel) rfl
theorem im_X6_fits : Cond.instanceMethod yX6_fits ∈ z_WS := z_w 775 (by decide +kernel) rfl
theorem se_X6_fits : Cond.selects RX6 yX6_fits yX6_fits ∈ z_WS := z_w 776 (by decide +kernel) rfl
theorem cw_X6_drift : Cond.code yX6_drift cX6_drift 8 (some .int) ∈ z_WS := z_w 789 (by decide +kernel) rfl
theorem im_X6_drift : Cond.instanceMethod yX6_drift ∈ z_WS := z_w 787 (by decide +kernel) rfl
theorem se_X6_drift : Cond.selects RX6 yX6_drift yX6_drift ∈ z_WS := z_w 788 (by decide +kernel) rfl
theorem cw_X6_keep : Cond.code yX6_keep cX6_keep 3 (some .int) ∈ z_WS := z_w 794 (by decide +kernel) rfl
theorem im_X6_keep : Cond.instanceMethod yX6_keep ∈ z_WS := z_w 792 (by decide +kernel) rfl
theorem se_X6_keep : Cond.selects RX6 yX6_keep yX6_keep ∈ z_WS := z_w 793 (by decide +kernel) rfl
theorem cw_X6_back : Cond.code yX6_back cX6_back 2 (some .int) ∈ z_WS := z_w 798 (by decide +kernel) rfl
theorem im_X6_back : Cond.instanceMethod yX6_back ∈ z_WS := z_w 796 (by decide +kernel) rfl
theorem se_X6_back : Cond.selects RX6 yX6_back yX6_back ∈ z_WS := z_w 797 (by decide +kernel) rfl
theorem cw_X6_sheet : Cond.code yX6_sheet cX6_sheet 4 (some .int) ∈ z_WS := z_w 803 (by decide +kernel) rfl
theorem im_X6_sheet : Cond.instanceMethod yX6_sheet ∈ z_WS := z_w 801 (by decide +kernel) rfl
theorem se_X6_sheet : Cond.selects RX6 yX6_sheet yX6_sheet ∈ z_WS := z_w 802 (by decide +kernel) rfl
theorem cw_X6_lay : Cond.code yX6_lay cX6_lay 5 (some .int) ∈ z_WS := z_w 821 (by decide +kernel) rfl
theorem im_X6_lay : Cond.instanceMethod yX6_lay ∈ z_WS := z_w 819 (by decide +kernel) rfl
theorem se_X6_lay : Cond.selects RX6 yX6_lay yX6_lay ∈ z_WS := z_w 820 (by decide +kernel) rfl
theorem cw_X6_read : Cond.code yX6_read cX6_read 9 (some .int) ∈ z_WS := z_w 837 (by decide +kernel) rfl
theorem im_X6_read : Cond.instanceMethod yX6_read ∈ z_WS := z_w 835 (by decide +kernel) rfl
theorem se_X6_read : Cond.selects RX6 yX6_read yX6_read ∈ z_WS := z_w 836 (by decide +kernel) rfl
theorem cw_X6_torn : Cond.code yX6_torn cX6_torn 1 (some .int) ∈ z_WS := z_w 855 (by decide +kernel) rfl
theorem im_X6_torn : Cond.instanceMethod yX6_torn ∈ z_WS := z_w 853 (by decide +kernel) rfl
theorem se_X6_torn : Cond.selects RX6 yX6_torn yX6_torn ∈ z_WS := z_w 854 (by decide +kernel) rfl
theorem cw_X6_count : Cond.code yX6_count cX6_count 2 (some .int) ∈ z_WS := z_w 859 (by decide +kernel) rfl
theorem im_X6_count : Cond.instanceMethod yX6_count ∈ z_WS := z_w 857 (by decide +kernel) rfl
theorem se_X6_count : Cond.selects RX6 yX6_count yX6_count ∈ z_WS := z_w 858 (by decide +kernel) rfl
theorem cw_X6_isComing : Cond.code yX6_isComing cX6_isComing 3 (some .boolean) ∈ z_WS := z_w 846 (by decide +kernel) rfl
theorem im_X6_isComing : Cond.instanceMethod yX6_isComing ∈ z_WS := z_w 845 (by decide +kernel) rfl
theorem se_X6_isComing : Cond.selects RX6 yX6_isComing yX6_isComing ∈ z_WS := z_w 32 (by decide +kernel) rfl
theorem cw_X6_runAsTold : Cond.code yX6_runAsTold cX6_runAsTold 2 none ∈ z_WS := z_w 569 (by decide +kernel) rfl
theorem im_X6_runAsTold : Cond.instanceMethod yX6_runAsTold ∈ z_WS := z_w 568 (by decide +kernel) rfl
theorem se_X6_runAsTold : Cond.selects RX6 yX6_runAsTold yX6_runAsTold ∈ z_WS := z_w 13 (by decide +kernel) rfl
theorem cw_X6_isBoat : Cond.code yX6_isBoat cX6_isBoat 2 (some .boolean) ∈ z_WS := z_w 526 (by decide +kernel) rfl
theorem im_X6_isBoat : Cond.instanceMethod yX6_isBoat ∈ z_WS := z_w 525 (by decide +kernel) rfl
theorem se_X6_isBoat : Cond.selects RX6 yX6_isBoat yX6_isBoat ∈ z_WS := z_w 12 (by decide +kernel) rfl
theorem cw_X6_isPair : Cond.code yX6_isPair cX6_isPair 3 (some .boolean) ∈ z_WS := z_w 719 (by decide +kernel) rfl
theorem im_X6_isPair : Cond.instanceMethod yX6_isPair ∈ z_WS := z_w 718 (by decide +kernel) rfl
theorem se_X6_isPair : Cond.selects RX6 yX6_isPair yX6_isPair ∈ z_WS := z_w 29 (by decide +kernel) rfl
theorem cw_X6_liarSets : Cond.code yX6_liarSets cX6_liarSets 1 (some .int) ∈ z_WS := z_w 706 (by decide +kernel) rfl
theorem im_X6_liarSets : Cond.instanceMethod yX6_liarSets ∈ z_WS := z_w 705 (by decide +kernel) rfl
theorem se_X6_liarSets : Cond.selects RX6 yX6_liarSets yX6_liarSets ∈ z_WS := z_w 27 (by decide +kernel) rfl
theorem cw_X6_isLaw : Cond.code yX6_isLaw cX6_isLaw 1 (some .boolean) ∈ z_WS := z_w 641 (by decide +kernel) rfl
theorem st_X6_isLaw : Cond.static yX6_isLaw ∈ z_WS := z_w 640 (by decide +kernel) rfl
theorem cw_X6_isMeasure : Cond.code yX6_isMeasure cX6_isMeasure 1 (some .boolean) ∈ z_WS := z_w 644 (by decide +kernel) rfl
theorem st_X6_isMeasure : Cond.static yX6_isMeasure ∈ z_WS := z_w 643 (by decide +kernel) rfl
theorem cw_X6_isSheet : Cond.code yX6_isSheet cX6_isSheet 1 (some .boolean) ∈ z_WS := z_w 806 (by decide +kernel) rfl
theorem st_X6_isSheet : Cond.static yX6_isSheet ∈ z_WS := z_w 805 (by decide +kernel) rfl
theorem cw_X6_hearsLies : Cond.code yX6_hearsLies cX6_hearsLies 1 (some .boolean) ∈ z_WS := z_w 686 (by decide +kernel) rfl
theorem st_X6_hearsLies : Cond.static yX6_hearsLies ∈ z_WS := z_w 685 (by decide +kernel) rfl
theorem cw_X6_otherSide : Cond.code yX6_otherSide cX6_otherSide 1 (some .int) ∈ z_WS := z_w 561 (by decide +kernel) rfl
theorem st_X6_otherSide : Cond.static yX6_otherSide ∈ z_WS := z_w 560 (by decide +kernel) rfl
theorem cw_X6_within : Cond.code yX6_within cX6_within 3 (some .boolean) ∈ z_WS := z_w 345 (by decide +kernel) rfl
theorem st_X6_within : Cond.static yX6_within ∈ z_WS := z_w 344 (by decide +kernel) rfl
theorem cw_X7_init : Cond.code yX7_init cX7_init 2 none ∈ z_WS := z_w 875 (by decide +kernel) rfl
theorem im_X7_init : Cond.instanceMethod yX7_init ∈ z_WS := z_w 874 (by decide +kernel) rfl
theorem cw_X7_in : Cond.code yX7_in cX7_in 6 (some .boolean) ∈ z_WS := z_w 990 (by decide +kernel) rfl
theorem st_X7_in : Cond.static yX7_in ∈ z_WS := z_w 989 (by decide +kernel) rfl
theorem cw_X7_flag : Cond.code yX7_flag cX7_flag 1 (some .int) ∈ z_WS := z_w 1123 (by decide +kernel) rfl
theorem st_X7_flag : Cond.static yX7_flag ∈ z_WS := z_w 1122 (by decide +kernel) rfl
theorem cw_X7_firstDraft : Cond.code yX7_firstDraft cX7_firstDraft 2 none ∈ z_WS := z_w 880 (by decide +kernel) rfl
theorem im_X7_firstDraft : Cond.instanceMethod yX7_firstDraft ∈ z_WS := z_w 879 (by decide +kernel) rfl
theorem se_X7_firstDraft : Cond.selects RX7 yX7_firstDraft yX7_firstDraft ∈ z_WS := z_w 33 (by decide +kernel) rfl
theorem cw_X7_keepDraft : Cond.code yX7_keepDraft cX7_keepDraft 2 none ∈ z_WS := z_w 884 (by decide +kernel) rfl
theorem im_X7_keepDraft : Cond.instanceMethod yX7_keepDraft ∈ z_WS := z_w 883 (by decide +kernel) rfl
theorem se_X7_keepDraft : Cond.selects RX7 yX7_keepDraft yX7_keepDraft ∈ z_WS := z_w 34 (by decide +kernel) rfl
theorem cw_X7_feed : Cond.code yX7_feed cX7_feed 2 (some .int) ∈ z_WS := z_w 986 (by decide +kernel) rfl
theorem im_X7_feed : Cond.instanceMethod yX7_feed ∈ z_WS := z_w 984 (by decide +kernel) rfl
theorem se_X7_feed : Cond.selects RX7 yX7_feed yX7_feed ∈ z_WS := z_w 985 (by decide +kernel) rfl
theorem cw_X7_end : Cond.code yX7_end cX7_end 3 (some .int) ∈ z_WS := z_w 994 (by decide +kernel) rfl
theorem im_X7_end : Cond.instanceMethod yX7_end ∈ z_WS := z_w 992 (by decide +kernel) rfl
theorem se_X7_end : Cond.selects RX7 yX7_end yX7_end ∈ z_WS := z_w 993 (by decide +kernel) rfl
theorem cw_X7_needs : Cond.code yX7_needs cX7_needs 3 none ∈ z_WS := z_w 1014 (by decide +kernel) rfl
theorem im_X7_needs : Cond.instanceMethod yX7_needs ∈ z_WS := z_w 1013 (by decide +kernel) rfl
theorem se_X7_needs : Cond.selects RX7 yX7_needs yX7_needs ∈ z_WS := z_w 37 (by decide +kernel) rfl
theorem cw_X7_byteAt : Cond.code yX7_byteAt cX7_byteAt 2 (some .int) ∈ z_WS := z_w 1006 (by decide +kernel) rfl
theorem im_X7_byteAt : Cond.instanceMethod yX7_byteAt ∈ z_WS := z_w 1005 (by decide +kernel) rfl
theorem se_X7_byteAt : Cond.selects RX7 yX7_byteAt yX7_byteAt ∈ z_WS := z_w 36 (by decide +kernel) rfl
theorem cw_X7_is : Cond.code yX7_is cX7_is 6 (some .boolean) ∈ z_WS := z_w 1026 (by decide +kernel) rfl
theorem im_X7_is : Cond.instanceMethod yX7_is ∈ z_WS := z_w 1025 (by decide +kernel) rfl
theorem se_X7_is : Cond.selects RX7 yX7_is yX7_is ∈ z_WS := z_w 40 (by decide +kernel) rfl
theorem cw_X7_endsWith : Cond.code yX7_endsWith cX7_endsWith 2 (some .boolean) ∈ z_WS := z_w 1030 (by decide +kernel) rfl
theorem im_X7_endsWith : Cond.instanceMethod yX7_endsWith ∈ z_WS := z_w 1029 (by decide +kernel) rfl
theorem se_X7_endsWith : Cond.selects RX7 yX7_endsWith yX7_endsWith ∈ z_WS := z_w 41 (by decide +kernel) rfl
theorem cw_X7_lineNow : Cond.code yX7_lineNow cX7_lineNow 1 (some .int) ∈ z_WS := z_w 1022 (by decide +kernel) rfl
theorem im_X7_lineNow : Cond.instanceMethod yX7_lineNow ∈ z_WS := z_w 1021 (by decide +kernel) rfl
theorem se_X7_lineNow : Cond.selects RX7 yX7_lineNow yX7_lineNow ∈ z_WS := z_w 39 (by decide +kernel) rfl
theorem cw_X7_cargoNow : Cond.code yX7_cargoNow cX7_cargoNow 1 (some .int) ∈ z_WS := z_w 1064 (by decide +kernel) rfl
theorem im_X7_cargoNow : Cond.instanceMethod yX7_cargoNow ∈ z_WS := z_w 1063 (by decide +kernel) rfl
theorem se_X7_cargoNow : Cond.selects RX7 yX7_cargoNow yX7_cargoNow ∈ z_WS := z_w 49 (by decide +kernel) rfl
theorem cw_X7_lawNow : Cond.code yX7_lawNow cX7_lawNow 1 (some .int) ∈ z_WS := z_w 1048 (by decide +kernel) rfl
theorem im_X7_lawNow : Cond.instanceMethod yX7_lawNow ∈ z_WS := z_w 1047 (by decide +kernel) rfl
theorem se_X7_lawNow : Cond.selects RX7 yX7_lawNow yX7_lawNow ∈ z_WS := z_w 45 (by decide +kernel) rfl
theorem cw_X7_next : Cond.code yX7_next cX7_next 2 none ∈ z_WS := z_w 1002 (by decide +kernel) rfl
theorem im_X7_next : Cond.instanceMethod yX7_next ∈ z_WS := z_w 1001 (by decide +kernel) rfl
theorem se_X7_next : Cond.selects RX7 yX7_next yX7_next ∈ z_WS := z_w 35 (by decide +kernel) rfl
theorem cw_X7_looked : Cond.code yX7_looked cX7_looked 3 (some .int) ∈ z_WS := z_w 1044 (by decide +kernel) rfl
theorem im_X7_looked : Cond.instanceMethod yX7_looked ∈ z_WS := z_w 1043 (by decide +kernel) rfl
theorem se_X7_looked : Cond.selects RX7 yX7_looked yX7_looked ∈ z_WS := z_w 44 (by decide +kernel) rfl
theorem cw_X7_readNumber : Cond.code yX7_readNumber cX7_readNumber 4 (some .int) ∈ z_WS := z_w 1040 (by decide +kernel) rfl
theorem im_X7_readNumber : Cond.instanceMethod yX7_readNumber ∈ z_WS := z_w 1039 (by decide +kernel) rfl
theorem se_X7_readNumber : Cond.selects RX7 yX7_readNumber yX7_readNumber ∈ z_WS := z_w 43 (by decide +kernel) rfl
theorem cw_X7_readName : Cond.code yX7_readName cX7_readName 3 (some .int) ∈ z_WS := z_w 1052 (by decide +kernel) rfl
theorem im_X7_readName : Cond.instanceMethod yX7_readName ∈ z_WS := z_w 1051 (by decide +kernel) rfl
theorem se_X7_readName : Cond.selects RX7 yX7_readName yX7_readName ∈ z_WS := z_w 46 (by decide +kernel) rfl
theorem cw_X7_readBoat : Cond.code yX7_readBoat cX7_readBoat 3 none ∈ z_WS := z_w 1060 (by decide +kernel) rfl
theorem im_X7_readBoat : Cond.instanceMethod yX7_readBoat ∈ z_WS := z_w 1059 (by decide +kernel) rfl
theorem se_X7_readBoat : Cond.selects RX7 yX7_readBoat yX7_readBoat ∈ z_WS := z_w 48 (by decide +kernel) rfl
theorem cw_X7_readLiar : Cond.code yX7_readLiar cX7_readLiar 2 none ∈ z_WS := z_w 1056 (by decide +kernel) rfl
theorem im_X7_readLiar : Cond.instanceMethod yX7_readLiar ∈ z_WS := z_w 1055 (by decide +kernel) rfl
theorem se_X7_readLiar : Cond.selects RX7 yX7_readLiar yX7_readLiar ∈ z_WS := z_w 47 (by decide +kernel) rfl
theorem cw_X7_readLineOf : Cond.code yX7_readLineOf cX7_readLineOf 2 none ∈ z_WS := z_w 1036 (by decide +kernel) rfl
theorem im_X7_readLineOf : Cond.instanceMethod yX7_readLineOf ∈ z_WS := z_w 1035 (by decide +kernel) rfl
theorem se_X7_readLineOf : Cond.selects RX7 yX7_readLineOf yX7_readLineOf ∈ z_WS := z_w 42 (by decide +kernel) rfl
theorem cw_X7_readLine : Cond.code yX7_readLine cX7_readLine 2 none ∈ z_WS := z_w 1018 (by decide +kernel) rfl
theorem im_X7_readLine : Cond.instanceMethod yX7_readLine ∈ z_WS := z_w 1017 (by decide +kernel) rfl
theorem se_X7_readLine : Cond.selects RX7 yX7_readLine yX7_readLine ∈ z_WS := z_w 38 (by decide +kernel) rfl
theorem cw_X7_text : Cond.code yX7_text cX7_text 2 (some .int) ∈ z_WS := z_w 998 (by decide +kernel) rfl
theorem im_X7_text : Cond.instanceMethod yX7_text ∈ z_WS := z_w 996 (by decide +kernel) rfl
theorem se_X7_text : Cond.selects RX7 yX7_text yX7_text ∈ z_WS := z_w 997 (by decide +kernel) rfl
theorem cw_X7_fault : Cond.code yX7_fault cX7_fault 1 (some .int) ∈ z_WS := z_w 1068 (by decide +kernel) rfl
theorem im_X7_fault : Cond.instanceMethod yX7_fault ∈ z_WS := z_w 1066 (by decide +kernel) rfl
theorem se_X7_fault : Cond.selects RX7 yX7_fault yX7_fault ∈ z_WS := z_w 1067 (by decide +kernel) rfl
theorem cw_X7_isBoat : Cond.code yX7_isBoat cX7_isBoat 2 (some .boolean) ∈ z_WS := z_w 1084 (by decide +kernel) rfl
theorem im_X7_isBoat : Cond.instanceMethod yX7_isBoat ∈ z_WS := z_w 1083 (by decide +kernel) rfl
theorem se_X7_isBoat : Cond.selects RX7 yX7_isBoat yX7_isBoat ∈ z_WS := z_w 51 (by decide +kernel) rfl
theorem cw_X7_isPart : Cond.code yX7_isPart cX7_isPart 1 (some .boolean) ∈ z_WS := z_w 1262 (by decide +kernel) rfl
theorem st_X7_isPart : Cond.static yX7_isPart ∈ z_WS := z_w 1261 (by decide +kernel) rfl
theorem cw_X7_starts : Cond.code yX7_starts cX7_starts 2 none ∈ z_WS := z_w 1089 (by decide +kernel) rfl
theorem im_X7_starts : Cond.instanceMethod yX7_starts ∈ z_WS := z_w 1088 (by decide +kernel) rfl
theorem se_X7_starts : Cond.selects RX7 yX7_starts yX7_starts ∈ z_WS := z_w 52 (by decide +kernel) rfl
theorem cw_X7_of : Cond.code yX7_of cX7_of 3 (some .int) ∈ z_WS := z_w 1093 (by decide +kernel) rfl
theorem im_X7_of : Cond.instanceMethod yX7_of ∈ z_WS := z_w 1092 (by decide +kernel) rfl
theorem se_X7_of : Cond.selects RX7 yX7_of yX7_of ∈ z_WS := z_w 53 (by decide +kernel) rfl
theorem cw_X7_becomesOf : Cond.code yX7_becomesOf cX7_becomesOf 4 none ∈ z_WS := z_w 1247 (by decide +kernel) rfl
theorem im_X7_becomesOf : Cond.instanceMethod yX7_becomesOf ∈ z_WS := z_w 1246 (by decide +kernel) rfl
theorem se_X7_becomesOf : Cond.selects RX7 yX7_becomesOf yX7_becomesOf ∈ z_WS := z_w 75 (by decide +kernel) rfl
theorem cw_X7_countsFrom : Cond.code yX7_countsFrom cX7_countsFrom 4 (some .int) ∈ z_WS := z_w 1097 (by decide +kernel) rfl
theorem im_X7_countsFrom : Cond.instanceMethod yX7_countsFrom ∈ z_WS := z_w 1096 (by decide +kernel) rfl
theorem se_X7_countsFrom : Cond.selects RX7 yX7_countsFrom yX7_countsFrom ∈ z_WS := z_w 54 (by decide +kernel) rfl
theorem cw_X7_cargoTold : Cond.code yX7_cargoTold cX7_cargoTold 2 (some .int) ∈ z_WS := z_w 1179 (by decide +kernel) rfl
theorem im_X7_cargoTold : Cond.instanceMethod yX7_cargoTold ∈ z_WS := z_w 1178 (by decide +kernel) rfl
theorem se_X7_cargoTold : Cond.selects RX7 yX7_cargoTold yX7_cargoTold ∈ z_WS := z_w 66 (by decide +kernel) rfl
theorem cw_X7_opens : Cond.code yX7_opens cX7_opens 1 none ∈ z_WS := z_w 1143 (by decide +kernel) rfl
theorem im_X7_opens : Cond.instanceMethod yX7_opens ∈ z_WS := z_w 1142 (by decide +kernel) rfl
theorem se_X7_opens : Cond.selects RX7 yX7_opens yX7_opens ∈ z_WS := z_w 58 (by decide +kernel) rfl
theorem cw_X7_lets : Cond.code yX7_lets cX7_lets 4 none ∈ z_WS := z_w 1183 (by decide +kernel) rfl
theorem im_X7_lets : Cond.instanceMethod yX7_lets ∈ z_WS := z_w 1182 (by decide +kernel) rfl
theorem se_X7_lets : Cond.selects RX7 yX7_lets yX7_lets ∈ z_WS := z_w 67 (by decide +kernel) rfl
theorem cw_X7_sideOf : Cond.code yX7_sideOf cX7_sideOf 2 (some .int) ∈ z_WS := z_w 1170 (by decide +kernel) rfl
theorem im_X7_sideOf : Cond.instanceMethod yX7_sideOf ∈ z_WS := z_w 1169 (by decide +kernel) rfl
theorem se_X7_sideOf : Cond.selects RX7 yX7_sideOf yX7_sideOf ∈ z_WS := z_w 64 (by decide +kernel) rfl
theorem cw_X7_comeFrom : Cond.code yX7_comeFrom cX7_comeFrom 5 (some .int) ∈ z_WS := z_w 1159 (by decide +kernel) rfl
theorem im_X7_comeFrom : Cond.instanceMethod yX7_comeFrom ∈ z_WS := z_w 1158 (by decide +kernel) rfl
theorem se_X7_comeFrom : Cond.selects RX7 yX7_comeFrom yX7_comeFrom ∈ z_WS := z_w 62 (by decide +kernel) rfl
theorem cw_X7_bitsOf : Cond.code yX7_bitsOf cX7_bitsOf 3 (some .int) ∈ z_WS := z_w 1162 (by decide +kernel) rfl
theorem st_X7_bitsOf : Cond.static yX7_bitsOf ∈ z_WS := z_w 1161 (by decide +kernel) rfl
theorem cw_X7_preferred : Cond.code yX7_preferred cX7_preferred 4 (some .int) ∈ z_WS := z_w 1166 (by decide +kernel) rfl
theorem im_X7_preferred : Cond.instanceMethod yX7_preferred ∈ z_WS := z_w 1165 (by decide +kernel) rfl
theorem se_X7_preferred : Cond.selects RX7 yX7_preferred yX7_preferred ∈ z_WS := z_w 63 (by decide +kernel) rfl
theorem cw_X7_leastCargo : Cond.code yX7_leastCargo cX7_leastCargo 6 (some .int) ∈ z_WS := z_w 1174 (by decide +kernel) rfl
theorem im_X7_leastCargo : Cond.instanceMethod yX7_leastCargo ∈ z_WS := z_w 1173 (by decide +kernel) rfl
theorem se_X7_leastCargo : Cond.selects RX7 yX7_leastCargo yX7_leastCargo ∈ z_WS := z_w 65 (by decide +kernel) rfl
theorem cw_X7_taken : Cond.code yX7_taken cX7_taken 5 (some .int) ∈ z_WS := z_w 1155 (by decide +kernel) rfl
theorem im_X7_taken : Cond.instanceMethod yX7_taken ∈ z_WS := z_w 1154 (by decide +kernel) rfl
theorem se_X7_taken : Cond.selects RX7 yX7_taken yX7_taken ∈ z_WS := z_w 61 (by decide +kernel) rfl
theorem cw_X7_earliest : Cond.code yX7_earliest cX7_earliest 5 (some .int) ∈ z_WS := z_w 1151 (by decide +kernel) rfl
theorem im_X7_earliest : Cond.instanceMethod yX7_earliest ∈ z_WS := z_w 1150 (by decide +kernel) rfl
theorem se_X7_earliest : Cond.selects RX7 yX7_earliest yX7_earliest ∈ z_WS := z_w 60 (by decide +kernel) rfl
theorem cw_X7_counting : Cond.code yX7_counting cX7_counting 4 (some .int) ∈ z_WS := z_w 1147 (by decide +kernel) rfl
theorem im_X7_counting : Cond.instanceMethod yX7_counting ∈ z_WS := z_w 1146 (by decide +kernel) rfl
theorem se_X7_counting : Cond.selects RX7 yX7_counting yX7_counting ∈ z_WS := z_w 59 (by decide +kernel) rfl
theorem cw_X7_dayGoes : Cond.code yX7_dayGoes cX7_dayGoes 3 none ∈ z_WS := z_w 1139 (by decide +kernel) rfl
theorem im_X7_dayGoes : Cond.instanceMethod yX7_dayGoes ∈ z_WS := z_w 1138 (by decide +kernel) rfl
theorem se_X7_dayGoes : Cond.selects RX7 yX7_dayGoes yX7_dayGoes ∈ z_WS := z_w 57 (by decide +kernel) rfl
theorem cw_X7_costNow : Cond.code yX7_costNow cX7_costNow 3 (some .int) ∈ z_WS := z_w 1203 (by decide +kernel) rfl
theorem im_X7_costNow : Cond.instanceMethod yX7_costNow ∈ z_WS := z_w 1202 (by decide +kernel) rfl
theorem se_X7_costNow : Cond.selects RX7 yX7_costNow yX7_costNow ∈ z_WS := z_w 69 (by decide +kernel) rfl
theorem cw_X7_tells : Cond.code yX7_tells cX7_tells 4 (some .int) ∈ z_WS := z_w 1199 (by decide +kernel) rfl
theorem im_X7_tells : Cond.instanceMethod yX7_tells ∈ z_WS := z_w 1198 (by decide +kernel) rfl
theorem se_X7_tells : Cond.selects RX7 yX7_tells yX7_tells ∈ z_WS := z_w 68 (by decide +kernel) rfl
theorem cw_X7_dayNow : Cond.code yX7_dayNow cX7_dayNow 1 none ∈ z_WS := z_w 1135 (by decide +kernel) rfl
theorem im_X7_dayNow : Cond.instanceMethod yX7_dayNow ∈ z_WS := z_w 1134 (by decide +kernel) rfl
theorem se_X7_dayNow : Cond.selects RX7 yX7_dayNow yX7_dayNow ∈ z_WS := z_w 56 (by decide +kernel) rfl
theorem cw_X7_placeOf : Cond.code yX7_placeOf cX7_placeOf 4 (some .int) ∈ z_WS := z_w 1274 (by decide +kernel) rfl
theorem im_X7_placeOf : Cond.instanceMethod yX7_placeOf ∈ z_WS := z_w 1273 (by decide +kernel) rfl
theorem se_X7_placeOf : Cond.selects RX7 yX7_placeOf yX7_placeOf ∈ z_WS := z_w 78 (by decide +kernel) rfl
theorem cw_X7_liars : Cond.code yX7_liars cX7_liars 3 (some .int) ∈ z_WS := z_w 1076 (by decide +kernel) rfl
theorem im_X7_liars : Cond.instanceMethod yX7_liars ∈ z_WS := z_w 1075 (by decide +kernel) rfl
theorem se_X7_liars : Cond.selects RX7 yX7_liars yX7_liars ∈ z_WS := z_w 50 (by decide +kernel) rfl
theorem cw_X7_rule : Cond.code yX7_rule cX7_rule 2 (some .int) ∈ z_WS := z_w 1072 (by decide +kernel) rfl
theorem im_X7_rule : Cond.instanceMethod yX7_rule ∈ z_WS := z_w 1070 (by decide +kernel) rfl
theorem se_X7_rule : Cond.selects RX7 yX7_rule yX7_rule ∈ z_WS := z_w 1071 (by decide +kernel) rfl
theorem cw_X7_boat : Cond.code yX7_boat cX7_boat 3 (some .int) ∈ z_WS := z_w 1080 (by decide +kernel) rfl
theorem im_X7_boat : Cond.instanceMethod yX7_boat ∈ z_WS := z_w 1078 (by decide +kernel) rfl
theorem se_X7_boat : Cond.selects RX7 yX7_boat yX7_boat ∈ z_WS := z_w 1079 (by decide +kernel) rfl
theorem cw_X7_becomes : Cond.code yX7_becomes cX7_becomes 4 (some .int) ∈ z_WS := z_w 1108 (by decide +kernel) rfl
theorem im_X7_becomes : Cond.instanceMethod yX7_becomes ∈ z_WS := z_w 1107 (by decide +kernel) rfl
theorem se_X7_becomes : Cond.selects RX7 yX7_becomes yX7_becomes ∈ z_WS := z_w 55 (by decide +kernel) rfl
theorem cw_X7_mostOf : Cond.code yX7_mostOf cX7_mostOf 1 (some .int) ∈ z_WS := z_w 1104 (by decide +kernel) rfl
theorem st_X7_mostOf : Cond.static yX7_mostOf ∈ z_WS := z_w 1103 (by decide +kernel) rfl
theorem cw_X7_set : Cond.code yX7_set cX7_set 3 (some .int) ∈ z_WS := z_w 1101 (by decide +kernel) rfl
theorem im_X7_set : Cond.instanceMethod yX7_set ∈ z_WS := z_w 1099 (by decide +kernel) rfl
theorem se_X7_set : Cond.selects RX7 yX7_set yX7_set ∈ z_WS := z_w 1100 (by decide +kernel) rfl
theorem cw_X7_alter : Cond.code yX7_alter cX7_alter 4 (some .int) ∈ z_WS := z_w 1112 (by decide +kernel) rfl
theorem im_X7_alter : Cond.instanceMethod yX7_alter ∈ z_WS := z_w 1110 (by decide +kernel) rfl
theorem se_X7_alter : Cond.selects RX7 yX7_alter yX7_alter ∈ z_WS := z_w 1111 (by decide +kernel) rfl
theorem cw_X7_lie : Cond.code yX7_lie cX7_lie 3 (some .int) ∈ z_WS := z_w 1120 (by decide +kernel) rfl
theorem im_X7_lie : Cond.instanceMethod yX7_lie ∈ z_WS := z_w 1118 (by decide +kernel) rfl
theorem se_X7_lie : Cond.selects RX7 yX7_lie yX7_lie ∈ z_WS := z_w 1119 (by decide +kernel) rfl
theorem cw_X7_cross : Cond.code yX7_cross cX7_cross 3 (some .int) ∈ z_WS := z_w 1127 (by decide +kernel) rfl
theorem im_X7_cross : Cond.instanceMethod yX7_cross ∈ z_WS := z_w 1125 (by decide +kernel) rfl
theorem se_X7_cross : Cond.selects RX7 yX7_cross yX7_cross ∈ z_WS := z_w 1126 (by decide +kernel) rfl
theorem cw_X7_passes : Cond.code yX7_passes cX7_passes 2 (some .int) ∈ z_WS := z_w 1131 (by decide +kernel) rfl
theorem im_X7_passes : Cond.instanceMethod yX7_passes ∈ z_WS := z_w 1129 (by decide +kernel) rfl
theorem se_X7_passes : Cond.selects RX7 yX7_passes yX7_passes ∈ z_WS := z_w 1130 (by decide +kernel) rfl
theorem cw_X7_through : Cond.code yX7_through cX7_through 2 (some .int) ∈ z_WS := z_w 1187 (by decide +kernel) rfl
theorem im_X7_through : Cond.instanceMethod yX7_through ∈ z_WS := z_w 1185 (by decide +kernel) rfl
theorem se_X7_through : Cond.selects RX7 yX7_through yX7_through ∈ z_WS := z_w 1186 (by decide +kernel) rfl
theorem cw_X7_stood : Cond.code yX7_stood cX7_stood 2 (some .int) ∈ z_WS := z_w 1191 (by decide +kernel) rfl
theorem im_X7_stood : Cond.instanceMethod yX7_stood ∈ z_WS := z_w 1189 (by decide +kernel) rfl
theorem se_X7_stood : Cond.selects RX7 yX7_stood yX7_stood ∈ z_WS := z_w 1190 (by decide +kernel) rfl
theorem cw_X7_day : Cond.code yX7_day cX7_day 2 (some .int) ∈ z_WS := z_w 1195 (by decide +kernel) rfl
theorem im_X7_day : Cond.instanceMethod yX7_day ∈ z_WS := z_w 1193 (by decide +kernel) rfl
theorem se_X7_day : Cond.selects RX7 yX7_day yX7_day ∈ z_WS := z_w 1194 (by decide +kernel) rfl
theorem cw_X7_dayBy : Cond.code yX7_dayBy cX7_dayBy 2 none ∈ z_WS := z_w 1211 (by decide +kernel) rfl
theorem im_X7_dayBy : Cond.instanceMethod yX7_dayBy ∈ z_WS := z_w 1210 (by decide +kernel) rfl
theorem se_X7_dayBy : Cond.selects RX7 yX7_dayBy yX7_dayBy ∈ z_WS := z_w 70 (by decide +kernel) rfl
theorem cw_X7_table : Cond.code yX7_table cX7_table 3 (some .int) ∈ z_WS := z_w 1207 (by decide +kernel) rfl
theorem im_X7_table : Cond.instanceMethod yX7_table ∈ z_WS := z_w 1205 (by decide +kernel) rfl
theorem se_X7_table : Cond.selects RX7 yX7_table yX7_table ∈ z_WS := z_w 1206 (by decide +kernel) rfl
theorem cw_X7_best : Cond.code yX7_best cX7_best 5 (some .int) ∈ z_WS := z_w 1215 (by decide +kernel) rfl
theorem im_X7_best : Cond.instanceMethod yX7_best ∈ z_WS := z_w 1213 (by decide +kernel) rfl
theorem se_X7_best : Cond.selects RX7 yX7_best yX7_best ∈ z_WS := z_w 1214 (by decide +kernel) rfl
theorem cw_X7_rows : Cond.code yX7_rows cX7_rows 3 (some .int) ∈ z_WS := z_w 1223 (by decide +kernel) rfl
theorem im_X7_rows : Cond.instanceMethod yX7_rows ∈ z_WS := z_w 1222 (by decide +kernel) rfl
theorem se_X7_rows : Cond.selects RX7 yX7_rows yX7_rows ∈ z_WS := z_w 71 (by decide +kernel) rfl
theorem cw_X7_isOrder : Cond.code yX7_isOrder cX7_isOrder 5 (some .boolean) ∈ z_WS := z_w 1227 (by decide +kernel) rfl
theorem im_X7_isOrder : Cond.instanceMethod yX7_isOrder ∈ z_WS := z_w 1226 (by decide +kernel) rfl
theorem se_X7_isOrder : Cond.selects RX7 yX7_isOrder yX7_isOrder ∈ z_WS := z_w 72 (by decide +kernel) rfl
theorem cw_X7_goesInOrder : Cond.code yX7_goesInOrder cX7_goesInOrder 2 none ∈ z_WS := z_w 1231 (by decide +kernel) rfl
theorem im_X7_goesInOrder : Cond.instanceMethod yX7_goesInOrder ∈ z_WS := z_w 1230 (by decide +kernel) rfl
theorem se_X7_goesInOrder : Cond.selects RX7 yX7_goesInOrder yX7_goesInOrder ∈ z_WS := z_w 73 (by decide +kernel) rfl
theorem cw_X7_order : Cond.code yX7_order cX7_order 6 (some .int) ∈ z_WS := z_w 1219 (by decide +kernel) rfl
theorem im_X7_order : Cond.instanceMethod yX7_order ∈ z_WS := z_w 1217 (by decide +kernel) rfl
theorem se_X7_order : Cond.selects RX7 yX7_order yX7_order ∈ z_WS := z_w 1218 (by decide +kernel) rfl
theorem cw_X7_firsts : Cond.code yX7_firsts cX7_firsts 4 (some .int) ∈ z_WS := z_w 1235 (by decide +kernel) rfl
theorem im_X7_firsts : Cond.instanceMethod yX7_firsts ∈ z_WS := z_w 1233 (by decide +kernel) rfl
theorem se_X7_firsts : Cond.selects RX7 yX7_firsts yX7_firsts ∈ z_WS := z_w 1234 (by decide +kernel) rfl
theorem cw_X7_gainOf : Cond.code yX7_gainOf cX7_gainOf 3 (some .int) ∈ z_WS := z_w 1243 (by decide +kernel) rfl
theorem im_X7_gainOf : Cond.instanceMethod yX7_gainOf ∈ z_WS := z_w 1242 (by decide +kernel) rfl
theorem se_X7_gainOf : Cond.selects RX7 yX7_gainOf yX7_gainOf ∈ z_WS := z_w 74 (by decide +kernel) rfl
theorem cw_X7_gain : Cond.code yX7_gain cX7_gain 2 (some .int) ∈ z_WS := z_w 1239 (by decide +kernel) rfl
theorem im_X7_gain : Cond.instanceMethod yX7_gain ∈ z_WS := z_w 1237 (by decide +kernel) rfl
theorem se_X7_gain : Cond.selects RX7 yX7_gain yX7_gain ∈ z_WS := z_w 1238 (by decide +kernel) rfl
theorem cw_X7_isCalm : Cond.code yX7_isCalm cX7_isCalm 3 (some .boolean) ∈ z_WS := z_w 1255 (by decide +kernel) rfl
theorem im_X7_isCalm : Cond.instanceMethod yX7_isCalm ∈ z_WS := z_w 1254 (by decide +kernel) rfl
theorem se_X7_isCalm : Cond.selects RX7 yX7_isCalm yX7_isCalm ∈ z_WS := z_w 76 (by decide +kernel) rfl
theorem cw_X7_calm : Cond.code yX7_calm cX7_calm 3 (some .int) ∈ z_WS := z_w 1251 (by decide +kernel) rfl
theorem im_X7_calm : Cond.instanceMethod yX7_calm ∈ z_WS := z_w 1249 (by decide +kernel) rfl
theorem se_X7_calm : Cond.selects RX7 yX7_calm yX7_calm ∈ z_WS := z_w 1250 (by decide +kernel) rfl
theorem cw_X7_liesBy : Cond.code yX7_liesBy cX7_liesBy 3 none ∈ z_WS := z_w 1266 (by decide +kernel) rfl
theorem im_X7_liesBy : Cond.instanceMethod yX7_liesBy ∈ z_WS := z_w 1265 (by decide +kernel) rfl
theorem se_X7_liesBy : Cond.selects RX7 yX7_liesBy yX7_liesBy ∈ z_WS := z_w 77 (by decide +kernel) rfl
theorem cw_X7_rests : Cond.code yX7_rests cX7_rests 5 (some .int) ∈ z_WS := z_w 1259 (by decide +kernel) rfl
theorem im_X7_rests : Cond.instanceMethod yX7_rests ∈ z_WS := z_w 1257 (by decide +kernel) rfl
theorem se_X7_rests : Cond.selects RX7 yX7_rests yX7_rests ∈ z_WS := z_w 1258 (by decide +kernel) rfl
theorem cw_X7_boy : Cond.code yX7_boy cX7_boy 4 (some .int) ∈ z_WS := z_w 1270 (by decide +kernel) rfl
theorem im_X7_boy : Cond.instanceMethod yX7_boy ∈ z_WS := z_w 1268 (by decide +kernel) rfl
theorem se_X7_boy : Cond.selects RX7 yX7_boy yX7_boy ∈ z_WS := z_w 1269 (by decide +kernel) rfl
theorem cw_X7_post : Cond.code yX7_post cX7_post 6 (some .int) ∈ z_WS := z_w 1278 (by decide +kernel) rfl
theorem im_X7_post : Cond.instanceMethod yX7_post ∈ z_WS := z_w 1276 (by decide +kernel) rfl
theorem se_X7_post : Cond.selects RX7 yX7_post yX7_post ∈ z_WS := z_w 1277 (by decide +kernel) rfl
theorem cw_X7_late : Cond.code yX7_late cX7_late 5 (some .int) ∈ z_WS := z_w 1282 (by decide +kernel) rfl
theorem im_X7_late : Cond.instanceMethod yX7_late ∈ z_WS := z_w 1280 (by decide +kernel) rfl
theorem se_X7_late : Cond.selects RX7 yX7_late yX7_late ∈ z_WS := z_w 1281 (by decide +kernel) rfl
theorem cw_X7_deal : Cond.code yX7_deal cX7_deal 8 (some .int) ∈ z_WS := z_w 1286 (by decide +kernel) rfl
theorem im_X7_deal : Cond.instanceMethod yX7_deal ∈ z_WS := z_w 1284 (by decide +kernel) rfl
theorem se_X7_deal : Cond.selects RX7 yX7_deal yX7_deal ∈ z_WS := z_w 1285 (by decide +kernel) rfl
theorem cw_X7_common : Cond.code yX7_common cX7_common 10 (some .long) ∈ z_WS := z_w 1310 (by decide +kernel) rfl
theorem st_X7_common : Cond.static yX7_common ∈ z_WS := z_w 1309 (by decide +kernel) rfl
theorem cw_X7_told : Cond.code yX7_told cX7_told 7 (some .long) ∈ z_WS := z_w 1307 (by decide +kernel) rfl
theorem st_X7_told : Cond.static yX7_told ∈ z_WS := z_w 1306 (by decide +kernel) rfl
theorem cw_X7_waysOf : Cond.code yX7_waysOf cX7_waysOf 7 (some .long) ∈ z_WS := z_w 1300 (by decide +kernel) rfl
theorem im_X7_waysOf : Cond.instanceMethod yX7_waysOf ∈ z_WS := z_w 1299 (by decide +kernel) rfl
theorem se_X7_waysOf : Cond.selects RX7 yX7_waysOf yX7_waysOf ∈ z_WS := z_w 80 (by decide +kernel) rfl
theorem cw_X7_allWays : Cond.code yX7_allWays cX7_allWays 4 (some .long) ∈ z_WS := z_w 1304 (by decide +kernel) rfl
theorem im_X7_allWays : Cond.instanceMethod yX7_allWays ∈ z_WS := z_w 1303 (by decide +kernel) rfl
theorem se_X7_allWays : Cond.selects RX7 yX7_allWays yX7_allWays ∈ z_WS := z_w 81 (by decide +kernel) rfl
theorem cw_X7_dayCaught : Cond.code yX7_dayCaught cX7_dayCaught 2 none ∈ z_WS := z_w 1296 (by decide +kernel) rfl
theorem im_X7_dayCaught : Cond.instanceMethod yX7_dayCaught ∈ z_WS := z_w 1295 (by decide +kernel) rfl
theorem se_X7_dayCaught : Cond.selects RX7 yX7_dayCaught yX7_dayCaught ∈ z_WS := z_w 79 (by decide +kernel) rfl
theorem cw_X7_mean : Cond.code yX7_mean cX7_mean 7 (some .long) ∈ z_WS := z_w 1290 (by decide +kernel) rfl
theorem im_X7_mean : Cond.instanceMethod yX7_mean ∈ z_WS := z_w 1288 (by decide +kernel) rfl
theorem se_X7_mean : Cond.selects RX7 yX7_mean yX7_mean ∈ z_WS := z_w 1289 (by decide +kernel) rfl
theorem cw_X7_luck : Cond.code yX7_luck cX7_luck 8 (some .long) ∈ z_WS := z_w 1314 (by decide +kernel) rfl
theorem im_X7_luck : Cond.instanceMethod yX7_luck ∈ z_WS := z_w 1312 (by decide +kernel) rfl
theorem se_X7_luck : Cond.selects RX7 yX7_luck yX7_luck ∈ z_WS := z_w 1313 (by decide +kernel) rfl
theorem cw_X7_see : Cond.code yX7_see cX7_see 3 (some .int) ∈ z_WS := z_w 1318 (by decide +kernel) rfl
theorem im_X7_see : Cond.instanceMethod yX7_see ∈ z_WS := z_w 1316 (by decide +kernel) rfl
theorem se_X7_see : Cond.selects RX7 yX7_see yX7_see ∈ z_WS := z_w 1317 (by decide +kernel) rfl
theorem cw_X7_forget : Cond.code yX7_forget cX7_forget 2 (some .int) ∈ z_WS := z_w 1322 (by decide +kernel) rfl
theorem im_X7_forget : Cond.instanceMethod yX7_forget ∈ z_WS := z_w 1320 (by decide +kernel) rfl
theorem se_X7_forget : Cond.selects RX7 yX7_forget yX7_forget ∈ z_WS := z_w 1321 (by decide +kernel) rfl
theorem cw_X7_isSo : Cond.code yX7_isSo cX7_isSo 5 (some .boolean) ∈ z_WS := z_w 1330 (by decide +kernel) rfl
theorem im_X7_isSo : Cond.instanceMethod yX7_isSo ∈ z_WS := z_w 1329 (by decide +kernel) rfl
theorem se_X7_isSo : Cond.selects RX7 yX7_isSo yX7_isSo ∈ z_WS := z_w 82 (by decide +kernel) rfl
theorem cw_X7_fits : Cond.code yX7_fits cX7_fits 9 (some .int) ∈ z_WS := z_w 1326 (by decide +kernel) rfl
theorem im_X7_fits : Cond.instanceMethod yX7_fits ∈ z_WS := z_w 1324 (by decide +kernel) rfl
theorem se_X7_fits : Cond.selects RX7 yX7_fits yX7_fits ∈ z_WS := z_w 1325 (by decide +kernel) rfl
theorem cw_X7_drift : Cond.code yX7_drift cX7_drift 8 (some .int) ∈ z_WS := z_w 1334 (by decide +kernel) rfl
theorem im_X7_drift : Cond.instanceMethod yX7_drift ∈ z_WS := z_w 1332 (by decide +kernel) rfl
theorem se_X7_drift : Cond.selects RX7 yX7_drift yX7_drift ∈ z_WS := z_w 1333 (by decide +kernel) rfl
theorem cw_X7_copies : Cond.code yX7_copies cX7_copies 4 none ∈ z_WS := z_w 1344 (by decide +kernel) rfl
theorem im_X7_copies : Cond.instanceMethod yX7_copies ∈ z_WS := z_w 1343 (by decide +kernel) rfl
theorem se_X7_copies : Cond.selects RX7 yX7_copies yX7_copies ∈ z_WS := z_w 83 (by decide +kernel) rfl
theorem cw_X7_keep : Cond.code yX7_keep cX7_keep 3 (some .int) ∈ z_WS := z_w 1340 (by decide +kernel) rfl
theorem im_X7_keep : Cond.instanceMethod yX7_keep ∈ z_WS := z_w 1338 (by decide +kernel) rfl
theorem se_X7_keep : Cond.selects RX7 yX7_keep yX7_keep ∈ z_WS := z_w 1339 (by decide +kernel) rfl
theorem cw_X7_back : Cond.code yX7_back cX7_back 2 (some .int) ∈ z_WS := z_w 1348 (by decide +kernel) rfl
theorem im_X7_back : Cond.instanceMethod yX7_back ∈ z_WS := z_w 1346 (by decide +kernel) rfl
theorem se_X7_back : Cond.selects RX7 yX7_back yX7_back ∈ z_WS := z_w 1347 (by decide +kernel) rfl
theorem cw_X7_isSheet : Cond.code yX7_isSheet cX7_isSheet 2 (some .boolean) ∈ z_WS := z_w 1355 (by decide +kernel) rfl
theorem st_X7_isSheet : Cond.static yX7_isSheet ∈ z_WS := z_w 1354 (by decide +kernel) rfl
theorem cw_X7_sheet : Cond.code yX7_sheet cX7_sheet 5 (some .int) ∈ z_WS := z_w 1352 (by decide +kernel) rfl
theorem im_X7_sheet : Cond.instanceMethod yX7_sheet ∈ z_WS := z_w 1350 (by decide +kernel) rfl
theorem se_X7_sheet : Cond.selects RX7 yX7_sheet yX7_sheet ∈ z_WS := z_w 1351 (by decide +kernel) rfl
theorem cw_X7_lay : Cond.code yX7_lay cX7_lay 4 (some .int) ∈ z_WS := z_w 1359 (by decide +kernel) rfl
theorem im_X7_lay : Cond.instanceMethod yX7_lay ∈ z_WS := z_w 1357 (by decide +kernel) rfl
theorem se_X7_lay : Cond.selects RX7 yX7_lay yX7_lay ∈ z_WS := z_w 1358 (by decide +kernel) rfl
theorem cw_X7_read : Cond.code yX7_read cX7_read 11 (some .int) ∈ z_WS := z_w 1363 (by decide +kernel) rfl
theorem im_X7_read : Cond.instanceMethod yX7_read ∈ z_WS := z_w 1361 (by decide +kernel) rfl
theorem se_X7_read : Cond.selects RX7 yX7_read yX7_read ∈ z_WS := z_w 1362 (by decide +kernel) rfl
theorem cw_X7_torn : Cond.code yX7_torn cX7_torn 1 (some .int) ∈ z_WS := z_w 1368 (by decide +kernel) rfl
theorem im_X7_torn : Cond.instanceMethod yX7_torn ∈ z_WS := z_w 1366 (by decide +kernel) rfl
theorem se_X7_torn : Cond.selects RX7 yX7_torn yX7_torn ∈ z_WS := z_w 1367 (by decide +kernel) rfl
theorem cw_X7_count : Cond.code yX7_count cX7_count 2 (some .int) ∈ z_WS := z_w 1372 (by decide +kernel) rfl
theorem im_X7_count : Cond.instanceMethod yX7_count ∈ z_WS := z_w 1370 (by decide +kernel) rfl
theorem se_X7_count : Cond.selects RX7 yX7_count yX7_count ∈ z_WS := z_w 1371 (by decide +kernel) rfl
theorem cw_J6_bitCount_0f7a4 : Cond.code yJ6_bitCount_0f7a4 cJ6_bitCount_0f7a4 1 (some .int) ∈ z_WS := z_w 866 (by decide +kernel) rfl
theorem st_J6_bitCount_0f7a4 : Cond.static yJ6_bitCount_0f7a4 ∈ z_WS := z_w 865 (by decide +kernel) rfl
theorem cw_J9_max_7cf53 : Cond.code yJ9_max_7cf53 cJ9_max_7cf53 2 (some .int) ∈ z_WS := z_w 537 (by decide +kernel) rfl
theorem st_J9_max_7cf53 : Cond.static yJ9_max_7cf53 ∈ z_WS := z_w 536 (by decide +kernel) rfl
theorem cw_J9_min_7cf53 : Cond.code yJ9_min_7cf53 cJ9_min_7cf53 2 (some .int) ∈ z_WS := z_w 587 (by decide +kernel) rfl
theorem st_J9_min_7cf53 : Cond.static yJ9_min_7cf53 ∈ z_WS := z_w 586 (by decide +kernel) rfl
theorem cw_J0_length_8abf5 : Cond.code yJ0_length_8abf5 cJ0_length_8abf5 1 (some .int) ∈ z_WS := z_w 396 (by decide +kernel) rfl
theorem im_J0_length_8abf5 : Cond.instanceMethod yJ0_length_8abf5 ∈ z_WS := z_w 394 (by decide +kernel) rfl
theorem se_J0_length_8abf5 : Cond.selects RJ0 yJ0_length_8abf5 yJ0_length_8abf5 ∈ z_WS := z_w 395 (by decide +kernel) rfl
theorem cw_J0_charAt_5068e : Cond.code yJ0_charAt_5068e cJ0_charAt_5068e 2 (some .char) ∈ z_WS := z_w 406 (by decide +kernel) rfl
theorem im_J0_charAt_5068e : Cond.instanceMethod yJ0_charAt_5068e ∈ z_WS := z_w 404 (by decide +kernel) rfl
theorem se_J0_charAt_5068e : Cond.selects RJ0 yJ0_charAt_5068e yJ0_charAt_5068e ∈ z_WS := z_w 405 (by decide +kernel) rfl
theorem cw_J0_coder_7d493 : Cond.code yJ0_coder_7d493 cJ0_coder_7d493 1 (some .byte) ∈ z_WS := z_w 400 (by decide +kernel) rfl
theorem im_J0_coder_7d493 : Cond.instanceMethod yJ0_coder_7d493 ∈ z_WS := z_w 398 (by decide +kernel) rfl
theorem se_J0_coder_7d493 : Cond.selects RJ0 yJ0_coder_7d493 yJ0_coder_7d493 ∈ z_WS := z_w 399 (by decide +kernel) rfl
theorem cw_J0_isLatin1_aae02 : Cond.code yJ0_isLatin1_aae02 cJ0_isLatin1_aae02 1 (some .boolean) ∈ z_WS := z_w 410 (by decide +kernel) rfl
theorem im_J0_isLatin1_aae02 : Cond.instanceMethod yJ0_isLatin1_aae02 ∈ z_WS := z_w 408 (by decide +kernel) rfl
theorem se_J0_isLatin1_aae02 : Cond.selects RJ0 yJ0_isLatin1_aae02 yJ0_isLatin1_aae02 ∈ z_WS := z_w 409 (by decide +kernel) rfl
theorem cw_J0_checkIndex_df160 : Cond.code yJ0_checkIndex_df160 cJ0_checkIndex_df160 2 none ∈ z_WS := z_w 416 (by decide +kernel) rfl
theorem st_J0_checkIndex_df160 : Cond.static yJ0_checkIndex_df160 ∈ z_WS := z_w 415 (by decide +kernel) rfl
theorem cw_J1_charAt_3b067 : Cond.code yJ1_charAt_3b067 cJ1_charAt_3b067 2 (some .char) ∈ z_WS := z_w 413 (by decide +kernel) rfl
theorem st_J1_charAt_3b067 : Cond.static yJ1_charAt_3b067 ∈ z_WS := z_w 412 (by decide +kernel) rfl
theorem cw_J2_getChar_3b067 : Cond.code yJ2_getChar_3b067 cJ2_getChar_3b067 2 (some .char) ∈ z_WS := z_w 434 (by decide +kernel) rfl
theorem st_J2_getChar_3b067 : Cond.static yJ2_getChar_3b067 ∈ z_WS := z_w 433 (by decide +kernel) rfl
theorem cw_J2_length_9d52b : Cond.code yJ2_length_9d52b cJ2_length_9d52b 1 (some .int) ∈ z_WS := z_w 430 (by decide +kernel) rfl
theorem st_J2_length_9d52b : Cond.static yJ2_length_9d52b ∈ z_WS := z_w 429 (by decide +kernel) rfl
theorem cw_J2_charAt_3b067 : Cond.code yJ2_charAt_3b067 cJ2_charAt_3b067 2 (some .char) ∈ z_WS := z_w 424 (by decide +kernel) rfl
theorem st_J2_charAt_3b067 : Cond.static yJ2_charAt_3b067 ∈ z_WS := z_w 423 (by decide +kernel) rfl
theorem cw_J2_checkIndex_2214a : Cond.code yJ2_checkIndex_2214a cJ2_checkIndex_2214a 2 none ∈ z_WS := z_w 427 (by decide +kernel) rfl
theorem st_J2_checkIndex_2214a : Cond.static yJ2_checkIndex_2214a ∈ z_WS := z_w 426 (by decide +kernel) rfl
theorem cw_J7_fill_53178 : Cond.code yJ7_fill_53178 cJ7_fill_53178 4 none ∈ z_WS := z_w 817 (by decide +kernel) rfl
theorem st_J7_fill_53178 : Cond.static yJ7_fill_53178 ∈ z_WS := z_w 816 (by decide +kernel) rfl
theorem cw_J3_checkIndex_8e157 : Cond.code yJ3_checkIndex_8e157 cJ3_checkIndex_8e157 3 (some .int) ∈ z_WS := z_w 421 (by decide +kernel) rfl
theorem st_J3_checkIndex_8e157 : Cond.static yJ3_checkIndex_8e157 ∈ z_WS := z_w 420 (by decide +kernel) rfl
end
section
theorem dX0_init_0 : decode cX0_init 0 = .ok (.aload_n 0, 1) := by decide +kernel
theorem dX0_init_1 : decode cX0_init 1 = .ok (.invokespecial 3, 3) := by decide +kernel
theorem dX0_init_4 : decode cX0_init 4 = .ok (.aload_n 0, 1) := by decide +kernel
theorem dX0_init_5 : decode cX0_init 5 = .ok (.bipush 6, 2) := by decide +kernel
theorem dX0_init_7 : decode cX0_init 7 = .ok (.newarray .int, 2) := by decide +kernel
theorem dX0_init_9 : decode cX0_init 9 = .ok (.putfield 9, 3) := by decide +kernel
theorem dX0_init_12 : decode cX0_init 12 = .ok (.aload_n 0, 1) := by decide +kernel
theorem dX0_init_13 : decode cX0_init 13 = .ok (.bipush 6, 2) := by decide +kernel
theorem dX0_init_15 : decode cX0_init 15 = .ok (.newarray .int, 2) := by decide +kernel
theorem dX0_init_17 : decode cX0_init 17 = .ok (.putfield 15, 3) := by decide +kernel
theorem dX0_init_20 : decode cX0_init 20 = .ok (.aload_n 0, 1) := by decide +kernel
theorem dX0_init_21 : decode cX0_init 21 = .ok (.bipush 6, 2) := by decide +kernel
theorem dX0_init_23 : decode cX0_init 23 = .ok (.newarray .int, 2) := by decide +kernel
theorem dX0_init_25 : decode cX0_init 25 = .ok (.putfield 18, 3) := by decide +kernel
theorem dX0_init_28 : decode cX0_init 28 = .ok (.aload_n 0, 1) := by decide +kernel
theorem dX0_init_29 : decode cX0_init 29 = .ok (.bipush 6, 2) := by decide +kernel
theorem dX0_init_31 : decode cX0_init 31 = .ok (.newarray .int, 2) := by decide +kernel
theorem dX0_init_33 : decode cX0_init 33 = .ok (.putfield 21, 3) := by decide +kernel
theorem dX0_init_36 : decode cX0_init 36 = .ok (.aload_n 0, 1) := by decide +kernel
theorem dX0_init_37 : decode cX0_init 37 = .ok (.bipush 6, 2) := by decide +kernel
theorem dX0_init_39 : decode cX0_init 39 = .ok (.newarray .int, 2) := by decide +kernel
theorem dX0_init_41 : decode cX0_init 41 = .ok (.putfield 24, 3) := by decide +kernel
theorem dX0_init_44 : decode cX0_init 44 = .ok (.return_, 1) := by decide +kernel
theorem dX0_by_0 : decode cX0_by 0 = .ok (.aload_n 0, 1) := by decide +kernel
theorem dX0_by_1 : decode cX0_by 1 = .ok (.aload_n 1, 1) := by decide +kernel
theorem dX0_by_2 : decode cX0_by 2 = .ok (.invokevirtual 27, 3) := by decide +kernel
theorem dX0_by_5 : decode cX0_by 5 = .ok (.iconst 0, 1) := by decide +kernel
theorem dX0_by_6 : decode cX0_by 6 = .ok (.istore 5, 2) := by decide +kernel
theorem dX0_by_8 : decode cX0_by 8 = .ok (.iload 5, 2) := by decide +kernel
theorem dX0_by_10 : decode cX0_by 10 = .ok (.aload_n 1, 1) := by decide +kernel
theorem dX0_by_11 : decode cX0_by 11 = .ok (.getfield 31, 3) := by decide +kernel
theorem dX0_by_14 : decode cX0_by 14 = .ok (.if_icmp .ge 69, 3) := by decide +kernel
theorem dX0_by_17 : decode cX0_by 17 = .ok (.aload_n 0, 1) := by decide +kernel
theorem dX0_by_18 : decode cX0_by 18 = .ok (.getfield 21, 3) := by decide +kernel
theorem dX0_by_21 : decode cX0_by 21 = .ok (.iload 5, 2) := by decide +kernel
theorem dX0_by_23 : decode cX0_by 23 = .ok (.aload_n 1, 1) := by decide +kernel
theorem dX0_by_24 : decode cX0_by 24 = .ok (.iload 5, 2) := by decide +kernel
theorem dX0_by_26 : decode cX0_by 26 = .ok (.invokevirtual 37, 3) := by decide +kernel
theorem dX0_by_29 : decode cX0_by 29 = .ok (.iastore, 1) := by decide +kernel
theorem dX0_by_30 : decode cX0_by 30 = .ok (.aload_n 0, 1) := by decide +kernel
theorem dX0_by_31 : decode cX0_by 31 = .ok (.getfield 24, 3) := by decide +kernel
theorem dX0_by_34 : decode cX0_by 34 = .ok (.iload 5, 2) := by decide +kernel
theorem dX0_by_36 : decode cX0_by 36 = .ok (.aload_n 1, 1) := by decide +kernel
theorem dX0_by_37 : decode cX0_by 37 = .ok (.iload 5, 2) := by decide +kernel
theorem dX0_by_39 : decode cX0_by 39 = .ok (.iconst 1, 1) := by decide +kernel
theorem dX0_by_40 : decode cX0_by 40 = .ok (.invokevirtual 41, 3) := by decide +kernel
theorem dX0_by_43 : decode cX0_by 43 = .ok (.iastore, 1) := by decide +kernel
theorem dX0_by_44 : decode cX0_by 44 = .ok (.iload_n 3, 1) := by decide +kernel
theorem dX0_by_45 : decode cX0_by 45 = .ok (.iload 5, 2) := by decide +kernel
theorem dX0_by_47 : decode cX0_by 47 = .ok (.ishr, 1) := by decide +kernel
theorem dX0_by_48 : decode cX0_by 48 = .ok (.iconst 1, 1) := by decide +kernel
theorem dX0_by_49 : decode cX0_by 49 = .ok (.iand, 1) := by decide +kernel
theorem dX0_by_50 : decode cX0_by 50 = .ok (.iconst 1, 1) := by decide +kernel
theorem dX0_by_51 : decode cX0_by 51 = .ok (.if_icmp .ne 26, 3) := by decide +kernel
theorem dX0_by_54 : decode cX0_by 54 = .ok (.aload_n 0, 1) := by decide +kernel
theorem dX0_by_55 : decode cX0_by 55 = .ok (.getfield 24, 3) := by decide +kernel
theorem dX0_by_58 : decode cX0_by 58 = .ok (.iload 5, 2) := by decide +kernel
theorem dX0_by_60 : decode cX0_by 60 = .ok (.iload 4, 2) := by decide +kernel
theorem dX0_by_62 : decode cX0_by 62 = .ok (.iload 5, 2) := by decide +kernel
theorem dX0_by_64 : decode cX0_by 64 = .ok (.ishr, 1) := by decide +kernel
theorem dX0_by_65 : decode cX0_by 65 = .ok (.iconst 1, 1) := by decide +kernel
theorem dX0_by_66 : decode cX0_by 66 = .ok (.iand, 1) := by decide +kernel
theorem dX0_by_67 : decode cX0_by 67 = .ok (.iconst 1, 1) := by decide +kernel
theorem dX0_by_68 : decode cX0_by 68 = .ok (.if_icmp .ne 7, 3) := by decide +kernel
theorem dX0_by_71 : decode cX0_by 71 = .ok (.iconst 4, 1) := by decide +kernel
theorem dX0_by_72 : decode cX0_by 72 = .ok (.goto 4, 3) := by decide +kernel
theorem dX0_by_75 : decode cX0_by 75 = .ok (.iconst 0, 1) := by decide +kernel
theorem dX0_by_76 : decode cX0_by 76 = .ok (.iastore, 1) := by decide +kernel
theorem dX0_by_77 : decode cX0_by 77 = .ok (.iinc 5 1, 3) := by decide +kernel
theorem dX0_by_80 : decode cX0_by 80 = .ok (.goto (-72), 3) := by decide +kernel
theorem dX0_by_83 : decode cX0_by 83 = .ok (.iconst 0, 1) := by decide +kernel
theorem dX0_by_84 : decode cX0_by 84 = .ok (.istore 5, 2) := by decide +kernel
theorem dX0_by_86 : decode cX0_by 86 = .ok (.iload 5, 2) := by decide +kernel
theorem dX0_by_88 : decode cX0_by 88 = .ok (.aload_n 1, 1) := by decide +kernel
theorem dX0_by_89 : decode cX0_by 89 = .ok (.getfield 31, 3) := by decide +kernel
theorem dX0_by_92 : decode cX0_by 92 = .ok (.if_icmp .ge 34, 3) := by decide +kernel
theorem dX0_by_95 : decode cX0_by 95 = .ok (.aload_n 0, 1) := by decide +kernel
theorem dX0_by_96 : decode cX0_by 96 = .ok (.aload_n 1, 1) := by decide +kernel
theorem dX0_by_97 : decode cX0_by 97 = .ok (.getfield 31, 3) := by decide +kernel
theorem dX0_by_100 : decode cX0_by 100 = .ok (.invokevirtual 45, 3) := by decide +kernel
theorem dX0_by_103 : decode cX0_by 103 = .ok (.aload_n 0, 1) := by decide +kernel
theorem dX0_by_104 : decode cX0_by 104 = .ok (.aload_n 1, 1) := by decide +kernel
theorem dX0_by_105 : decode cX0_by 105 = .ok (.aload_n 0, 1) := by decide +kernel
theorem dX0_by_106 : decode cX0_by 106 = .ok (.aload_n 1, 1) := by decide +kernel
theorem dX0_by_107 : decode cX0_by 107 = .ok (.iload_n 2, 1) := by decide +kernel
theorem dX0_by_108 : decode cX0_by 108 = .ok (.aload_n 0, 1) := by decide +kernel
theorem dX0_by_109 : decode cX0_by 109 = .ok (.aload_n 1, 1) := by decide +kernel
theorem dX0_by_110 : decode cX0_by 110 = .ok (.iload_n 2, 1) := by decide +kernel
theorem dX0_by_111 : decode cX0_by 111 = .ok (.invokevirtual 49, 3) := by decide +kernel
theorem dX0_by_114 : decode cX0_by 114 = .ok (.invokevirtual 53, 3) := by decide +kernel
theorem dX0_by_117 : decode cX0_by 117 = .ok (.invokevirtual 57, 3) := by decide +kernel
theorem dX0_by_120 : decode cX0_by 120 = .ok (.iinc 5 1, 3) := by decide +kernel
theorem dX0_by_123 : decode cX0_by 123 = .ok (.goto (-37), 3) := by decide +kernel
theorem dX0_by_126 : decode cX0_by 126 = .ok (.return_, 1) := by decide +kernel
theorem dX0_inOrder_0 : decode cX0_inOrder 0 = .ok (.aload_n 0, 1) := by decide +kernel
theorem dX0_inOrder_1 : decode cX0_inOrder 1 = .ok (.aload_n 1, 1) := by decide +kernel
theorem dX0_inOrder_2 : decode cX0_inOrder 2 = .ok (.invokevirtual 27, 3) := by decide +kernel
theorem dX0_inOrder_5 : decode cX0_inOrder 5 = .ok (.iconst 0, 1) := by decide +kernel
theorem dX0_inOrder_6 : decode cX0_inOrder 6 = .ok (.istore_n 3, 1) := by decide +kernel
theorem dX0_inOrder_7 : decode cX0_inOrder 7 = .ok (.iload_n 3, 1) := by decide +kernel
theorem dX0_inOrder_8 : decode cX0_inOrder 8 = .ok (.aload_n 1, 1) := by decide +kernel
theorem dX0_inOrder_9 : decode cX0_inOrder 9 = .ok (.getfield 31, 3) := by decide +kernel
theorem dX0_inOrder_12 : decode cX0_inOrder 12 = .ok (.if_icmp .ge 17, 3) := by decide +kernel
theorem dX0_inOrder_15 : decode cX0_inOrder 15 = .ok (.aload_n 0, 1) := by decide +kernel
theorem dX0_inOrder_16 : decode cX0_inOrder 16 = .ok (.aload_n 1, 1) := by decide +kernel
theorem dX0_inOrder_17 : decode cX0_inOrder 17 = .ok (.aload_n 2, 1) := by decide +kernel
theorem dX0_inOrder_18 : decode cX0_inOrder 18 = .ok (.iload_n 3, 1) := by decide +kernel
theorem dX0_inOrder_19 : decode cX0_inOrder 19 = .ok (.iaload, 1) := by decide +kernel
theorem dX0_inOrder_20 : decode cX0_inOrder 20 = .ok (.invokevirtual 57, 3) := by decide +kernel
theorem dX0_inOrder_23 : decode cX0_inOrder 23 = .ok (.iinc 3 1, 3) := by decide +kernel
theorem dX0_inOrder_26 : decode cX0_inOrder 26 = .ok (.goto (-19), 3) := by decide +kernel
theorem dX0_inOrder_29 : decode cX0_inOrder 29 = .ok (.return_, 1) := by decide +kernel
theorem dX0_measure_0 : decode cX0_measure 0 = .ok (.iload_n 1, 1) := by decide +kernel
theorem dX0_measure_1 : decode cX0_measure 1 = .ok (.tableswitch 51 0 3 #[31, 36, 41, 46], 31) := by decide +kernel
theorem dX0_measure_32 : decode cX0_measure 32 = .ok (.aload_n 0, 1) := by decide +kernel
theorem dX0_measure_33 : decode cX0_measure 33 = .ok (.getfield 61, 3) := by decide +kernel
theorem dX0_measure_36 : decode cX0_measure 36 = .ok (.ireturn, 1) := by decide +kernel
theorem dX0_measure_37 : decode cX0_measure 37 = .ok (.aload_n 0, 1) := by decide +kernel
theorem dX0_measure_38 : decode cX0_measure 38 = .ok (.getfield 64, 3) := by decide +kernel
theorem dX0_measure_41 : decode cX0_measure 41 = .ok (.ireturn, 1) := by decide +kernel
theorem dX0_measure_42 : decode cX0_measure 42 = .ok (.aload_n 0, 1) := by decide +kernel
theorem dX0_measure_43 : decode cX0_measure 43 = .ok (.getfield 67, 3) := by decide +kernel
theorem dX0_measure_46 : decode cX0_measure 46 = .ok (.ireturn, 1) := by decide +kernel
theorem dX0_measure_47 : decode cX0_measure 47 = .ok (.aload_n 0, 1) := by decide +kernel
theorem dX0_measure_48 : decode cX0_measure 48 = .ok (.getfield 70, 3) := by decide +kernel
theorem dX0_measure_51 : decode cX0_measure 51 = .ok (.ireturn, 1) := by decide +kernel
theorem dX0_measure_52 : decode cX0_measure 52 = .ok (.aload_n 0, 1) := by decide +kernel
theorem dX0_measure_53 : decode cX0_measure 53 = .ok (.getfield 73, 3) := by decide +kernel
theorem dX0_measure_56 : decode cX0_measure 56 = .ok (.ireturn, 1) := by decide +kernel
theorem dX0_costOf_0 : decode cX0_costOf 0 = .ok (.aload_n 0, 1) := by decide +kernel
theorem dX0_costOf_1 : decode cX0_costOf 1 = .ok (.getfield 18, 3) := by decide +kernel
theorem dX0_costOf_4 : decode cX0_costOf 4 = .ok (.iload_n 2, 1) := by decide +kernel
theorem dX0_costOf_5 : decode cX0_costOf 5 = .ok (.iaload, 1) := by decide +kernel
theorem dX0_costOf_6 : decode cX0_costOf 6 = .ok (.aload_n 1, 1) := by decide +kernel
theorem dX0_costOf_7 : decode cX0_costOf 7 = .ok (.iload_n 2, 1) := by decide +kernel
theorem dX0_costOf_8 : decode cX0_costOf 8 = .ok (.iconst 3, 1) := by decide +kernel
theorem dX0_costOf_9 : decode cX0_costOf 9 = .ok (.invokevirtual 41, 3) := by decide +kernel
theorem dX0_costOf_12 : decode cX0_costOf 12 = .ok (.imul, 1) := by decide +kernel
theorem dX0_costOf_13 : decode cX0_costOf 13 = .ok (.ireturn, 1) := by decide +kernel
theorem dX0_isAsSeen_0 : decode cX0_isAsSeen 0 = .ok (.aload_n 1, 1) := by decide +kernel
theorem dX0_isAsSeen_1 : decode cX0_isAsSeen 1 = .ok (.aload_n 0, 1) := by decide +kernel
theorem dX0_isAsSeen_2 : decode cX0_isAsSeen 2 = .ok (.getfield 9, 3) := by decide +kernel
theorem dX0_isAsSeen_5 : decode cX0_isAsSeen 5 = .ok (.invokevirtual 76, 3) := by decide +kernel
theorem dX0_isAsSeen_8 : decode cX0_isAsSeen 8 = .ok (.ireturn, 1) := by decide +kernel
theorem dX0_begin_0 : decode cX0_begin 0 = .ok (.aload_n 0, 1) := by decide +kernel
theorem dX0_begin_1 : decode cX0_begin 1 = .ok (.iconst 0, 1) := by decide +kernel
theorem dX0_begin_2 : decode cX0_begin 2 = .ok (.putfield 80, 3) := by decide +kernel
theorem dX0_begin_5 : decode cX0_begin 5 = .ok (.aload_n 0, 1) := by decide +kernel
theorem dX0_begin_6 : decode cX0_begin 6 = .ok (.iconst 0, 1) := by decide +kernel
theorem dX0_begin_7 : decode cX0_begin 7 = .ok (.putfield 83, 3) := by decide +kernel
theorem dX0_begin_10 : decode cX0_begin 10 = .ok (.aload_n 0, 1) := by decide +kernel
theorem dX0_begin_11 : decode cX0_begin 11 = .ok (.iconst 0, 1) := by decide +kernel
theorem dX0_begin_12 : decode cX0_begin 12 = .ok (.putfield 70, 3) := by decide +kernel
theorem dX0_begin_15 : decode cX0_begin 15 = .ok (.aload_n 0, 1) := by decide +kernel
theorem dX0_begin_16 : decode cX0_begin 16 = .ok (.aload_n 1, 1) := by decide +kernel
theorem dX0_begin_17 : decode cX0_begin 17 = .ok (.getfield 86, 3) := by decide +kernel
theorem dX0_begin_20 : decode cX0_begin 20 = .ok (.iconst 2, 1) := by decide +kernel
theorem dX0_begin_21 : decode cX0_begin 21 = .ok (.iaload, 1) := by decide +kernel
theorem dX0_begin_22 : decode cX0_begin 22 = .ok (.putfield 89, 3) := by decide +kernel
theorem dX0_begin_25 : decode cX0_begin 25 = .ok (.aload_n 0, 1) := by decide +kernel
theorem dX0_begin_26 : decode cX0_begin 26 = .ok (.iconst 0, 1) := by decide +kernel
theorem dX0_begin_27 : decode cX0_begin 27 = .ok (.putfield 64, 3) := by decide +kernel
theorem dX0_begin_30 : decode cX0_begin 30 = .ok (.aload_n 0, 1) := by decide +kernel
theorem dX0_begin_31 : decode cX0_begin 31 = .ok (.iconst 0, 1) := by decide +kernel
theorem dX0_begin_32 : decode cX0_begin 32 = .ok (.putfield 67, 3) := by decide +kernel
theorem dX0_begin_35 : decode cX0_begin 35 = .ok (.aload_n 0, 1) := by decide +kernel
theorem dX0_begin_36 : decode cX0_begin 36 = .ok (.iconst 0, 1) := by decide +kernel
theorem dX0_begin_37 : decode cX0_begin 37 = .ok (.putfield 73, 3) := by decide +kernel
theorem dX0_begin_40 : decode cX0_begin 40 = .ok (.aload_n 0, 1) := by decide +kernel
theorem dX0_begin_41 : decode cX0_begin 41 = .ok (.iconst 0, 1) := by decide +kernel
theorem dX0_begin_42 : decode cX0_begin 42 = .ok (.putfield 61, 3) := by decide +kernel
theorem dX0_begin_45 : decode cX0_begin 45 = .ok (.return_, 1) := by decide +kernel
theorem dX0_waitForOne_0 : decode cX0_waitForOne 0 = .ok (.ldc 94, 2) := by decide +kernel
theorem dX0_waitForOne_2 : decode cX0_waitForOne 2 = .ok (.istore_n 2, 1) := by decide +kernel
theorem dX0_waitForOne_3 : decode cX0_waitForOne 3 = .ok (.iconst 0, 1) := by decide +kernel
theorem dX0_waitForOne_4 : decode cX0_waitForOne 4 = .ok (.istore_n 3, 1) := by decide +kernel
theorem dX0_waitForOne_5 : decode cX0_waitForOne 5 = .ok (.iload_n 3, 1) := by decide +kernel
theorem dX0_waitForOne_6 : decode cX0_waitForOne 6 = .ok (.iload_n 1, 1) := by decide +kernel
theorem dX0_waitForOne_7 : decode cX0_waitForOne 7 = .ok (.if_icmp .ge 31, 3) := by decide +kernel
theorem dX0_waitForOne_10 : decode cX0_waitForOne 10 = .ok (.aload_n 0, 1) := by decide +kernel
theorem dX0_waitForOne_11 : decode cX0_waitForOne 11 = .ok (.getfield 83, 3) := by decide +kernel
theorem dX0_waitForOne_14 : decode cX0_waitForOne 14 = .ok (.iload_n 3, 1) := by decide +kernel
theorem dX0_waitForOne_15 : decode cX0_waitForOne 15 = .ok (.ishr, 1) := by decide +kernel
theorem dX0_waitForOne_16 : decode cX0_waitForOne 16 = .ok (.iconst 1, 1) := by decide +kernel
theorem dX0_waitForOne_17 : decode cX0_waitForOne 17 = .ok (.iand, 1) := by decide +kernel
theorem dX0_waitForOne_18 : decode cX0_waitForOne 18 = .ok (.ifCond .ne 14, 3) := by decide +kernel
theorem dX0_waitForOne_21 : decode cX0_waitForOne 21 = .ok (.iload_n 2, 1) := by decide +kernel
theorem dX0_waitForOne_22 : decode cX0_waitForOne 22 = .ok (.aload_n 0, 1) := by decide +kernel
theorem dX0_waitForOne_23 : decode cX0_waitForOne 23 = .ok (.getfield 21, 3) := by decide +kernel
theorem dX0_waitForOne_26 : decode cX0_waitForOne 26 = .ok (.iload_n 3, 1) := by decide +kernel
theorem dX0_waitForOne_27 : decode cX0_waitForOne 27 = .ok (.iaload, 1) := by decide +kernel
theorem dX0_waitForOne_28 : decode cX0_waitForOne 28 = .ok (.invokestatic 95, 3) := by decide +kernel
theorem dX0_waitForOne_31 : decode cX0_waitForOne 31 = .ok (.istore_n 2, 1) := by decide +kernel
theorem dX0_waitForOne_32 : decode cX0_waitForOne 32 = .ok (.iinc 3 1, 3) := by decide +kernel
theorem dX0_waitForOne_35 : decode cX0_waitForOne 35 = .ok (.goto (-30), 3) := by decide +kernel
theorem dX0_waitForOne_38 : decode cX0_waitForOne 38 = .ok (.aload_n 0, 1) := by decide +kernel
theorem dX0_waitForOne_39 : decode cX0_waitForOne 39 = .ok (.aload_n 0, 1) := by decide +kernel
theorem dX0_waitForOne_40 : decode cX0_waitForOne 40 = .ok (.getfield 70, 3) := by decide +kernel
theorem dX0_waitForOne_43 : decode cX0_waitForOne 43 = .ok (.iload_n 2, 1) := by decide +kernel
theorem dX0_waitForOne_44 : decode cX0_waitForOne 44 = .ok (.invokestatic 100, 3) := by decide +kernel
theorem dX0_waitForOne_47 : decode cX0_waitForOne 47 = .ok (.putfield 70, 3) := by decide +kernel
theorem dX0_waitForOne_50 : decode cX0_waitForOne 50 = .ok (.return_, 1) := by decide +kernel
theorem dX0_waits_0 : decode cX0_waits 0 = .ok (.aload_n 0, 1) := by decide +kernel
theorem dX0_waits_1 : decode cX0_waits 1 = .ok (.getfield 83, 3) := by decide +kernel
theorem dX0_waits_4 : decode cX0_waits 4 = .ok (.iload_n 1, 1) := by decide +kernel
theorem dX0_waits_5 : decode cX0_waits 5 = .ok (.ishr, 1) := by decide +kernel
theorem dX0_waits_6 : decode cX0_waits 6 = .ok (.iconst 1, 1) := by decide +kernel
theorem dX0_waits_7 : decode cX0_waits 7 = .ok (.iand, 1) := by decide +kernel
theorem dX0_waits_8 : decode cX0_waits 8 = .ok (.ifCond .ne 20, 3) := by decide +kernel
theorem dX0_waits_11 : decode cX0_waits 11 = .ok (.aload_n 0, 1) := by decide +kernel
theorem dX0_waits_12 : decode cX0_waits 12 = .ok (.getfield 21, 3) := by decide +kernel
theorem dX0_waits_15 : decode cX0_waits 15 = .ok (.iload_n 1, 1) := by decide +kernel
theorem dX0_waits_16 : decode cX0_waits 16 = .ok (.iaload, 1) := by decide +kernel
theorem dX0_waits_17 : decode cX0_waits 17 = .ok (.aload_n 0, 1) := by decide +kernel
theorem dX0_waits_18 : decode cX0_waits 18 = .ok (.getfield 70, 3) := by decide +kernel
theorem dX0_waits_21 : decode cX0_waits 21 = .ok (.if_icmp .gt 7, 3) := by decide +kernel
theorem dX0_waits_24 : decode cX0_waits 24 = .ok (.iconst 1, 1) := by decide +kernel
theorem dX0_waits_25 : decode cX0_waits 25 = .ok (.goto 4, 3) := by decide +kernel
theorem dX0_waits_28 : decode cX0_waits 28 = .ok (.iconst 0, 1) := by decide +kernel
theorem dX0_waits_29 : decode cX0_waits 29 = .ok (.ireturn, 1) := by decide +kernel
theorem dX0_chosen_0 : decode cX0_chosen 0 = .ok (.bipush (-4), 2) := by decide +kernel
theorem dX0_chosen_2 : decode cX0_chosen 2 = .ok (.istore 4, 2) := by decide +kernel
theorem dX0_chosen_4 : decode cX0_chosen 4 = .ok (.iconst 0, 1) := by decide +kernel
theorem dX0_chosen_5 : decode cX0_chosen 5 = .ok (.istore 5, 2) := by decide +kernel
theorem dX0_chosen_7 : decode cX0_chosen 7 = .ok (.iconst 0, 1) := by decide +kernel
theorem dX0_chosen_8 : decode cX0_chosen 8 = .ok (.istore 6, 2) := by decide +kernel
theorem dX0_chosen_10 : decode cX0_chosen 10 = .ok (.iload 6, 2) := by decide +kernel
theorem dX0_chosen_12 : decode cX0_chosen 12 = .ok (.aload_n 1, 1) := by decide +kernel
theorem dX0_chosen_13 : decode cX0_chosen 13 = .ok (.getfield 31, 3) := by decide +kernel
theorem dX0_chosen_16 : decode cX0_chosen 16 = .ok (.if_icmp .ge 73, 3) := by decide +kernel
theorem dX0_chosen_19 : decode cX0_chosen 19 = .ok (.aload_n 0, 1) := by decide +kernel
theorem dX0_chosen_20 : decode cX0_chosen 20 = .ok (.iload 6, 2) := by decide +kernel
theorem dX0_chosen_22 : decode cX0_chosen 22 = .ok (.invokevirtual 103, 3) := by decide +kernel
theorem dX0_chosen_25 : decode cX0_chosen 25 = .ok (.ifCond .eq 58, 3) := by decide +kernel
theorem dX0_chosen_28 : decode cX0_chosen 28 = .ok (.aload_n 0, 1) := by decide +kernel
theorem dX0_chosen_29 : decode cX0_chosen 29 = .ok (.aload_n 1, 1) := by decide +kernel
theorem dX0_chosen_30 : decode cX0_chosen 30 = .ok (.iload_n 2, 1) := by decide +kernel
theorem dX0_chosen_31 : decode cX0_chosen 31 = .ok (.iload_n 3, 1) := by decide +kernel
theorem dX0_chosen_32 : decode cX0_chosen 32 = .ok (.iload 6, 2) := by decide +kernel
theorem dX0_chosen_34 : decode cX0_chosen 34 = .ok (.invokevirtual 107, 3) := by decide +kernel
theorem dX0_chosen_37 : decode cX0_chosen 37 = .ok (.istore 7, 2) := by decide +kernel
theorem dX0_chosen_39 : decode cX0_chosen 39 = .ok (.iload 4, 2) := by decide +kernel
theorem dX0_chosen_41 : decode cX0_chosen 41 = .ok (.ifCond .lt 34, 3) := by decide +kernel
theorem dX0_chosen_44 : decode cX0_chosen 44 = .ok (.iload 7, 2) := by decide +kernel
theorem dX0_chosen_46 : decode cX0_chosen 46 = .ok (.iload 5, 2) := by decide +kernel
theorem dX0_chosen_48 : decode cX0_chosen 48 = .ok (.if_icmp .lt 27, 3) := by decide +kernel
theorem dX0_chosen_51 : decode cX0_chosen 51 = .ok (.iload 7, 2) := by decide +kernel
theorem dX0_chosen_53 : decode cX0_chosen 53 = .ok (.iload 5, 2) := by decide +kernel
theorem dX0_chosen_55 : decode cX0_chosen 55 = .ok (.if_icmp .ne 28, 3) := by decide +kernel
theorem dX0_chosen_58 : decode cX0_chosen 58 = .ok (.aload_n 0, 1) := by decide +kernel
theorem dX0_chosen_59 : decode cX0_chosen 59 = .ok (.getfield 21, 3) := by decide +kernel
theorem dX0_chosen_62 : decode cX0_chosen 62 = .ok (.iload 6, 2) := by decide +kernel
theorem dX0_chosen_64 : decode cX0_chosen 64 = .ok (.iaload, 1) := by decide +kernel
theorem dX0_chosen_65 : decode cX0_chosen 65 = .ok (.aload_n 0, 1) := by decide +kernel
theorem dX0_chosen_66 : decode cX0_chosen 66 = .ok (.getfield 21, 3) := by decide +kernel
theorem dX0_chosen_69 : decode cX0_chosen 69 = .ok (.iload 4, 2) := by decide +kernel
theorem dX0_chosen_71 : decode cX0_chosen 71 = .ok (.iaload, 1) := by decide +kernel
theorem dX0_chosen_72 : decode cX0_chosen 72 = .ok (.if_icmp .ge 11, 3) := by decide +kernel
theorem dX0_chosen_75 : decode cX0_chosen 75 = .ok (.iload 6, 2) := by decide +kernel
theorem dX0_chosen_77 : decode cX0_chosen 77 = .ok (.istore 4, 2) := by decide +kernel
theorem dX0_chosen_79 : decode cX0_chosen 79 = .ok (.iload 7, 2) := by decide +kernel
theorem dX0_chosen_81 : decode cX0_chosen 81 = .ok (.istore 5, 2) := by decide +kernel
theorem dX0_chosen_83 : decode cX0_chosen 83 = .ok (.iinc 6 1, 3) := by decide +kernel
theorem dX0_chosen_86 : decode cX0_chosen 86 = .ok (.goto (-76), 3) := by decide +kernel
theorem dX0_chosen_89 : decode cX0_chosen 89 = .ok (.iload 4, 2) := by decide +kernel
theorem dX0_chosen_91 : decode cX0_chosen 91 = .ok (.ireturn, 1) := by decide +kernel
theorem dX0_rank_0 : decode cX0_rank 0 = .ok (.iload_n 2, 1) := by decide +kernel
theorem dX0_rank_1 : decode cX0_rank 1 = .ok (.tableswitch 56 1 4 #[31, 31, 48, 31], 31) := by decide +kernel
theorem dX0_rank_32 : decode cX0_rank 32 = .ok (.aload_n 1, 1) := by decide +kernel
theorem dX0_rank_33 : decode cX0_rank 33 = .ok (.iload 4, 2) := by decide +kernel
theorem dX0_rank_35 : decode cX0_rank 35 = .ok (.iconst 0, 1) := by decide +kernel
theorem dX0_rank_36 : decode cX0_rank 36 = .ok (.invokevirtual 41, 3) := by decide +kernel
theorem dX0_rank_39 : decode cX0_rank 39 = .ok (.iload_n 3, 1) := by decide +kernel
theorem dX0_rank_40 : decode cX0_rank 40 = .ok (.if_icmp .ne 7, 3) := by decide +kernel
theorem dX0_rank_43 : decode cX0_rank 43 = .ok (.iconst 0, 1) := by decide +kernel
theorem dX0_rank_44 : decode cX0_rank 44 = .ok (.goto 4, 3) := by decide +kernel
theorem dX0_rank_47 : decode cX0_rank 47 = .ok (.iconst 1, 1) := by decide +kernel
theorem dX0_rank_48 : decode cX0_rank 48 = .ok (.ireturn, 1) := by decide +kernel
theorem dX0_rank_49 : decode cX0_rank 49 = .ok (.aload_n 0, 1) := by decide +kernel
theorem dX0_rank_50 : decode cX0_rank 50 = .ok (.getfield 24, 3) := by decide +kernel
theorem dX0_rank_53 : decode cX0_rank 53 = .ok (.iload 4, 2) := by decide +kernel
theorem dX0_rank_55 : decode cX0_rank 55 = .ok (.iaload, 1) := by decide +kernel
theorem dX0_rank_56 : decode cX0_rank 56 = .ok (.ireturn, 1) := by decide +kernel
theorem dX0_rank_57 : decode cX0_rank 57 = .ok (.iconst 0, 1) := by decide +kernel
theorem dX0_rank_58 : decode cX0_rank 58 = .ok (.ireturn, 1) := by decide +kernel
theorem dX0_sideAhead_0 : decode cX0_sideAhead 0 = .ok (.iload_n 2, 1) := by decide +kernel
theorem dX0_sideAhead_1 : decode cX0_sideAhead 1 = .ok (.iconst 2, 1) := by decide +kernel
theorem dX0_sideAhead_2 : decode cX0_sideAhead 2 = .ok (.if_icmp .ne 9, 3) := by decide +kernel
theorem dX0_sideAhead_5 : decode cX0_sideAhead 5 = .ok (.aload_n 0, 1) := by decide +kernel
theorem dX0_sideAhead_6 : decode cX0_sideAhead 6 = .ok (.aload_n 1, 1) := by decide +kernel
theorem dX0_sideAhead_7 : decode cX0_sideAhead 7 = .ok (.invokevirtual 111, 3) := by decide +kernel
theorem dX0_sideAhead_10 : decode cX0_sideAhead 10 = .ok (.ireturn, 1) := by decide +kernel
theorem dX0_sideAhead_11 : decode cX0_sideAhead 11 = .ok (.iload_n 2, 1) := by decide +kernel
theorem dX0_sideAhead_12 : decode cX0_sideAhead 12 = .ok (.iconst 4, 1) := by decide +kernel
theorem dX0_sideAhead_13 : decode cX0_sideAhead 13 = .ok (.if_icmp .ne 11, 3) := by decide +kernel
theorem dX0_sideAhead_16 : decode cX0_sideAhead 16 = .ok (.aload_n 0, 1) := by decide +kernel
theorem dX0_sideAhead_17 : decode cX0_sideAhead 17 = .ok (.aload_n 1, 1) := by decide +kernel
theorem dX0_sideAhead_18 : decode cX0_sideAhead 18 = .ok (.invokevirtual 115, 3) := by decide +kernel
theorem dX0_sideAhead_21 : decode cX0_sideAhead 21 = .ok (.goto 7, 3) := by decide +kernel
theorem dX0_sideAhead_24 : decode cX0_sideAhead 24 = .ok (.aload_n 0, 1) := by decide +kernel
theorem dX0_sideAhead_25 : decode cX0_sideAhead 25 = .ok (.getfield 89, 3) := by decide +kernel
theorem dX0_sideAhead_28 : decode cX0_sideAhead 28 = .ok (.ireturn, 1) := by decide +kernel
theorem dX0_sideByTwos_0 : decode cX0_sideByTwos 0 = .ok (.aload_n 0, 1) := by decide +kernel
theorem dX0_sideByTwos_1 : decode cX0_sideByTwos 1 = .ok (.getfield 80, 3) := by decide +kernel
theorem dX0_sideByTwos_4 : decode cX0_sideByTwos 4 = .ok (.iconst 1, 1) := by decide +kernel
theorem dX0_sideByTwos_5 : decode cX0_sideByTwos 5 = .ok (.if_icmp .ge 8, 3) := by decide +kernel
theorem dX0_sideByTwos_8 : decode cX0_sideByTwos 8 = .ok (.aload_n 0, 1) := by decide +kernel
theorem dX0_sideByTwos_9 : decode cX0_sideByTwos 9 = .ok (.getfield 89, 3) := by decide +kernel
theorem dX0_sideByTwos_12 : decode cX0_sideByTwos 12 = .ok (.ireturn, 1) := by decide +kernel
theorem dX0_sideByTwos_13 : decode cX0_sideByTwos 13 = .ok (.aload_n 1, 1) := by decide +kernel
theorem dX0_sideByTwos_14 : decode cX0_sideByTwos 14 = .ok (.aload_n 0, 1) := by decide +kernel
theorem dX0_sideByTwos_15 : decode cX0_sideByTwos 15 = .ok (.getfield 9, 3) := by decide +kernel
theorem dX0_sideByTwos_18 : decode cX0_sideByTwos 18 = .ok (.aload_n 0, 1) := by decide +kernel
theorem dX0_sideByTwos_19 : decode cX0_sideByTwos 19 = .ok (.getfield 80, 3) := by decide +kernel
theorem dX0_sideByTwos_22 : decode cX0_sideByTwos 22 = .ok (.iconst 1, 1) := by decide +kernel
theorem dX0_sideByTwos_23 : decode cX0_sideByTwos 23 = .ok (.isub, 1) := by decide +kernel
theorem dX0_sideByTwos_24 : decode cX0_sideByTwos 24 = .ok (.iaload, 1) := by decide +kernel
theorem dX0_sideByTwos_25 : decode cX0_sideByTwos 25 = .ok (.iconst 0, 1) := by decide +kernel
theorem dX0_sideByTwos_26 : decode cX0_sideByTwos 26 = .ok (.invokevirtual 41, 3) := by decide +kernel
theorem dX0_sideByTwos_29 : decode cX0_sideByTwos 29 = .ok (.istore_n 2, 1) := by decide +kernel
theorem dX0_sideByTwos_30 : decode cX0_sideByTwos 30 = .ok (.aload_n 0, 1) := by decide +kernel
theorem dX0_sideByTwos_31 : decode cX0_sideByTwos 31 = .ok (.getfield 80, 3) := by decide +kernel
theorem dX0_sideByTwos_34 : decode cX0_sideByTwos 34 = .ok (.iconst 2, 1) := by decide +kernel
theorem dX0_sideByTwos_35 : decode cX0_sideByTwos 35 = .ok (.if_icmp .lt 23, 3) := by decide +kernel
theorem dX0_sideByTwos_38 : decode cX0_sideByTwos 38 = .ok (.aload_n 1, 1) := by decide +kernel
theorem dX0_sideByTwos_39 : decode cX0_sideByTwos 39 = .ok (.aload_n 0, 1) := by decide +kernel
theorem dX0_sideByTwos_40 : decode cX0_sideByTwos 40 = .ok (.getfield 9, 3) := by decide +kernel
theorem dX0_sideByTwos_43 : decode cX0_sideByTwos 43 = .ok (.aload_n 0, 1) := by decide +kernel
theorem dX0_sideByTwos_44 : decode cX0_sideByTwos 44 = .ok (.getfield 80, 3) := by decide +kernel
theorem dX0_sideByTwos_47 : decode cX0_sideByTwos 47 = .ok (.iconst 2, 1) := by decide +kernel
theorem dX0_sideByTwos_48 : decode cX0_sideByTwos 48 = .ok (.isub, 1) := by decide +kernel
theorem dX0_sideByTwos_49 : decode cX0_sideByTwos 49 = .ok (.iaload, 1) := by decide +kernel
theorem dX0_sideByTwos_50 : decode cX0_sideByTwos 50 = .ok (.iconst 0, 1) := by decide +kernel
theorem dX0_sideByTwos_51 : decode cX0_sideByTwos 51 = .ok (.invokevirtual 41, 3) := by decide +kernel
theorem dX0_sideByTwos_54 : decode cX0_sideByTwos 54 = .ok (.iload_n 2, 1) := by decide +kernel
theorem dX0_sideByTwos_55 : decode cX0_sideByTwos 55 = .ok (.if_icmp .eq 5, 3) := by decide +kernel
theorem dX0_sideByTwos_58 : decode cX0_sideByTwos 58 = .ok (.iload_n 2, 1) := by decide +kernel
theorem dX0_sideByTwos_59 : decode cX0_sideByTwos 59 = .ok (.ireturn, 1) := by decide +kernel
theorem dX0_sideByTwos_60 : decode cX0_sideByTwos 60 = .ok (.iload_n 2, 1) := by decide +kernel
theorem dX0_sideByTwos_61 : decode cX0_sideByTwos 61 = .ok (.invokestatic 118, 3) := by decide +kernel
theorem dX0_sideByTwos_64 : decode cX0_sideByTwos 64 = .ok (.ireturn, 1) := by decide +kernel
theorem dX0_sideByQueue_0 : decode cX0_sideByQueue 0 = .ok (.iconst 0, 1) := by decide +kernel
theorem dX0_sideByQueue_1 : decode cX0_sideByQueue 1 = .ok (.istore_n 2, 1) := by decide +kernel
theorem dX0_sideByQueue_2 : decode cX0_sideByQueue 2 = .ok (.iconst 0, 1) := by decide +kernel
theorem dX0_sideByQueue_3 : decode cX0_sideByQueue 3 = .ok (.istore_n 3, 1) := by decide +kernel
theorem dX0_sideByQueue_4 : decode cX0_sideByQueue 4 = .ok (.iload_n 3, 1) := by decide +kernel
theorem dX0_sideByQueue_5 : decode cX0_sideByQueue 5 = .ok (.aload_n 1, 1) := by decide +kernel
theorem dX0_sideByQueue_6 : decode cX0_sideByQueue 6 = .ok (.getfield 31, 3) := by decide +kernel
theorem dX0_sideByQueue_9 : decode cX0_sideByQueue 9 = .ok (.if_icmp .ge 35, 3) := by decide +kernel
theorem dX0_sideByQueue_12 : decode cX0_sideByQueue 12 = .ok (.aload_n 0, 1) := by decide +kernel
theorem dX0_sideByQueue_13 : decode cX0_sideByQueue 13 = .ok (.iload_n 3, 1) := by decide +kernel
theorem dX0_sideByQueue_14 : decode cX0_sideByQueue 14 = .ok (.invokevirtual 103, 3) := by decide +kernel
theorem dX0_sideByQueue_17 : decode cX0_sideByQueue 17 = .ok (.ifCond .eq 21, 3) := by decide +kernel
theorem dX0_sideByQueue_20 : decode cX0_sideByQueue 20 = .ok (.iload_n 2, 1) := by decide +kernel
theorem dX0_sideByQueue_21 : decode cX0_sideByQueue 21 = .ok (.aload_n 1, 1) := by decide +kernel
theorem dX0_sideByQueue_22 : decode cX0_sideByQueue 22 = .ok (.iload_n 3, 1) := by decide +kernel
theorem dX0_sideByQueue_23 : decode cX0_sideByQueue 23 = .ok (.iconst 0, 1) := by decide +kernel
theorem dX0_sideByQueue_24 : decode cX0_sideByQueue 24 = .ok (.invokevirtual 41, 3) := by decide +kernel
theorem dX0_sideByQueue_27 : decode cX0_sideByQueue 27 = .ok (.iconst 1, 1) := by decide +kernel
theorem dX0_sideByQueue_28 : decode cX0_sideByQueue 28 = .ok (.if_icmp .ne 7, 3) := by decide +kernel
theorem dX0_sideByQueue_31 : decode cX0_sideByQueue 31 = .ok (.iconst 1, 1) := by decide +kernel
theorem dX0_sideByQueue_32 : decode cX0_sideByQueue 32 = .ok (.goto 4, 3) := by decide +kernel
theorem dX0_sideByQueue_35 : decode cX0_sideByQueue 35 = .ok (.iconst (-1), 1) := by decide +kernel
theorem dX0_sideByQueue_36 : decode cX0_sideByQueue 36 = .ok (.iadd, 1) := by decide +kernel
theorem dX0_sideByQueue_37 : decode cX0_sideByQueue 37 = .ok (.istore_n 2, 1) := by decide +kernel
theorem dX0_sideByQueue_38 : decode cX0_sideByQueue 38 = .ok (.iinc 3 1, 3) := by decide +kernel
theorem dX0_sideByQueue_41 : decode cX0_sideByQueue 41 = .ok (.goto (-37), 3) := by decide +kernel
theorem dX0_sideByQueue_44 : decode cX0_sideByQueue 44 = .ok (.iload_n 2, 1) := by decide +kernel
theorem dX0_sideByQueue_45 : decode cX0_sideByQueue 45 = .ok (.ifCond .ne 8, 3) := by decide +kernel
theorem dX0_sideByQueue_48 : decode cX0_sideByQueue 48 = .ok (.aload_n 0, 1) := by decide +kernel
theorem dX0_sideByQueue_49 : decode cX0_sideByQueue 49 = .ok (.getfield 89, 3) := by decide +kernel
theorem dX0_sideByQueue_52 : decode cX0_sideByQueue 52 = .ok (.ireturn, 1) := by decide +kernel
theorem dX0_sideByQueue_53 : decode cX0_sideByQueue 53 = .ok (.iload_n 2, 1) := by decide +kernel
theorem dX0_sideByQueue_54 : decode cX0_sideByQueue 54 = .ok (.ifCond .le 7, 3) := by decide +kernel
theorem dX0_sideByQueue_57 : decode cX0_sideByQueue 57 = .ok (.iconst 1, 1) := by decide +kernel
theorem dX0_sideByQueue_58 : decode cX0_sideByQueue 58 = .ok (.goto 4, 3) := by decide +kernel
theorem dX0_sideByQueue_61 : decode cX0_sideByQueue 61 = .ok (.iconst 0, 1) := by decide +kernel
theorem dX0_sideByQueue_62 : decode cX0_sideByQueue 62 = .ok (.ireturn, 1) := by decide +kernel
theorem dX0_admit_0 : decode cX0_admit 0 = .ok (.iload_n 2, 1) := by decide +kernel
theorem dX0_admit_1 : decode cX0_admit 1 = .ok (.iconst 0, 1) := by decide +kernel
theorem dX0_admit_2 : decode cX0_admit 2 = .ok (.aload_n 1, 1) := by decide +kernel
theorem dX0_admit_3 : decode cX0_admit 3 = .ok (.getfield 31, 3) := by decide +kernel
theorem dX0_admit_6 : decode cX0_admit 6 = .ok (.iconst 1, 1) := by decide +kernel
theorem dX0_admit_7 : decode cX0_admit 7 = .ok (.isub, 1) := by decide +kernel
theorem dX0_admit_8 : decode cX0_admit 8 = .ok (.invokestatic 121, 3) := by decide +kernel
theorem dX0_admit_11 : decode cX0_admit 11 = .ok (.ifCond .eq 12, 3) := by decide +kernel
theorem dX0_admit_14 : decode cX0_admit 14 = .ok (.aload_n 0, 1) := by decide +kernel
theorem dX0_admit_15 : decode cX0_admit 15 = .ok (.getfield 80, 3) := by decide +kernel
theorem dX0_admit_18 : decode cX0_admit 18 = .ok (.bipush 6, 2) := by decide +kernel
theorem dX0_admit_20 : decode cX0_admit 20 = .ok (.if_icmp .lt 4, 3) := by decide +kernel
theorem dX0_admit_23 : decode cX0_admit 23 = .ok (.return_, 1) := by decide +kernel
theorem dX0_admit_24 : decode cX0_admit 24 = .ok (.aload_n 1, 1) := by decide +kernel
theorem dX0_admit_25 : decode cX0_admit 25 = .ok (.iload_n 2, 1) := by decide +kernel
theorem dX0_admit_26 : decode cX0_admit 26 = .ok (.iconst 0, 1) := by decide +kernel
theorem dX0_admit_27 : decode cX0_admit 27 = .ok (.invokevirtual 41, 3) := by decide +kernel
theorem dX0_admit_30 : decode cX0_admit 30 = .ok (.istore_n 3, 1) := by decide +kernel
theorem dX0_admit_31 : decode cX0_admit 31 = .ok (.aload_n 0, 1) := by decide +kernel
theorem dX0_admit_32 : decode cX0_admit 32 = .ok (.getfield 89, 3) := by decide +kernel
theorem dX0_admit_35 : decode cX0_admit 35 = .ok (.iload_n 3, 1) := by decide +kernel
theorem dX0_admit_36 : decode cX0_admit 36 = .ok (.if_icmp .eq 47, 3) := by decide +kernel
theorem dX0_admit_39 : decode cX0_admit 39 = .ok (.aload_n 0, 1) := by decide +kernel
theorem dX0_admit_40 : decode cX0_admit 40 = .ok (.dup, 1) := by decide +kernel
theorem dX0_admit_41 : decode cX0_admit 41 = .ok (.getfield 70, 3) := by decide +kernel
theorem dX0_admit_44 : decode cX0_admit 44 = .ok (.aload_n 1, 1) := by decide +kernel
theorem dX0_admit_45 : decode cX0_admit 45 = .ok (.getfield 86, 3) := by decide +kernel
theorem dX0_admit_48 : decode cX0_admit 48 = .ok (.iconst 1, 1) := by decide +kernel
theorem dX0_admit_49 : decode cX0_admit 49 = .ok (.iaload, 1) := by decide +kernel
theorem dX0_admit_50 : decode cX0_admit 50 = .ok (.iadd, 1) := by decide +kernel
theorem dX0_admit_51 : decode cX0_admit 51 = .ok (.putfield 70, 3) := by decide +kernel
theorem dX0_admit_54 : decode cX0_admit 54 = .ok (.aload_n 0, 1) := by decide +kernel
theorem dX0_admit_55 : decode cX0_admit 55 = .ok (.dup, 1) := by decide +kernel
theorem dX0_admit_56 : decode cX0_admit 56 = .ok (.getfield 73, 3) := by decide +kernel
theorem dX0_admit_59 : decode cX0_admit 59 = .ok (.iconst 1, 1) := by decide +kernel
theorem dX0_admit_60 : decode cX0_admit 60 = .ok (.iadd, 1) := by decide +kernel
theorem dX0_admit_61 : decode cX0_admit 61 = .ok (.putfield 73, 3) := by decide +kernel
theorem dX0_admit_64 : decode cX0_admit 64 = .ok (.aload_n 0, 1) := by decide +kernel
theorem dX0_admit_65 : decode cX0_admit 65 = .ok (.dup, 1) := by decide +kernel
theorem dX0_admit_66 : decode cX0_admit 66 = .ok (.getfield 67, 3) := by decide +kernel
theorem dX0_admit_69 : decode cX0_admit 69 = .ok (.iload_n 3, 1) := by decide +kernel
theorem dX0_admit_70 : decode cX0_admit 70 = .ok (.iconst 1, 1) := by decide +kernel
theorem dX0_admit_71 : decode cX0_admit 71 = .ok (.if_icmp .ne 7, 3) := by decide +kernel
theorem dX0_admit_74 : decode cX0_admit 74 = .ok (.iconst 1, 1) := by decide +kernel
theorem dX0_admit_75 : decode cX0_admit 75 = .ok (.goto 4, 3) := by decide +kernel
theorem dX0_admit_78 : decode cX0_admit 78 = .ok (.iconst 0, 1) := by decide +kernel
theorem dX0_admit_79 : decode cX0_admit 79 = .ok (.iadd, 1) := by decide +kernel
theorem dX0_admit_80 : decode cX0_admit 80 = .ok (.putfield 67, 3) := by decide +kernel
theorem dX0_admit_83 : decode cX0_admit 83 = .ok (.aload_n 0, 1) := by decide +kernel
theorem dX0_admit_84 : decode cX0_admit 84 = .ok (.dup, 1) := by decide +kernel
theorem dX0_admit_85 : decode cX0_admit 85 = .ok (.getfield 67, 3) := by decide +kernel
theorem dX0_admit_88 : decode cX0_admit 88 = .ok (.iload_n 3, 1) := by decide +kernel
theorem dX0_admit_89 : decode cX0_admit 89 = .ok (.ifCond .ne 7, 3) := by decide +kernel
theorem dX0_admit_92 : decode cX0_admit 92 = .ok (.iconst 1, 1) := by decide +kernel
theorem dX0_admit_93 : decode cX0_admit 93 = .ok (.goto 4, 3) := by decide +kernel
theorem dX0_admit_96 : decode cX0_admit 96 = .ok (.iconst 0, 1) := by decide +kernel
theorem dX0_admit_97 : decode cX0_admit 97 = .ok (.iadd, 1) := by decide +kernel
theorem dX0_admit_98 : decode cX0_admit 98 = .ok (.putfield 67, 3) := by decide +kernel
theorem dX0_admit_101 : decode cX0_admit 101 = .ok (.aload_n 1, 1) := by decide +kernel
theorem dX0_admit_102 : decode cX0_admit 102 = .ok (.iload_n 2, 1) := by decide +kernel
theorem dX0_admit_103 : decode cX0_admit 103 = .ok (.iconst 2, 1) := by decide +kernel
theorem dX0_admit_104 : decode cX0_admit 104 = .ok (.invokevirtual 41, 3) := by decide +kernel
theorem dX0_admit_107 : decode cX0_admit 107 = .ok (.istore 4, 2) := by decide +kernel
theorem dX0_admit_109 : decode cX0_admit 109 = .ok (.aload_n 0, 1) := by decide +kernel
theorem dX0_admit_110 : decode cX0_admit 110 = .ok (.getfield 70, 3) := by decide +kernel
theorem dX0_admit_113 : decode cX0_admit 113 = .ok (.iload 4, 2) := by decide +kernel
theorem dX0_admit_115 : decode cX0_admit 115 = .ok (.invokestatic 100, 3) := by decide +kernel
theorem dX0_admit_118 : decode cX0_admit 118 = .ok (.istore 5, 2) := by decide +kernel
theorem dX0_admit_120 : decode cX0_admit 120 = .ok (.aload_n 0, 1) := by decide +kernel
theorem dX0_admit_121 : decode cX0_admit 121 = .ok (.iload 5, 2) := by decide +kernel
theorem dX0_admit_123 : decode cX0_admit 123 = .ok (.aload_n 1, 1) := by decide +kernel
theorem dX0_admit_124 : decode cX0_admit 124 = .ok (.getfield 86, 3) := by decide +kernel
theorem dX0_admit_127 : decode cX0_admit 127 = .ok (.iconst 0, 1) := by decide +kernel
theorem dX0_admit_128 : decode cX0_admit 128 = .ok (.iaload, 1) := by decide +kernel
theorem dX0_admit_129 : decode cX0_admit 129 = .ok (.iadd, 1) := by decide +kernel
theorem dX0_admit_130 : decode cX0_admit 130 = .ok (.putfield 70, 3) := by decide +kernel
theorem dX0_admit_133 : decode cX0_admit 133 = .ok (.aload_n 0, 1) := by decide +kernel
theorem dX0_admit_134 : decode cX0_admit 134 = .ok (.iload_n 3, 1) := by decide +kernel
theorem dX0_admit_135 : decode cX0_admit 135 = .ok (.invokestatic 118, 3) := by decide +kernel
theorem dX0_admit_138 : decode cX0_admit 138 = .ok (.putfield 89, 3) := by decide +kernel
theorem dX0_admit_141 : decode cX0_admit 141 = .ok (.aload_n 0, 1) := by decide +kernel
theorem dX0_admit_142 : decode cX0_admit 142 = .ok (.getfield 18, 3) := by decide +kernel
theorem dX0_admit_145 : decode cX0_admit 145 = .ok (.iload_n 2, 1) := by decide +kernel
theorem dX0_admit_146 : decode cX0_admit 146 = .ok (.iload 5, 2) := by decide +kernel
theorem dX0_admit_148 : decode cX0_admit 148 = .ok (.iload 4, 2) := by decide +kernel
theorem dX0_admit_150 : decode cX0_admit 150 = .ok (.isub, 1) := by decide +kernel
theorem dX0_admit_151 : decode cX0_admit 151 = .ok (.iastore, 1) := by decide +kernel
theorem dX0_admit_152 : decode cX0_admit 152 = .ok (.aload_n 0, 1) := by decide +kernel
theorem dX0_admit_153 : decode cX0_admit 153 = .ok (.getfield 15, 3) := by decide +kernel
theorem dX0_admit_156 : decode cX0_admit 156 = .ok (.iload_n 2, 1) := by decide +kernel
theorem dX0_admit_157 : decode cX0_admit 157 = .ok (.aload_n 0, 1) := by decide +kernel
theorem dX0_admit_158 : decode cX0_admit 158 = .ok (.getfield 70, 3) := by decide +kernel
theorem dX0_admit_161 : decode cX0_admit 161 = .ok (.iastore, 1) := by decide +kernel
theorem dX0_admit_162 : decode cX0_admit 162 = .ok (.aload_n 0, 1) := by decide +kernel
theorem dX0_admit_163 : decode cX0_admit 163 = .ok (.getfield 9, 3) := by decide +kernel
theorem dX0_admit_166 : decode cX0_admit 166 = .ok (.aload_n 0, 1) := by decide +kernel
theorem dX0_admit_167 : decode cX0_admit 167 = .ok (.getfield 80, 3) := by decide +kernel
theorem dX0_admit_170 : decode cX0_admit 170 = .ok (.iload_n 2, 1) := by decide +kernel
theorem dX0_admit_171 : decode cX0_admit 171 = .ok (.iastore, 1) := by decide +kernel
theorem dX0_admit_172 : decode cX0_admit 172 = .ok (.aload_n 0, 1) := by decide +kernel
theorem dX0_admit_173 : decode cX0_admit 173 = .ok (.dup, 1) := by decide +kernel
theorem dX0_admit_174 : decode cX0_admit 174 = .ok (.getfield 80, 3) := by decide +kernel
theorem dX0_admit_177 : decode cX0_admit 177 = .ok (.iconst 1, 1) := by decide +kernel
theorem dX0_admit_178 : decode cX0_admit 178 = .ok (.iadd, 1) := by decide +kernel
theorem dX0_admit_179 : decode cX0_admit 179 = .ok (.putfield 80, 3) := by decide +kernel
theorem dX0_admit_182 : decode cX0_admit 182 = .ok (.aload_n 0, 1) := by decide +kernel
theorem dX0_admit_183 : decode cX0_admit 183 = .ok (.dup, 1) := by decide +kernel
theorem dX0_admit_184 : decode cX0_admit 184 = .ok (.getfield 83, 3) := by decide +kernel
theorem dX0_admit_187 : decode cX0_admit 187 = .ok (.iconst 1, 1) := by decide +kernel
theorem dX0_admit_188 : decode cX0_admit 188 = .ok (.iload_n 2, 1) := by decide +kernel
theorem dX0_admit_189 : decode cX0_admit 189 = .ok (.ishl, 1) := by decide +kernel
theorem dX0_admit_190 : decode cX0_admit 190 = .ok (.ior, 1) := by decide +kernel
theorem dX0_admit_191 : decode cX0_admit 191 = .ok (.putfield 83, 3) := by decide +kernel
theorem dX0_admit_194 : decode cX0_admit 194 = .ok (.aload_n 0, 1) := by decide +kernel
theorem dX0_admit_195 : decode cX0_admit 195 = .ok (.aload_n 0, 1) := by decide +kernel
theorem dX0_admit_196 : decode cX0_admit 196 = .ok (.getfield 64, 3) := by decide +kernel
theorem dX0_admit_199 : decode cX0_admit 199 = .ok (.aload_n 0, 1) := by decide +kernel
theorem dX0_admit_200 : decode cX0_admit 200 = .ok (.getfield 18, 3) := by decide +kernel
theorem dX0_admit_203 : decode cX0_admit 203 = .ok (.iload_n 2, 1) := by decide +kernel
theorem dX0_admit_204 : decode cX0_admit 204 = .ok (.iaload, 1) := by decide +kernel
theorem dX0_admit_205 : decode cX0_admit 205 = .ok (.invokestatic 100, 3) := by decide +kernel
theorem dX0_admit_208 : decode cX0_admit 208 = .ok (.putfield 64, 3) := by decide +kernel
theorem dX0_admit_211 : decode cX0_admit 211 = .ok (.aload_n 0, 1) := by decide +kernel
theorem dX0_admit_212 : decode cX0_admit 212 = .ok (.dup, 1) := by decide +kernel
theorem dX0_admit_213 : decode cX0_admit 213 = .ok (.getfield 61, 3) := by decide +kernel
theorem dX0_admit_216 : decode cX0_admit 216 = .ok (.aload_n 0, 1) := by decide +kernel
theorem dX0_admit_217 : decode cX0_admit 217 = .ok (.aload_n 1, 1) := by decide +kernel
theorem dX0_admit_218 : decode cX0_admit 218 = .ok (.iload_n 2, 1) := by decide +kernel
theorem dX0_admit_219 : decode cX0_admit 219 = .ok (.invokevirtual 125, 3) := by decide +kernel
theorem dX0_admit_222 : decode cX0_admit 222 = .ok (.iadd, 1) := by decide +kernel
theorem dX0_admit_223 : decode cX0_admit 223 = .ok (.putfield 61, 3) := by decide +kernel
theorem dX0_admit_226 : decode cX0_admit 226 = .ok (.return_, 1) := by decide +kernel
theorem dX1_init_0 : decode cX1_init 0 = .ok (.aload_n 0, 1) := by decide +kernel
theorem dX1_init_1 : decode cX1_init 1 = .ok (.invokespecial 3, 3) := by decide +kernel
theorem dX1_init_4 : decode cX1_init 4 = .ok (.aload_n 0, 1) := by decide +kernel
theorem dX1_init_5 : decode cX1_init 5 = .ok (.getstatic 9, 3) := by decide +kernel
theorem dX1_init_8 : decode cX1_init 8 = .ok (.invokevirtual 13, 3) := by decide +kernel
theorem dX1_init_11 : decode cX1_init 11 = .ok (.checkcast 14, 3) := by decide +kernel
theorem dX1_init_14 : decode cX1_init 14 = .ok (.putfield 18, 3) := by decide +kernel
theorem dX1_init_17 : decode cX1_init 17 = .ok (.aload_n 0, 1) := by decide +kernel
theorem dX1_init_18 : decode cX1_init 18 = .ok (.bipush 30, 2) := by decide +kernel
theorem dX1_init_20 : decode cX1_init 20 = .ok (.newarray .int, 2) := by decide +kernel
theorem dX1_init_22 : decode cX1_init 22 = .ok (.putfield 23, 3) := by decide +kernel
theorem dX1_init_25 : decode cX1_init 25 = .ok (.aload_n 0, 1) := by decide +kernel
theorem dX1_init_26 : decode cX1_init 26 = .ok (.bipush 6, 2) := by decide +kernel
theorem dX1_init_28 : decode cX1_init 28 = .ok (.newarray .int, 2) := by decide +kernel
theorem dX1_init_30 : decode cX1_init 30 = .ok (.putfield 26, 3) := by decide +kernel
theorem dX1_init_33 : decode cX1_init 33 = .ok (.aload_n 0, 1) := by decide +kernel
theorem dX1_init_34 : decode cX1_init 34 = .ok (.bipush 6, 2) := by decide +kernel
theorem dX1_init_36 : decode cX1_init 36 = .ok (.newarray .int, 2) := by decide +kernel
theorem dX1_init_38 : decode cX1_init 38 = .ok (.putfield 29, 3) := by decide +kernel
theorem dX1_init_41 : decode cX1_init 41 = .ok (.return_, 1) := by decide +kernel
theorem dX1_clear_0 : decode cX1_clear 0 = .ok (.getstatic 9, 3) := by decide +kernel
theorem dX1_clear_3 : decode cX1_clear 3 = .ok (.iconst 0, 1) := by decide +kernel
theorem dX1_clear_4 : decode cX1_clear 4 = .ok (.aload_n 0, 1) := by decide +kernel
theorem dX1_clear_5 : decode cX1_clear 5 = .ok (.getfield 18, 3) := by decide +kernel
theorem dX1_clear_8 : decode cX1_clear 8 = .ok (.iconst 0, 1) := by decide +kernel
theorem dX1_clear_9 : decode cX1_clear 9 = .ok (.bipush 6, 2) := by decide +kernel
theorem dX1_clear_11 : decode cX1_clear 11 = .ok (.invokestatic 32, 3) := by decide +kernel
theorem dX1_clear_14 : decode cX1_clear 14 = .ok (.aload_n 0, 1) := by decide +kernel
theorem dX1_clear_15 : decode cX1_clear 15 = .ok (.iconst 0, 1) := by decide +kernel
theorem dX1_clear_16 : decode cX1_clear 16 = .ok (.putfield 38, 3) := by decide +kernel
theorem dX1_clear_19 : decode cX1_clear 19 = .ok (.aload_n 0, 1) := by decide +kernel
theorem dX1_clear_20 : decode cX1_clear 20 = .ok (.iconst 0, 1) := by decide +kernel
theorem dX1_clear_21 : decode cX1_clear 21 = .ok (.putfield 42, 3) := by decide +kernel
theorem dX1_clear_24 : decode cX1_clear 24 = .ok (.aload_n 0, 1) := by decide +kernel
theorem dX1_clear_25 : decode cX1_clear 25 = .ok (.iconst 0, 1) := by decide +kernel
theorem dX1_clear_26 : decode cX1_clear 26 = .ok (.putfield 45, 3) := by decide +kernel
theorem dX1_clear_29 : decode cX1_clear 29 = .ok (.return_, 1) := by decide +kernel
theorem dX1_copyFrom_0 : decode cX1_copyFrom 0 = .ok (.aload_n 1, 1) := by decide +kernel
theorem dX1_copyFrom_1 : decode cX1_copyFrom 1 = .ok (.getfield 18, 3) := by decide +kernel
theorem dX1_copyFrom_4 : decode cX1_copyFrom 4 = .ok (.iconst 0, 1) := by decide +kernel
theorem dX1_copyFrom_5 : decode cX1_copyFrom 5 = .ok (.aload_n 0, 1) := by decide +kernel
theorem dX1_copyFrom_6 : decode cX1_copyFrom 6 = .ok (.getfield 18, 3) := by decide +kernel
theorem dX1_copyFrom_9 : decode cX1_copyFrom 9 = .ok (.iconst 0, 1) := by decide +kernel
theorem dX1_copyFrom_10 : decode cX1_copyFrom 10 = .ok (.bipush 6, 2) := by decide +kernel
theorem dX1_copyFrom_12 : decode cX1_copyFrom 12 = .ok (.invokestatic 32, 3) := by decide +kernel
theorem dX1_copyFrom_15 : decode cX1_copyFrom 15 = .ok (.aload_n 1, 1) := by decide +kernel
theorem dX1_copyFrom_16 : decode cX1_copyFrom 16 = .ok (.getfield 23, 3) := by decide +kernel
theorem dX1_copyFrom_19 : decode cX1_copyFrom 19 = .ok (.iconst 0, 1) := by decide +kernel
theorem dX1_copyFrom_20 : decode cX1_copyFrom 20 = .ok (.aload_n 0, 1) := by decide +kernel
theorem dX1_copyFrom_21 : decode cX1_copyFrom 21 = .ok (.getfield 23, 3) := by decide +kernel
theorem dX1_copyFrom_24 : decode cX1_copyFrom 24 = .ok (.iconst 0, 1) := by decide +kernel
theorem dX1_copyFrom_25 : decode cX1_copyFrom 25 = .ok (.bipush 30, 2) := by decide +kernel
theorem dX1_copyFrom_27 : decode cX1_copyFrom 27 = .ok (.invokestatic 32, 3) := by decide +kernel
theorem dX1_copyFrom_30 : decode cX1_copyFrom 30 = .ok (.aload_n 1, 1) := by decide +kernel
theorem dX1_copyFrom_31 : decode cX1_copyFrom 31 = .ok (.getfield 26, 3) := by decide +kernel
theorem dX1_copyFrom_34 : decode cX1_copyFrom 34 = .ok (.iconst 0, 1) := by decide +kernel
theorem dX1_copyFrom_35 : decode cX1_copyFrom 35 = .ok (.aload_n 0, 1) := by decide +kernel
theorem dX1_copyFrom_36 : decode cX1_copyFrom 36 = .ok (.getfield 26, 3) := by decide +kernel
theorem dX1_copyFrom_39 : decode cX1_copyFrom 39 = .ok (.iconst 0, 1) := by decide +kernel
theorem dX1_copyFrom_40 : decode cX1_copyFrom 40 = .ok (.bipush 6, 2) := by decide +kernel
theorem dX1_copyFrom_42 : decode cX1_copyFrom 42 = .ok (.invokestatic 32, 3) := by decide +kernel
theorem dX1_copyFrom_45 : decode cX1_copyFrom 45 = .ok (.aload_n 1, 1) := by decide +kernel
theorem dX1_copyFrom_46 : decode cX1_copyFrom 46 = .ok (.getfield 29, 3) := by decide +kernel
theorem dX1_copyFrom_49 : decode cX1_copyFrom 49 = .ok (.iconst 0, 1) := by decide +kernel
theorem dX1_copyFrom_50 : decode cX1_copyFrom 50 = .ok (.aload_n 0, 1) := by decide +kernel
theorem dX1_copyFrom_51 : decode cX1_copyFrom 51 = .ok (.getfield 29, 3) := by decide +kernel
theorem dX1_copyFrom_54 : decode cX1_copyFrom 54 = .ok (.iconst 0, 1) := by decide +kernel
theorem dX1_copyFrom_55 : decode cX1_copyFrom 55 = .ok (.bipush 6, 2) := by decide +kernel
theorem dX1_copyFrom_57 : decode cX1_copyFrom 57 = .ok (.invokestatic 32, 3) := by decide +kernel
theorem dX1_copyFrom_60 : decode cX1_copyFrom 60 = .ok (.aload_n 0, 1) := by decide +kernel
theorem dX1_copyFrom_61 : decode cX1_copyFrom 61 = .ok (.aload_n 1, 1) := by decide +kernel
theorem dX1_copyFrom_62 : decode cX1_copyFrom 62 = .ok (.getfield 38, 3) := by decide +kernel
theorem dX1_copyFrom_65 : decode cX1_copyFrom 65 = .ok (.putfield 38, 3) := by decide +kernel
theorem dX1_copyFrom_68 : decode cX1_copyFrom 68 = .ok (.aload_n 0, 1) := by decide +kernel
theorem dX1_copyFrom_69 : decode cX1_copyFrom 69 = .ok (.aload_n 1, 1) := by decide +kernel
theorem dX1_copyFrom_70 : decode cX1_copyFrom 70 = .ok (.getfield 42, 3) := by decide +kernel
theorem dX1_copyFrom_73 : decode cX1_copyFrom 73 = .ok (.putfield 42, 3) := by decide +kernel
theorem dX1_copyFrom_76 : decode cX1_copyFrom 76 = .ok (.aload_n 0, 1) := by decide +kernel
theorem dX1_copyFrom_77 : decode cX1_copyFrom 77 = .ok (.aload_n 1, 1) := by decide +kernel
theorem dX1_copyFrom_78 : decode cX1_copyFrom 78 = .ok (.getfield 45, 3) := by decide +kernel
theorem dX1_copyFrom_81 : decode cX1_copyFrom 81 = .ok (.putfield 45, 3) := by decide +kernel
theorem dX1_copyFrom_84 : decode cX1_copyFrom 84 = .ok (.return_, 1) := by decide +kernel
theorem dX1_mark_0 : decode cX1_mark 0 = .ok (.aload_n 0, 1) := by decide +kernel
theorem dX1_mark_1 : decode cX1_mark 1 = .ok (.getfield 23, 3) := by decide +kernel
theorem dX1_mark_4 : decode cX1_mark 4 = .ok (.iload_n 1, 1) := by decide +kernel
theorem dX1_mark_5 : decode cX1_mark 5 = .ok (.iconst 5, 1) := by decide +kernel
theorem dX1_mark_6 : decode cX1_mark 6 = .ok (.imul, 1) := by decide +kernel
theorem dX1_mark_7 : decode cX1_mark 7 = .ok (.iload_n 2, 1) := by decide +kernel
theorem dX1_mark_8 : decode cX1_mark 8 = .ok (.iadd, 1) := by decide +kernel
theorem dX1_mark_9 : decode cX1_mark 9 = .ok (.iaload, 1) := by decide +kernel
theorem dX1_mark_10 : decode cX1_mark 10 = .ok (.ireturn, 1) := by decide +kernel
theorem dX1_setMark_0 : decode cX1_setMark 0 = .ok (.aload_n 0, 1) := by decide +kernel
theorem dX1_setMark_1 : decode cX1_setMark 1 = .ok (.getfield 23, 3) := by decide +kernel
theorem dX1_setMark_4 : decode cX1_setMark 4 = .ok (.iload_n 1, 1) := by decide +kernel
theorem dX1_setMark_5 : decode cX1_setMark 5 = .ok (.iconst 5, 1) := by decide +kernel
theorem dX1_setMark_6 : decode cX1_setMark 6 = .ok (.imul, 1) := by decide +kernel
theorem dX1_setMark_7 : decode cX1_setMark 7 = .ok (.iload_n 2, 1) := by decide +kernel
theorem dX1_setMark_8 : decode cX1_setMark 8 = .ok (.iadd, 1) := by decide +kernel
theorem dX1_setMark_9 : decode cX1_setMark 9 = .ok (.iload_n 3, 1) := by decide +kernel
theorem dX1_setMark_10 : decode cX1_setMark 10 = .ok (.iastore, 1) := by decide +kernel
theorem dX1_setMark_11 : decode cX1_setMark 11 = .ok (.return_, 1) := by decide +kernel
theorem dX1_countsFrom_0 : decode cX1_countsFrom 0 = .ok (.aload_n 0, 1) := by decide +kernel
theorem dX1_countsFrom_1 : decode cX1_countsFrom 1 = .ok (.getfield 18, 3) := by decide +kernel
theorem dX1_countsFrom_4 : decode cX1_countsFrom 4 = .ok (.iconst 4, 1) := by decide +kernel
theorem dX1_countsFrom_5 : decode cX1_countsFrom 5 = .ok (.iaload, 1) := by decide +kernel
theorem dX1_countsFrom_6 : decode cX1_countsFrom 6 = .ok (.istore_n 2, 1) := by decide +kernel
theorem dX1_countsFrom_7 : decode cX1_countsFrom 7 = .ok (.aload_n 0, 1) := by decide +kernel
theorem dX1_countsFrom_8 : decode cX1_countsFrom 8 = .ok (.getfield 18, 3) := by decide +kernel
theorem dX1_countsFrom_11 : decode cX1_countsFrom 11 = .ok (.iconst 5, 1) := by decide +kernel
theorem dX1_countsFrom_12 : decode cX1_countsFrom 12 = .ok (.iaload, 1) := by decide +kernel
theorem dX1_countsFrom_13 : decode cX1_countsFrom 13 = .ok (.iconst 1, 1) := by decide +kernel
theorem dX1_countsFrom_14 : decode cX1_countsFrom 14 = .ok (.if_icmp .ne 14, 3) := by decide +kernel
theorem dX1_countsFrom_17 : decode cX1_countsFrom 17 = .ok (.iload_n 2, 1) := by decide +kernel
theorem dX1_countsFrom_18 : decode cX1_countsFrom 18 = .ok (.aload_n 0, 1) := by decide +kernel
theorem dX1_countsFrom_19 : decode cX1_countsFrom 19 = .ok (.iload_n 1, 1) := by decide +kernel
theorem dX1_countsFrom_20 : decode cX1_countsFrom 20 = .ok (.iconst 4, 1) := by decide +kernel
theorem dX1_countsFrom_21 : decode cX1_countsFrom 21 = .ok (.invokevirtual 48, 3) := by decide +kernel
theorem dX1_countsFrom_24 : decode cX1_countsFrom 24 = .ok (.invokestatic 52, 3) := by decide +kernel
theorem dX1_countsFrom_27 : decode cX1_countsFrom 27 = .ok (.istore_n 2, 1) := by decide +kernel
theorem dX1_countsFrom_28 : decode cX1_countsFrom 28 = .ok (.iconst 0, 1) := by decide +kernel
theorem dX1_countsFrom_29 : decode cX1_countsFrom 29 = .ok (.aload_n 0, 1) := by decide +kernel
theorem dX1_countsFrom_30 : decode cX1_countsFrom 30 = .ok (.iload_n 1, 1) := by decide +kernel
theorem dX1_countsFrom_31 : decode cX1_countsFrom 31 = .ok (.iconst 2, 1) := by decide +kernel
theorem dX1_countsFrom_32 : decode cX1_countsFrom 32 = .ok (.invokevirtual 48, 3) := by decide +kernel
theorem dX1_countsFrom_35 : decode cX1_countsFrom 35 = .ok (.iload_n 2, 1) := by decide +kernel
theorem dX1_countsFrom_36 : decode cX1_countsFrom 36 = .ok (.isub, 1) := by decide +kernel
theorem dX1_countsFrom_37 : decode cX1_countsFrom 37 = .ok (.invokestatic 52, 3) := by decide +kernel
theorem dX1_countsFrom_40 : decode cX1_countsFrom 40 = .ok (.ireturn, 1) := by decide +kernel
theorem dX1_boatsFrom_0 : decode cX1_boatsFrom 0 = .ok (.iconst 0, 1) := by decide +kernel
theorem dX1_boatsFrom_1 : decode cX1_boatsFrom 1 = .ok (.istore_n 2, 1) := by decide +kernel
theorem dX1_boatsFrom_2 : decode cX1_boatsFrom 2 = .ok (.iconst 0, 1) := by decide +kernel
theorem dX1_boatsFrom_3 : decode cX1_boatsFrom 3 = .ok (.istore_n 3, 1) := by decide +kernel
theorem dX1_boatsFrom_4 : decode cX1_boatsFrom 4 = .ok (.iload_n 3, 1) := by decide +kernel
theorem dX1_boatsFrom_5 : decode cX1_boatsFrom 5 = .ok (.aload_n 0, 1) := by decide +kernel
theorem dX1_boatsFrom_6 : decode cX1_boatsFrom 6 = .ok (.getfield 38, 3) := by decide +kernel
theorem dX1_boatsFrom_9 : decode cX1_boatsFrom 9 = .ok (.if_icmp .ge 27, 3) := by decide +kernel
theorem dX1_boatsFrom_12 : decode cX1_boatsFrom 12 = .ok (.iload_n 2, 1) := by decide +kernel
theorem dX1_boatsFrom_13 : decode cX1_boatsFrom 13 = .ok (.aload_n 0, 1) := by decide +kernel
theorem dX1_boatsFrom_14 : decode cX1_boatsFrom 14 = .ok (.iload_n 3, 1) := by decide +kernel
theorem dX1_boatsFrom_15 : decode cX1_boatsFrom 15 = .ok (.iconst 0, 1) := by decide +kernel
theorem dX1_boatsFrom_16 : decode cX1_boatsFrom 16 = .ok (.invokevirtual 48, 3) := by decide +kernel
theorem dX1_boatsFrom_19 : decode cX1_boatsFrom 19 = .ok (.iload_n 1, 1) := by decide +kernel
theorem dX1_boatsFrom_20 : decode cX1_boatsFrom 20 = .ok (.if_icmp .ne 7, 3) := by decide +kernel
theorem dX1_boatsFrom_23 : decode cX1_boatsFrom 23 = .ok (.iconst 1, 1) := by decide +kernel
theorem dX1_boatsFrom_24 : decode cX1_boatsFrom 24 = .ok (.goto 4, 3) := by decide +kernel
theorem dX1_boatsFrom_27 : decode cX1_boatsFrom 27 = .ok (.iconst 0, 1) := by decide +kernel
theorem dX1_boatsFrom_28 : decode cX1_boatsFrom 28 = .ok (.iadd, 1) := by decide +kernel
theorem dX1_boatsFrom_29 : decode cX1_boatsFrom 29 = .ok (.istore_n 2, 1) := by decide +kernel
theorem dX1_boatsFrom_30 : decode cX1_boatsFrom 30 = .ok (.iinc 3 1, 3) := by decide +kernel
theorem dX1_boatsFrom_33 : decode cX1_boatsFrom 33 = .ok (.goto (-29), 3) := by decide +kernel
theorem dX1_boatsFrom_36 : decode cX1_boatsFrom 36 = .ok (.iload_n 2, 1) := by decide +kernel
theorem dX1_boatsFrom_37 : decode cX1_boatsFrom 37 = .ok (.ireturn, 1) := by decide +kernel
theorem dX1_addSeen_0 : decode cX1_addSeen 0 = .ok (.aload_n 0, 1) := by decide +kernel
theorem dX1_addSeen_1 : decode cX1_addSeen 1 = .ok (.getfield 45, 3) := by decide +kernel
theorem dX1_addSeen_4 : decode cX1_addSeen 4 = .ok (.bipush 6, 2) := by decide +kernel
theorem dX1_addSeen_6 : decode cX1_addSeen 6 = .ok (.if_icmp .lt 5, 3) := by decide +kernel
theorem dX1_addSeen_9 : decode cX1_addSeen 9 = .ok (.iconst 0, 1) := by decide +kernel
theorem dX1_addSeen_10 : decode cX1_addSeen 10 = .ok (.ireturn, 1) := by decide +kernel
theorem dX1_addSeen_11 : decode cX1_addSeen 11 = .ok (.aload_n 0, 1) := by decide +kernel
theorem dX1_addSeen_12 : decode cX1_addSeen 12 = .ok (.getfield 26, 3) := by decide +kernel
theorem dX1_addSeen_15 : decode cX1_addSeen 15 = .ok (.aload_n 0, 1) := by decide +kernel
theorem dX1_addSeen_16 : decode cX1_addSeen 16 = .ok (.getfield 45, 3) := by decide +kernel
theorem dX1_addSeen_19 : decode cX1_addSeen 19 = .ok (.iload_n 1, 1) := by decide +kernel
theorem dX1_addSeen_20 : decode cX1_addSeen 20 = .ok (.iastore, 1) := by decide +kernel
theorem dX1_addSeen_21 : decode cX1_addSeen 21 = .ok (.aload_n 0, 1) := by decide +kernel
theorem dX1_addSeen_22 : decode cX1_addSeen 22 = .ok (.getfield 29, 3) := by decide +kernel
theorem dX1_addSeen_25 : decode cX1_addSeen 25 = .ok (.aload_n 0, 1) := by decide +kernel
theorem dX1_addSeen_26 : decode cX1_addSeen 26 = .ok (.getfield 45, 3) := by decide +kernel
theorem dX1_addSeen_29 : decode cX1_addSeen 29 = .ok (.iload_n 2, 1) := by decide +kernel
theorem dX1_addSeen_30 : decode cX1_addSeen 30 = .ok (.iastore, 1) := by decide +kernel
theorem dX1_addSeen_31 : decode cX1_addSeen 31 = .ok (.aload_n 0, 1) := by decide +kernel
theorem dX1_addSeen_32 : decode cX1_addSeen 32 = .ok (.dup, 1) := by decide +kernel
theorem dX1_addSeen_33 : decode cX1_addSeen 33 = .ok (.getfield 45, 3) := by decide +kernel
theorem dX1_addSeen_36 : decode cX1_addSeen 36 = .ok (.iconst 1, 1) := by decide +kernel
theorem dX1_addSeen_37 : decode cX1_addSeen 37 = .ok (.iadd, 1) := by decide +kernel
theorem dX1_addSeen_38 : decode cX1_addSeen 38 = .ok (.putfield 45, 3) := by decide +kernel
theorem dX1_addSeen_41 : decode cX1_addSeen 41 = .ok (.iconst 1, 1) := by decide +kernel
theorem dX1_addSeen_42 : decode cX1_addSeen 42 = .ok (.ireturn, 1) := by decide +kernel
theorem dX1_wasSeenAs_0 : decode cX1_wasSeenAs 0 = .ok (.iconst 0, 1) := by decide +kernel
theorem dX1_wasSeenAs_1 : decode cX1_wasSeenAs 1 = .ok (.istore_n 2, 1) := by decide +kernel
theorem dX1_wasSeenAs_2 : decode cX1_wasSeenAs 2 = .ok (.iload_n 2, 1) := by decide +kernel
theorem dX1_wasSeenAs_3 : decode cX1_wasSeenAs 3 = .ok (.aload_n 0, 1) := by decide +kernel
theorem dX1_wasSeenAs_4 : decode cX1_wasSeenAs 4 = .ok (.getfield 45, 3) := by decide +kernel
theorem dX1_wasSeenAs_7 : decode cX1_wasSeenAs 7 = .ok (.if_icmp .ge 28, 3) := by decide +kernel
theorem dX1_wasSeenAs_10 : decode cX1_wasSeenAs 10 = .ok (.aload_n 1, 1) := by decide +kernel
theorem dX1_wasSeenAs_11 : decode cX1_wasSeenAs 11 = .ok (.aload_n 0, 1) := by decide +kernel
theorem dX1_wasSeenAs_12 : decode cX1_wasSeenAs 12 = .ok (.getfield 26, 3) := by decide +kernel
theorem dX1_wasSeenAs_15 : decode cX1_wasSeenAs 15 = .ok (.iload_n 2, 1) := by decide +kernel
theorem dX1_wasSeenAs_16 : decode cX1_wasSeenAs 16 = .ok (.iaload, 1) := by decide +kernel
theorem dX1_wasSeenAs_17 : decode cX1_wasSeenAs 17 = .ok (.iaload, 1) := by decide +kernel
theorem dX1_wasSeenAs_18 : decode cX1_wasSeenAs 18 = .ok (.aload_n 0, 1) := by decide +kernel
theorem dX1_wasSeenAs_19 : decode cX1_wasSeenAs 19 = .ok (.getfield 29, 3) := by decide +kernel
theorem dX1_wasSeenAs_22 : decode cX1_wasSeenAs 22 = .ok (.iload_n 2, 1) := by decide +kernel
theorem dX1_wasSeenAs_23 : decode cX1_wasSeenAs 23 = .ok (.iaload, 1) := by decide +kernel
theorem dX1_wasSeenAs_24 : decode cX1_wasSeenAs 24 = .ok (.if_icmp .eq 5, 3) := by decide +kernel
theorem dX1_wasSeenAs_27 : decode cX1_wasSeenAs 27 = .ok (.iconst 0, 1) := by decide +kernel
theorem dX1_wasSeenAs_28 : decode cX1_wasSeenAs 28 = .ok (.ireturn, 1) := by decide +kernel
theorem dX1_wasSeenAs_29 : decode cX1_wasSeenAs 29 = .ok (.iinc 2 1, 3) := by decide +kernel
theorem dX1_wasSeenAs_32 : decode cX1_wasSeenAs 32 = .ok (.goto (-30), 3) := by decide +kernel
theorem dX1_wasSeenAs_35 : decode cX1_wasSeenAs 35 = .ok (.iconst 1, 1) := by decide +kernel
theorem dX1_wasSeenAs_36 : decode cX1_wasSeenAs 36 = .ok (.ireturn, 1) := by decide +kernel
theorem dX2_init_0 : decode cX2_init 0 = .ok (.aload_n 0, 1) := by decide +kernel
theorem dX2_init_1 : decode cX2_init 1 = .ok (.invokespecial 3, 3) := by decide +kernel
theorem dX2_init_4 : decode cX2_init 4 = .ok (.aload_n 0, 1) := by decide +kernel
theorem dX2_init_5 : decode cX2_init 5 = .ok (.bipush 6, 2) := by decide +kernel
theorem dX2_init_7 : decode cX2_init 7 = .ok (.newarray .int, 2) := by decide +kernel
theorem dX2_init_9 : decode cX2_init 9 = .ok (.putfield 9, 3) := by decide +kernel
theorem dX2_init_12 : decode cX2_init 12 = .ok (.aload_n 0, 1) := by decide +kernel
theorem dX2_init_13 : decode cX2_init 13 = .ok (.bipush 6, 2) := by decide +kernel
theorem dX2_init_15 : decode cX2_init 15 = .ok (.newarray .int, 2) := by decide +kernel
theorem dX2_init_17 : decode cX2_init 17 = .ok (.putfield 15, 3) := by decide +kernel
theorem dX2_init_20 : decode cX2_init 20 = .ok (.return_, 1) := by decide +kernel
theorem dX2_seekLeastCost_0 : decode cX2_seekLeastCost 0 = .ok (.aload_n 0, 1) := by decide +kernel
theorem dX2_seekLeastCost_1 : decode cX2_seekLeastCost 1 = .ok (.ldc 20, 2) := by decide +kernel
theorem dX2_seekLeastCost_3 : decode cX2_seekLeastCost 3 = .ok (.putfield 21, 3) := by decide +kernel
theorem dX2_seekLeastCost_6 : decode cX2_seekLeastCost 6 = .ok (.aload_n 0, 1) := by decide +kernel
theorem dX2_seekLeastCost_7 : decode cX2_seekLeastCost 7 = .ok (.aload_n 1, 1) := by decide +kernel
theorem dX2_seekLeastCost_8 : decode cX2_seekLeastCost 8 = .ok (.iconst 0, 1) := by decide +kernel
theorem dX2_seekLeastCost_9 : decode cX2_seekLeastCost 9 = .ok (.iconst 0, 1) := by decide +kernel
theorem dX2_seekLeastCost_10 : decode cX2_seekLeastCost 10 = .ok (.iconst 0, 1) := by decide +kernel
theorem dX2_seekLeastCost_11 : decode cX2_seekLeastCost 11 = .ok (.aload_n 1, 1) := by decide +kernel
theorem dX2_seekLeastCost_12 : decode cX2_seekLeastCost 12 = .ok (.getfield 25, 3) := by decide +kernel
theorem dX2_seekLeastCost_15 : decode cX2_seekLeastCost 15 = .ok (.iconst 2, 1) := by decide +kernel
theorem dX2_seekLeastCost_16 : decode cX2_seekLeastCost 16 = .ok (.iaload, 1) := by decide +kernel
theorem dX2_seekLeastCost_17 : decode cX2_seekLeastCost 17 = .ok (.iconst 0, 1) := by decide +kernel
theorem dX2_seekLeastCost_18 : decode cX2_seekLeastCost 18 = .ok (.invokevirtual 30, 3) := by decide +kernel
theorem dX2_seekLeastCost_21 : decode cX2_seekLeastCost 21 = .ok (.return_, 1) := by decide +kernel
theorem dX2_seek_0 : decode cX2_seek 0 = .ok (.iload 6, 2) := by decide +kernel
theorem dX2_seek_2 : decode cX2_seek 2 = .ok (.aload_n 0, 1) := by decide +kernel
theorem dX2_seek_3 : decode cX2_seek 3 = .ok (.getfield 21, 3) := by decide +kernel
theorem dX2_seek_6 : decode cX2_seek 6 = .ok (.if_icmp .lt 4, 3) := by decide +kernel
theorem dX2_seek_9 : decode cX2_seek 9 = .ok (.return_, 1) := by decide +kernel
theorem dX2_seek_10 : decode cX2_seek 10 = .ok (.iload_n 2, 1) := by decide +kernel
theorem dX2_seek_11 : decode cX2_seek 11 = .ok (.aload_n 1, 1) := by decide +kernel
theorem dX2_seek_12 : decode cX2_seek 12 = .ok (.getfield 34, 3) := by decide +kernel
theorem dX2_seek_15 : decode cX2_seek 15 = .ok (.if_icmp .ge 9, 3) := by decide +kernel
theorem dX2_seek_18 : decode cX2_seek 18 = .ok (.iload_n 2, 1) := by decide +kernel
theorem dX2_seek_19 : decode cX2_seek 19 = .ok (.bipush 6, 2) := by decide +kernel
theorem dX2_seek_21 : decode cX2_seek 21 = .ok (.if_icmp .lt 25, 3) := by decide +kernel
theorem dX2_seek_24 : decode cX2_seek 24 = .ok (.aload_n 0, 1) := by decide +kernel
theorem dX2_seek_25 : decode cX2_seek 25 = .ok (.iload 6, 2) := by decide +kernel
theorem dX2_seek_27 : decode cX2_seek 27 = .ok (.putfield 21, 3) := by decide +kernel
theorem dX2_seek_30 : decode cX2_seek 30 = .ok (.aload_n 0, 1) := by decide +kernel
theorem dX2_seek_31 : decode cX2_seek 31 = .ok (.getfield 15, 3) := by decide +kernel
theorem dX2_seek_34 : decode cX2_seek 34 = .ok (.iconst 0, 1) := by decide +kernel
theorem dX2_seek_35 : decode cX2_seek 35 = .ok (.aload_n 0, 1) := by decide +kernel
theorem dX2_seek_36 : decode cX2_seek 36 = .ok (.getfield 9, 3) := by decide +kernel
theorem dX2_seek_39 : decode cX2_seek 39 = .ok (.iconst 0, 1) := by decide +kernel
theorem dX2_seek_40 : decode cX2_seek 40 = .ok (.bipush 6, 2) := by decide +kernel
theorem dX2_seek_42 : decode cX2_seek 42 = .ok (.invokestatic 37, 3) := by decide +kernel
theorem dX2_seek_45 : decode cX2_seek 45 = .ok (.return_, 1) := by decide +kernel
theorem dX2_seek_46 : decode cX2_seek 46 = .ok (.iconst 0, 1) := by decide +kernel
theorem dX2_seek_47 : decode cX2_seek 47 = .ok (.istore 7, 2) := by decide +kernel
theorem dX2_seek_49 : decode cX2_seek 49 = .ok (.iload 7, 2) := by decide +kernel
theorem dX2_seek_51 : decode cX2_seek 51 = .ok (.aload_n 1, 1) := by decide +kernel
theorem dX2_seek_52 : decode cX2_seek 52 = .ok (.getfield 34, 3) := by decide +kernel
theorem dX2_seek_55 : decode cX2_seek 55 = .ok (.if_icmp .ge 120, 3) := by decide +kernel
theorem dX2_seek_58 : decode cX2_seek 58 = .ok (.iload_n 3, 1) := by decide +kernel
theorem dX2_seek_59 : decode cX2_seek 59 = .ok (.iload 7, 2) := by decide +kernel
theorem dX2_seek_61 : decode cX2_seek 61 = .ok (.ishr, 1) := by decide +kernel
theorem dX2_seek_62 : decode cX2_seek 62 = .ok (.iconst 1, 1) := by decide +kernel
theorem dX2_seek_63 : decode cX2_seek 63 = .ok (.iand, 1) := by decide +kernel
theorem dX2_seek_64 : decode cX2_seek 64 = .ok (.ifCond .ne 105, 3) := by decide +kernel
theorem dX2_seek_67 : decode cX2_seek 67 = .ok (.aload_n 1, 1) := by decide +kernel
theorem dX2_seek_68 : decode cX2_seek 68 = .ok (.iload 7, 2) := by decide +kernel
theorem dX2_seek_70 : decode cX2_seek 70 = .ok (.iconst 0, 1) := by decide +kernel
theorem dX2_seek_71 : decode cX2_seek 71 = .ok (.invokevirtual 43, 3) := by decide +kernel
theorem dX2_seek_74 : decode cX2_seek 74 = .ok (.istore 8, 2) := by decide +kernel
theorem dX2_seek_76 : decode cX2_seek 76 = .ok (.aload_n 1, 1) := by decide +kernel
theorem dX2_seek_77 : decode cX2_seek 77 = .ok (.iload 7, 2) := by decide +kernel
theorem dX2_seek_79 : decode cX2_seek 79 = .ok (.iconst 2, 1) := by decide +kernel
theorem dX2_seek_80 : decode cX2_seek 80 = .ok (.invokevirtual 43, 3) := by decide +kernel
theorem dX2_seek_83 : decode cX2_seek 83 = .ok (.istore 9, 2) := by decide +kernel
theorem dX2_seek_85 : decode cX2_seek 85 = .ok (.iload 9, 2) := by decide +kernel
theorem dX2_seek_87 : decode cX2_seek 87 = .ok (.iload 5, 2) := by decide +kernel
theorem dX2_seek_89 : decode cX2_seek 89 = .ok (.iload 8, 2) := by decide +kernel
theorem dX2_seek_91 : decode cX2_seek 91 = .ok (.if_icmp .ne 8, 3) := by decide +kernel
theorem dX2_seek_94 : decode cX2_seek 94 = .ok (.iload 4, 2) := by decide +kernel
theorem dX2_seek_96 : decode cX2_seek 96 = .ok (.goto 12, 3) := by decide +kernel
theorem dX2_seek_99 : decode cX2_seek 99 = .ok (.iload 4, 2) := by decide +kernel
theorem dX2_seek_101 : decode cX2_seek 101 = .ok (.aload_n 1, 1) := by decide +kernel
theorem dX2_seek_102 : decode cX2_seek 102 = .ok (.getfield 25, 3) := by decide +kernel
theorem dX2_seek_105 : decode cX2_seek 105 = .ok (.iconst 1, 1) := by decide +kernel
theorem dX2_seek_106 : decode cX2_seek 106 = .ok (.iaload, 1) := by decide +kernel
theorem dX2_seek_107 : decode cX2_seek 107 = .ok (.iadd, 1) := by decide +kernel
theorem dX2_seek_108 : decode cX2_seek 108 = .ok (.invokestatic 47, 3) := by decide +kernel
theorem dX2_seek_111 : decode cX2_seek 111 = .ok (.istore 10, 2) := by decide +kernel
theorem dX2_seek_113 : decode cX2_seek 113 = .ok (.iload 10, 2) := by decide +kernel
theorem dX2_seek_115 : decode cX2_seek 115 = .ok (.iload 9, 2) := by decide +kernel
theorem dX2_seek_117 : decode cX2_seek 117 = .ok (.isub, 1) := by decide +kernel
theorem dX2_seek_118 : decode cX2_seek 118 = .ok (.aload_n 1, 1) := by decide +kernel
theorem dX2_seek_119 : decode cX2_seek 119 = .ok (.iload 7, 2) := by decide +kernel
theorem dX2_seek_121 : decode cX2_seek 121 = .ok (.iconst 3, 1) := by decide +kernel
theorem dX2_seek_122 : decode cX2_seek 122 = .ok (.invokevirtual 43, 3) := by decide +kernel
theorem dX2_seek_125 : decode cX2_seek 125 = .ok (.imul, 1) := by decide +kernel
theorem dX2_seek_126 : decode cX2_seek 126 = .ok (.istore 11, 2) := by decide +kernel
theorem dX2_seek_128 : decode cX2_seek 128 = .ok (.aload_n 0, 1) := by decide +kernel
theorem dX2_seek_129 : decode cX2_seek 129 = .ok (.getfield 15, 3) := by decide +kernel
theorem dX2_seek_132 : decode cX2_seek 132 = .ok (.iload_n 2, 1) := by decide +kernel
theorem dX2_seek_133 : decode cX2_seek 133 = .ok (.iload 7, 2) := by decide +kernel
theorem dX2_seek_135 : decode cX2_seek 135 = .ok (.iastore, 1) := by decide +kernel
theorem dX2_seek_136 : decode cX2_seek 136 = .ok (.aload_n 0, 1) := by decide +kernel
theorem dX2_seek_137 : decode cX2_seek 137 = .ok (.aload_n 1, 1) := by decide +kernel
theorem dX2_seek_138 : decode cX2_seek 138 = .ok (.iload_n 2, 1) := by decide +kernel
theorem dX2_seek_139 : decode cX2_seek 139 = .ok (.iconst 1, 1) := by decide +kernel
theorem dX2_seek_140 : decode cX2_seek 140 = .ok (.iadd, 1) := by decide +kernel
theorem dX2_seek_141 : decode cX2_seek 141 = .ok (.iload_n 3, 1) := by decide +kernel
theorem dX2_seek_142 : decode cX2_seek 142 = .ok (.iconst 1, 1) := by decide +kernel
theorem dX2_seek_143 : decode cX2_seek 143 = .ok (.iload 7, 2) := by decide +kernel
theorem dX2_seek_145 : decode cX2_seek 145 = .ok (.ishl, 1) := by decide +kernel
theorem dX2_seek_146 : decode cX2_seek 146 = .ok (.ior, 1) := by decide +kernel
theorem dX2_seek_147 : decode cX2_seek 147 = .ok (.iload 10, 2) := by decide +kernel
theorem dX2_seek_149 : decode cX2_seek 149 = .ok (.aload_n 1, 1) := by decide +kernel
theorem dX2_seek_150 : decode cX2_seek 150 = .ok (.getfield 25, 3) := by decide +kernel
theorem dX2_seek_153 : decode cX2_seek 153 = .ok (.iconst 0, 1) := by decide +kernel
theorem dX2_seek_154 : decode cX2_seek 154 = .ok (.iaload, 1) := by decide +kernel
theorem dX2_seek_155 : decode cX2_seek 155 = .ok (.iadd, 1) := by decide +kernel
theorem dX2_seek_156 : decode cX2_seek 156 = .ok (.iload 8, 2) := by decide +kernel
theorem dX2_seek_158 : decode cX2_seek 158 = .ok (.invokestatic 52, 3) := by decide +kernel
theorem dX2_seek_161 : decode cX2_seek 161 = .ok (.iload 6, 2) := by decide +kernel
theorem dX2_seek_163 : decode cX2_seek 163 = .ok (.iload 11, 2) := by decide +kernel
theorem dX2_seek_165 : decode cX2_seek 165 = .ok (.iadd, 1) := by decide +kernel
theorem dX2_seek_166 : decode cX2_seek 166 = .ok (.invokevirtual 30, 3) := by decide +kernel
theorem dX2_seek_169 : decode cX2_seek 169 = .ok (.iinc 7 1, 3) := by decide +kernel
theorem dX2_seek_172 : decode cX2_seek 172 = .ok (.goto (-123), 3) := by decide +kernel
theorem dX2_seek_175 : decode cX2_seek 175 = .ok (.return_, 1) := by decide +kernel
theorem dX3_init_0 : decode cX3_init 0 = .ok (.aload_n 0, 1) := by decide +kernel
theorem dX3_init_1 : decode cX3_init 1 = .ok (.invokespecial 3, 3) := by decide +kernel
theorem dX3_init_4 : decode cX3_init 4 = .ok (.aload_n 0, 1) := by decide +kernel
theorem dX3_init_5 : decode cX3_init 5 = .ok (.bipush 40, 2) := by decide +kernel
theorem dX3_init_7 : decode cX3_init 7 = .ok (.newarray .int, 2) := by decide +kernel
theorem dX3_init_9 : decode cX3_init 9 = .ok (.putfield 11, 3) := by decide +kernel
theorem dX3_init_12 : decode cX3_init 12 = .ok (.aload_n 0, 1) := by decide +kernel
theorem dX3_init_13 : decode cX3_init 13 = .ok (.iconst (-1), 1) := by decide +kernel
theorem dX3_init_14 : decode cX3_init 14 = .ok (.putfield 15, 3) := by decide +kernel
theorem dX3_init_17 : decode cX3_init 17 = .ok (.return_, 1) := by decide +kernel
theorem dX3_isLane_0 : decode cX3_isLane 0 = .ok (.iload_n 0, 1) := by decide +kernel
theorem dX3_isLane_1 : decode cX3_isLane 1 = .ok (.iconst 0, 1) := by decide +kernel
theorem dX3_isLane_2 : decode cX3_isLane 2 = .ok (.iconst 2, 1) := by decide +kernel
theorem dX3_isLane_3 : decode cX3_isLane 3 = .ok (.invokestatic 19, 3) := by decide +kernel
theorem dX3_isLane_6 : decode cX3_isLane 6 = .ok (.ireturn, 1) := by decide +kernel
theorem dX3_isNothing_0 : decode cX3_isNothing 0 = .ok (.aload_n 0, 1) := by decide +kernel
theorem dX3_isNothing_1 : decode cX3_isNothing 1 = .ok (.getfield 15, 3) := by decide +kernel
theorem dX3_isNothing_4 : decode cX3_isNothing 4 = .ok (.iconst (-1), 1) := by decide +kernel
theorem dX3_isNothing_5 : decode cX3_isNothing 5 = .ok (.if_icmp .ne 7, 3) := by decide +kernel
theorem dX3_isNothing_8 : decode cX3_isNothing 8 = .ok (.iconst 1, 1) := by decide +kernel
theorem dX3_isNothing_9 : decode cX3_isNothing 9 = .ok (.goto 4, 3) := by decide +kernel
theorem dX3_isNothing_12 : decode cX3_isNothing 12 = .ok (.iconst 0, 1) := by decide +kernel
theorem dX3_isNothing_13 : decode cX3_isNothing 13 = .ok (.ireturn, 1) := by decide +kernel
theorem dX3_renew_0 : decode cX3_renew 0 = .ok (.aload_n 0, 1) := by decide +kernel
theorem dX3_renew_1 : decode cX3_renew 1 = .ok (.iload_n 1, 1) := by decide +kernel
theorem dX3_renew_2 : decode cX3_renew 2 = .ok (.putfield 23, 3) := by decide +kernel
theorem dX3_renew_5 : decode cX3_renew 5 = .ok (.aload_n 0, 1) := by decide +kernel
theorem dX3_renew_6 : decode cX3_renew 6 = .ok (.iload_n 2, 1) := by decide +kernel
theorem dX3_renew_7 : decode cX3_renew 7 = .ok (.putfield 15, 3) := by decide +kernel
theorem dX3_renew_10 : decode cX3_renew 10 = .ok (.aload_n 0, 1) := by decide +kernel
theorem dX3_renew_11 : decode cX3_renew 11 = .ok (.getfield 11, 3) := by decide +kernel
theorem dX3_renew_14 : decode cX3_renew 14 = .ok (.iconst 0, 1) := by decide +kernel
theorem dX3_renew_15 : decode cX3_renew 15 = .ok (.invokestatic 26, 3) := by decide +kernel
theorem dX3_renew_18 : decode cX3_renew 18 = .ok (.return_, 1) := by decide +kernel
theorem dX3_put_0 : decode cX3_put 0 = .ok (.aload_n 0, 1) := by decide +kernel
theorem dX3_put_1 : decode cX3_put 1 = .ok (.getfield 11, 3) := by decide +kernel
theorem dX3_put_4 : decode cX3_put 4 = .ok (.iload_n 1, 1) := by decide +kernel
theorem dX3_put_5 : decode cX3_put 5 = .ok (.aload_n 0, 1) := by decide +kernel
theorem dX3_put_6 : decode cX3_put 6 = .ok (.getfield 23, 3) := by decide +kernel
theorem dX3_put_9 : decode cX3_put 9 = .ok (.ifCond .ne 8, 3) := by decide +kernel
theorem dX3_put_12 : decode cX3_put 12 = .ok (.iload_n 2, 1) := by decide +kernel
theorem dX3_put_13 : decode cX3_put 13 = .ok (.i2b, 1) := by decide +kernel
theorem dX3_put_14 : decode cX3_put 14 = .ok (.goto 17, 3) := by decide +kernel
theorem dX3_put_17 : decode cX3_put 17 = .ok (.aload_n 0, 1) := by decide +kernel
theorem dX3_put_18 : decode cX3_put 18 = .ok (.getfield 23, 3) := by decide +kernel
theorem dX3_put_21 : decode cX3_put 21 = .ok (.iconst 1, 1) := by decide +kernel
theorem dX3_put_22 : decode cX3_put 22 = .ok (.if_icmp .ne 8, 3) := by decide +kernel
theorem dX3_put_25 : decode cX3_put 25 = .ok (.iload_n 2, 1) := by decide +kernel
theorem dX3_put_26 : decode cX3_put 26 = .ok (.i2s, 1) := by decide +kernel
theorem dX3_put_27 : decode cX3_put 27 = .ok (.goto 4, 3) := by decide +kernel
theorem dX3_put_30 : decode cX3_put 30 = .ok (.iload_n 2, 1) := by decide +kernel
theorem dX3_put_31 : decode cX3_put 31 = .ok (.iastore, 1) := by decide +kernel
theorem dX3_put_32 : decode cX3_put 32 = .ok (.return_, 1) := by decide +kernel
theorem dX3_cell_0 : decode cX3_cell 0 = .ok (.aload_n 0, 1) := by decide +kernel
theorem dX3_cell_1 : decode cX3_cell 1 = .ok (.getfield 11, 3) := by decide +kernel
theorem dX3_cell_4 : decode cX3_cell 4 = .ok (.iload_n 1, 1) := by decide +kernel
theorem dX3_cell_5 : decode cX3_cell 5 = .ok (.iaload, 1) := by decide +kernel
theorem dX3_cell_6 : decode cX3_cell 6 = .ok (.ireturn, 1) := by decide +kernel
theorem dX3_faultAt_0 : decode cX3_faultAt 0 = .ok (.aload_n 0, 1) := by decide +kernel
theorem dX3_faultAt_1 : decode cX3_faultAt 1 = .ok (.invokevirtual 32, 3) := by decide +kernel
theorem dX3_faultAt_4 : decode cX3_faultAt 4 = .ok (.ifCond .eq 5, 3) := by decide +kernel
theorem dX3_faultAt_7 : decode cX3_faultAt 7 = .ok (.iconst 1, 1) := by decide +kernel
theorem dX3_faultAt_8 : decode cX3_faultAt 8 = .ok (.ireturn, 1) := by decide +kernel
theorem dX3_faultAt_9 : decode cX3_faultAt 9 = .ok (.iload_n 1, 1) := by decide +kernel
theorem dX3_faultAt_10 : decode cX3_faultAt 10 = .ok (.iconst 0, 1) := by decide +kernel
theorem dX3_faultAt_11 : decode cX3_faultAt 11 = .ok (.aload_n 0, 1) := by decide +kernel
theorem dX3_faultAt_12 : decode cX3_faultAt 12 = .ok (.getfield 15, 3) := by decide +kernel
theorem dX3_faultAt_15 : decode cX3_faultAt 15 = .ok (.iconst 1, 1) := by decide +kernel
theorem dX3_faultAt_16 : decode cX3_faultAt 16 = .ok (.isub, 1) := by decide +kernel
theorem dX3_faultAt_17 : decode cX3_faultAt 17 = .ok (.invokestatic 19, 3) := by decide +kernel
theorem dX3_faultAt_20 : decode cX3_faultAt 20 = .ok (.ifCond .eq 7, 3) := by decide +kernel
theorem dX3_faultAt_23 : decode cX3_faultAt 23 = .ok (.iconst 0, 1) := by decide +kernel
theorem dX3_faultAt_24 : decode cX3_faultAt 24 = .ok (.goto 4, 3) := by decide +kernel
theorem dX3_faultAt_27 : decode cX3_faultAt 27 = .ok (.iconst 2, 1) := by decide +kernel
theorem dX3_faultAt_28 : decode cX3_faultAt 28 = .ok (.ireturn, 1) := by decide +kernel
theorem dX3_faultOfPair_0 : decode cX3_faultOfPair 0 = .ok (.aload_n 0, 1) := by decide +kernel
theorem dX3_faultOfPair_1 : decode cX3_faultOfPair 1 = .ok (.invokevirtual 32, 3) := by decide +kernel
theorem dX3_faultOfPair_4 : decode cX3_faultOfPair 4 = .ok (.ifCond .ne 13, 3) := by decide +kernel
theorem dX3_faultOfPair_7 : decode cX3_faultOfPair 7 = .ok (.aload_n 0, 1) := by decide +kernel
theorem dX3_faultOfPair_8 : decode cX3_faultOfPair 8 = .ok (.getfield 23, 3) := by decide +kernel
theorem dX3_faultOfPair_11 : decode cX3_faultOfPair 11 = .ok (.iload_n 1, 1) := by decide +kernel
theorem dX3_faultOfPair_12 : decode cX3_faultOfPair 12 = .ok (.if_icmp .eq 5, 3) := by decide +kernel
theorem dX3_faultOfPair_15 : decode cX3_faultOfPair 15 = .ok (.iconst 3, 1) := by decide +kernel
theorem dX3_faultOfPair_16 : decode cX3_faultOfPair 16 = .ok (.ireturn, 1) := by decide +kernel
theorem dX3_faultOfPair_17 : decode cX3_faultOfPair 17 = .ok (.aload_n 0, 1) := by decide +kernel
theorem dX3_faultOfPair_18 : decode cX3_faultOfPair 18 = .ok (.iload_n 2, 1) := by decide +kernel
theorem dX3_faultOfPair_19 : decode cX3_faultOfPair 19 = .ok (.invokevirtual 36, 3) := by decide +kernel
theorem dX3_faultOfPair_22 : decode cX3_faultOfPair 22 = .ok (.istore_n 3, 1) := by decide +kernel
theorem dX3_faultOfPair_23 : decode cX3_faultOfPair 23 = .ok (.iload_n 3, 1) := by decide +kernel
theorem dX3_faultOfPair_24 : decode cX3_faultOfPair 24 = .ok (.ifCond .eq 7, 3) := by decide +kernel
theorem dX3_faultOfPair_27 : decode cX3_faultOfPair 27 = .ok (.iload_n 3, 1) := by decide +kernel
theorem dX3_faultOfPair_28 : decode cX3_faultOfPair 28 = .ok (.goto 10, 3) := by decide +kernel
theorem dX3_faultOfPair_31 : decode cX3_faultOfPair 31 = .ok (.aload_n 0, 1) := by decide +kernel
theorem dX3_faultOfPair_32 : decode cX3_faultOfPair 32 = .ok (.iload_n 2, 1) := by decide +kernel
theorem dX3_faultOfPair_33 : decode cX3_faultOfPair 33 = .ok (.iconst 1, 1) := by decide +kernel
theorem dX3_faultOfPair_34 : decode cX3_faultOfPair 34 = .ok (.iadd, 1) := by decide +kernel
theorem dX3_faultOfPair_35 : decode cX3_faultOfPair 35 = .ok (.invokevirtual 36, 3) := by decide +kernel
theorem dX3_faultOfPair_38 : decode cX3_faultOfPair 38 = .ok (.ireturn, 1) := by decide +kernel
theorem dX4_init_0 : decode cX4_init 0 = .ok (.aload_n 0, 1) := by decide +kernel
theorem dX4_init_1 : decode cX4_init 1 = .ok (.invokespecial 1, 3) := by decide +kernel
theorem dX4_init_4 : decode cX4_init 4 = .ok (.aload_n 0, 1) := by decide +kernel
theorem dX4_init_5 : decode cX4_init 5 = .ok (.sipush 160, 3) := by decide +kernel
theorem dX4_init_8 : decode cX4_init 8 = .ok (.newarray .byte, 2) := by decide +kernel
theorem dX4_init_10 : decode cX4_init 10 = .ok (.putfield 9, 3) := by decide +kernel
theorem dX4_init_13 : decode cX4_init 13 = .ok (.return_, 1) := by decide +kernel
theorem dX4_append_0 : decode cX4_append 0 = .ok (.aload_n 0, 1) := by decide +kernel
theorem dX4_append_1 : decode cX4_append 1 = .ok (.getfield 13, 3) := by decide +kernel
theorem dX4_append_4 : decode cX4_append 4 = .ok (.sipush 160, 3) := by decide +kernel
theorem dX4_append_7 : decode cX4_append 7 = .ok (.if_icmp .lt 5, 3) := by decide +kernel
theorem dX4_append_10 : decode cX4_append 10 = .ok (.iconst 0, 1) := by decide +kernel
theorem dX4_append_11 : decode cX4_append 11 = .ok (.ireturn, 1) := by decide +kernel
theorem dX4_append_12 : decode cX4_append 12 = .ok (.aload_n 0, 1) := by decide +kernel
theorem dX4_append_13 : decode cX4_append 13 = .ok (.getfield 9, 3) := by decide +kernel
theorem dX4_append_16 : decode cX4_append 16 = .ok (.aload_n 0, 1) := by decide +kernel
theorem dX4_append_17 : decode cX4_append 17 = .ok (.getfield 13, 3) := by decide +kernel
theorem dX4_append_20 : decode cX4_append 20 = .ok (.iload_n 1, 1) := by decide +kernel
theorem dX4_append_21 : decode cX4_append 21 = .ok (.i2b, 1) := by decide +kernel
theorem dX4_append_22 : decode cX4_append 22 = .ok (.bastore, 1) := by decide +kernel
theorem dX4_append_23 : decode cX4_append 23 = .ok (.aload_n 0, 1) := by decide +kernel
theorem dX4_append_24 : decode cX4_append 24 = .ok (.dup, 1) := by decide +kernel
theorem dX4_append_25 : decode cX4_append 25 = .ok (.getfield 13, 3) := by decide +kernel
theorem dX4_append_28 : decode cX4_append 28 = .ok (.iconst 1, 1) := by decide +kernel
theorem dX4_append_29 : decode cX4_append 29 = .ok (.iadd, 1) := by decide +kernel
theorem dX4_append_30 : decode cX4_append 30 = .ok (.putfield 13, 3) := by decide +kernel
theorem dX4_append_33 : decode cX4_append 33 = .ok (.iconst 1, 1) := by decide +kernel
theorem dX4_append_34 : decode cX4_append 34 = .ok (.ireturn, 1) := by decide +kernel
theorem dX4_rewind_0 : decode cX4_rewind 0 = .ok (.aload_n 0, 1) := by decide +kernel
theorem dX4_rewind_1 : decode cX4_rewind 1 = .ok (.iconst 0, 1) := by decide +kernel
theorem dX4_rewind_2 : decode cX4_rewind 2 = .ok (.putfield 17, 3) := by decide +kernel
theorem dX4_rewind_5 : decode cX4_rewind 5 = .ok (.return_, 1) := by decide +kernel
theorem dX4_next_0 : decode cX4_next 0 = .ok (.aload_n 0, 1) := by decide +kernel
theorem dX4_next_1 : decode cX4_next 1 = .ok (.getfield 17, 3) := by decide +kernel
theorem dX4_next_4 : decode cX4_next 4 = .ok (.aload_n 0, 1) := by decide +kernel
theorem dX4_next_5 : decode cX4_next 5 = .ok (.getfield 13, 3) := by decide +kernel
theorem dX4_next_8 : decode cX4_next 8 = .ok (.if_icmp .ge 30, 3) := by decide +kernel
theorem dX4_next_11 : decode cX4_next 11 = .ok (.aload_n 0, 1) := by decide +kernel
theorem dX4_next_12 : decode cX4_next 12 = .ok (.getfield 9, 3) := by decide +kernel
theorem dX4_next_15 : decode cX4_next 15 = .ok (.aload_n 0, 1) := by decide +kernel
theorem dX4_next_16 : decode cX4_next 16 = .ok (.getfield 17, 3) := by decide +kernel
theorem dX4_next_19 : decode cX4_next 19 = .ok (.baload, 1) := by decide +kernel
theorem dX4_next_20 : decode cX4_next 20 = .ok (.bipush 32, 2) := by decide +kernel
theorem dX4_next_22 : decode cX4_next 22 = .ok (.if_icmp .ne 16, 3) := by decide +kernel
theorem dX4_next_25 : decode cX4_next 25 = .ok (.aload_n 0, 1) := by decide +kernel
theorem dX4_next_26 : decode cX4_next 26 = .ok (.dup, 1) := by decide +kernel
theorem dX4_next_27 : decode cX4_next 27 = .ok (.getfield 17, 3) := by decide +kernel
theorem dX4_next_30 : decode cX4_next 30 = .ok (.iconst 1, 1) := by decide +kernel
theorem dX4_next_31 : decode cX4_next 31 = .ok (.iadd, 1) := by decide +kernel
theorem dX4_next_32 : decode cX4_next 32 = .ok (.putfield 17, 3) := by decide +kernel
theorem dX4_next_35 : decode cX4_next 35 = .ok (.goto (-35), 3) := by decide +kernel
theorem dX4_next_38 : decode cX4_next 38 = .ok (.aload_n 0, 1) := by decide +kernel
theorem dX4_next_39 : decode cX4_next 39 = .ok (.aload_n 0, 1) := by decide +kernel
theorem dX4_next_40 : decode cX4_next 40 = .ok (.getfield 17, 3) := by decide +kernel
theorem dX4_next_43 : decode cX4_next 43 = .ok (.putfield 20, 3) := by decide +kernel
theorem dX4_next_46 : decode cX4_next 46 = .ok (.aload_n 0, 1) := by decide +kernel
theorem dX4_next_47 : decode cX4_next 47 = .ok (.iconst 0, 1) := by decide +kernel
theorem dX4_next_48 : decode cX4_next 48 = .ok (.putfield 23, 3) := by decide +kernel
theorem dX4_next_51 : decode cX4_next 51 = .ok (.aload_n 0, 1) := by decide +kernel
theorem dX4_next_52 : decode cX4_next 52 = .ok (.aload_n 0, 1) := by decide +kernel
theorem dX4_next_53 : decode cX4_next 53 = .ok (.getfield 17, 3) := by decide +kernel
theorem dX4_next_56 : decode cX4_next 56 = .ok (.aload_n 0, 1) := by decide +kernel
theorem dX4_next_57 : decode cX4_next 57 = .ok (.getfield 13, 3) := by decide +kernel
theorem dX4_next_60 : decode cX4_next 60 = .ok (.if_icmp .ge 18, 3) := by decide +kernel
theorem dX4_next_63 : decode cX4_next 63 = .ok (.aload_n 0, 1) := by decide +kernel
theorem dX4_next_64 : decode cX4_next 64 = .ok (.getfield 9, 3) := by decide +kernel
theorem dX4_next_67 : decode cX4_next 67 = .ok (.aload_n 0, 1) := by decide +kernel
theorem dX4_next_68 : decode cX4_next 68 = .ok (.getfield 17, 3) := by decide +kernel
theorem dX4_next_71 : decode cX4_next 71 = .ok (.baload, 1) := by decide +kernel
theorem dX4_next_72 : decode cX4_next 72 = .ok (.invokestatic 26, 3) := by decide +kernel
theorem dX4_next_75 : decode cX4_next 75 = .ok (.goto 4, 3) := by decide +kernel
theorem dX4_next_78 : decode cX4_next 78 = .ok (.iconst 3, 1) := by decide +kernel
theorem dX4_next_79 : decode cX4_next 79 = .ok (.putfield 30, 3) := by decide +kernel
theorem dX4_next_82 : decode cX4_next 82 = .ok (.aload_n 0, 1) := by decide +kernel
theorem dX4_next_83 : decode cX4_next 83 = .ok (.getfield 30, 3) := by decide +kernel
theorem dX4_next_86 : decode cX4_next 86 = .ok (.iconst 3, 1) := by decide +kernel
theorem dX4_next_87 : decode cX4_next 87 = .ok (.if_icmp .eq 13, 3) := by decide +kernel
theorem dX4_next_90 : decode cX4_next 90 = .ok (.aload_n 0, 1) := by decide +kernel
theorem dX4_next_91 : decode cX4_next 91 = .ok (.dup, 1) := by decide +kernel
theorem dX4_next_92 : decode cX4_next 92 = .ok (.getfield 17, 3) := by decide +kernel
theorem dX4_next_95 : decode cX4_next 95 = .ok (.iconst 1, 1) := by decide +kernel
theorem dX4_next_96 : decode cX4_next 96 = .ok (.iadd, 1) := by decide +kernel
theorem dX4_next_97 : decode cX4_next 97 = .ok (.putfield 17, 3) := by decide +kernel
theorem dX4_next_100 : decode cX4_next 100 = .ok (.aload_n 0, 1) := by decide +kernel
theorem dX4_next_101 : decode cX4_next 101 = .ok (.getfield 30, 3) := by decide +kernel
theorem dX4_next_104 : decode cX4_next 104 = .ok (.ifCond .eq 11, 3) := by decide +kernel
theorem dX4_next_107 : decode cX4_next 107 = .ok (.aload_n 0, 1) := by decide +kernel
theorem dX4_next_108 : decode cX4_next 108 = .ok (.getfield 30, 3) := by decide +kernel
theorem dX4_next_111 : decode cX4_next 111 = .ok (.iconst 1, 1) := by decide +kernel
theorem dX4_next_112 : decode cX4_next 112 = .ok (.if_icmp .ne 46, 3) := by decide +kernel
theorem dX4_next_115 : decode cX4_next 115 = .ok (.aload_n 0, 1) := by decide +kernel
theorem dX4_next_116 : decode cX4_next 116 = .ok (.getfield 17, 3) := by decide +kernel
theorem dX4_next_119 : decode cX4_next 119 = .ok (.aload_n 0, 1) := by decide +kernel
theorem dX4_next_120 : decode cX4_next 120 = .ok (.getfield 13, 3) := by decide +kernel
theorem dX4_next_123 : decode cX4_next 123 = .ok (.if_icmp .ge 35, 3) := by decide +kernel
theorem dX4_next_126 : decode cX4_next 126 = .ok (.aload_n 0, 1) := by decide +kernel
theorem dX4_next_127 : decode cX4_next 127 = .ok (.getfield 9, 3) := by decide +kernel
theorem dX4_next_130 : decode cX4_next 130 = .ok (.aload_n 0, 1) := by decide +kernel
theorem dX4_next_131 : decode cX4_next 131 = .ok (.getfield 17, 3) := by decide +kernel
theorem dX4_next_134 : decode cX4_next 134 = .ok (.baload, 1) := by decide +kernel
theorem dX4_next_135 : decode cX4_next 135 = .ok (.invokestatic 26, 3) := by decide +kernel
theorem dX4_next_138 : decode cX4_next 138 = .ok (.aload_n 0, 1) := by decide +kernel
theorem dX4_next_139 : decode cX4_next 139 = .ok (.getfield 30, 3) := by decide +kernel
theorem dX4_next_142 : decode cX4_next 142 = .ok (.if_icmp .ne 16, 3) := by decide +kernel
theorem dX4_next_145 : decode cX4_next 145 = .ok (.aload_n 0, 1) := by decide +kernel
theorem dX4_next_146 : decode cX4_next 146 = .ok (.dup, 1) := by decide +kernel
theorem dX4_next_147 : decode cX4_next 147 = .ok (.getfield 17, 3) := by decide +kernel
theorem dX4_next_150 : decode cX4_next 150 = .ok (.iconst 1, 1) := by decide +kernel
theorem dX4_next_151 : decode cX4_next 151 = .ok (.iadd, 1) := by decide +kernel
theorem dX4_next_152 : decode cX4_next 152 = .ok (.putfield 17, 3) := by decide +kernel
theorem dX4_next_155 : decode cX4_next 155 = .ok (.goto (-40), 3) := by decide +kernel
theorem dX4_next_158 : decode cX4_next 158 = .ok (.aload_n 0, 1) := by decide +kernel
theorem dX4_next_159 : decode cX4_next 159 = .ok (.getfield 30, 3) := by decide +kernel
theorem dX4_next_162 : decode cX4_next 162 = .ok (.iconst 1, 1) := by decide +kernel
theorem dX4_next_163 : decode cX4_next 163 = .ok (.if_icmp .ne 7, 3) := by decide +kernel
theorem dX4_next_166 : decode cX4_next 166 = .ok (.aload_n 0, 1) := by decide +kernel
theorem dX4_next_167 : decode cX4_next 167 = .ok (.invokevirtual 33, 3) := by decide +kernel
theorem dX4_next_170 : decode cX4_next 170 = .ok (.return_, 1) := by decide +kernel
theorem dX4_kindOf_0 : decode cX4_kindOf 0 = .ok (.iload_n 0, 1) := by decide +kernel
theorem dX4_kindOf_1 : decode cX4_kindOf 1 = .ok (.bipush 97, 2) := by decide +kernel
theorem dX4_kindOf_3 : decode cX4_kindOf 3 = .ok (.if_icmp .lt 11, 3) := by decide +kernel
theorem dX4_kindOf_6 : decode cX4_kindOf 6 = .ok (.iload_n 0, 1) := by decide +kernel
theorem dX4_kindOf_7 : decode cX4_kindOf 7 = .ok (.bipush 122, 2) := by decide +kernel
theorem dX4_kindOf_9 : decode cX4_kindOf 9 = .ok (.if_icmp .gt 5, 3) := by decide +kernel
theorem dX4_kindOf_12 : decode cX4_kindOf 12 = .ok (.iconst 0, 1) := by decide +kernel
theorem dX4_kindOf_13 : decode cX4_kindOf 13 = .ok (.ireturn, 1) := by decide +kernel
theorem dX4_kindOf_14 : decode cX4_kindOf 14 = .ok (.iload_n 0, 1) := by decide +kernel
theorem dX4_kindOf_15 : decode cX4_kindOf 15 = .ok (.bipush 48, 2) := by decide +kernel
theorem dX4_kindOf_17 : decode cX4_kindOf 17 = .ok (.if_icmp .lt 11, 3) := by decide +kernel
theorem dX4_kindOf_20 : decode cX4_kindOf 20 = .ok (.iload_n 0, 1) := by decide +kernel
theorem dX4_kindOf_21 : decode cX4_kindOf 21 = .ok (.bipush 57, 2) := by decide +kernel
theorem dX4_kindOf_23 : decode cX4_kindOf 23 = .ok (.if_icmp .gt 5, 3) := by decide +kernel
theorem dX4_kindOf_26 : decode cX4_kindOf 26 = .ok (.iconst 1, 1) := by decide +kernel
theorem dX4_kindOf_27 : decode cX4_kindOf 27 = .ok (.ireturn, 1) := by decide +kernel
theorem dX4_kindOf_28 : decode cX4_kindOf 28 = .ok (.iload_n 0, 1) := by decide +kernel
theorem dX4_kindOf_29 : decode cX4_kindOf 29 = .ok (.bipush 59, 2) := by decide +kernel
theorem dX4_kindOf_31 : decode cX4_kindOf 31 = .ok (.if_icmp .ne 7, 3) := by decide +kernel
theorem dX4_kindOf_34 : decode cX4_kindOf 34 = .ok (.iconst 2, 1) := by decide +kernel
theorem dX4_kindOf_35 : decode cX4_kindOf 35 = .ok (.goto 4, 3) := by decide +kernel
theorem dX4_kindOf_38 : decode cX4_kindOf 38 = .ok (.iconst 4, 1) := by decide +kernel
theorem dX4_kindOf_39 : decode cX4_kindOf 39 = .ok (.ireturn, 1) := by decide +kernel
theorem dX4_valueNumber_0 : decode cX4_valueNumber 0 = .ok (.aload_n 0, 1) := by decide +kernel
theorem dX4_valueNumber_1 : decode cX4_valueNumber 1 = .ok (.getfield 17, 3) := by decide +kernel
theorem dX4_valueNumber_4 : decode cX4_valueNumber 4 = .ok (.aload_n 0, 1) := by decide +kernel
theorem dX4_valueNumber_5 : decode cX4_valueNumber 5 = .ok (.getfield 20, 3) := by decide +kernel
theorem dX4_valueNumber_8 : decode cX4_valueNumber 8 = .ok (.isub, 1) := by decide +kernel
theorem dX4_valueNumber_9 : decode cX4_valueNumber 9 = .ok (.iconst 2, 1) := by decide +kernel
theorem dX4_valueNumber_10 : decode cX4_valueNumber 10 = .ok (.if_icmp .le 9, 3) := by decide +kernel
theorem dX4_valueNumber_13 : decode cX4_valueNumber 13 = .ok (.aload_n 0, 1) := by decide +kernel
theorem dX4_valueNumber_14 : decode cX4_valueNumber 14 = .ok (.iconst 4, 1) := by decide +kernel
theorem dX4_valueNumber_15 : decode cX4_valueNumber 15 = .ok (.putfield 30, 3) := by decide +kernel
theorem dX4_valueNumber_18 : decode cX4_valueNumber 18 = .ok (.return_, 1) := by decide +kernel
theorem dX4_valueNumber_19 : decode cX4_valueNumber 19 = .ok (.aload_n 0, 1) := by decide +kernel
theorem dX4_valueNumber_20 : decode cX4_valueNumber 20 = .ok (.getfield 20, 3) := by decide +kernel
theorem dX4_valueNumber_23 : decode cX4_valueNumber 23 = .ok (.istore_n 1, 1) := by decide +kernel
theorem dX4_valueNumber_24 : decode cX4_valueNumber 24 = .ok (.iload_n 1, 1) := by decide +kernel
theorem dX4_valueNumber_25 : decode cX4_valueNumber 25 = .ok (.aload_n 0, 1) := by decide +kernel
theorem dX4_valueNumber_26 : decode cX4_valueNumber 26 = .ok (.getfield 17, 3) := by decide +kernel
theorem dX4_valueNumber_29 : decode cX4_valueNumber 29 = .ok (.if_icmp .ge 30, 3) := by decide +kernel
theorem dX4_valueNumber_32 : decode cX4_valueNumber 32 = .ok (.aload_n 0, 1) := by decide +kernel
theorem dX4_valueNumber_33 : decode cX4_valueNumber 33 = .ok (.aload_n 0, 1) := by decide +kernel
theorem dX4_valueNumber_34 : decode cX4_valueNumber 34 = .ok (.getfield 23, 3) := by decide +kernel
theorem dX4_valueNumber_37 : decode cX4_valueNumber 37 = .ok (.bipush 10, 2) := by decide +kernel
theorem dX4_valueNumber_39 : decode cX4_valueNumber 39 = .ok (.imul, 1) := by decide +kernel
theorem dX4_valueNumber_40 : decode cX4_valueNumber 40 = .ok (.aload_n 0, 1) := by decide +kernel
theorem dX4_valueNumber_41 : decode cX4_valueNumber 41 = .ok (.getfield 9, 3) := by decide +kernel
theorem dX4_valueNumber_44 : decode cX4_valueNumber 44 = .ok (.iload_n 1, 1) := by decide +kernel
theorem dX4_valueNumber_45 : decode cX4_valueNumber 45 = .ok (.baload, 1) := by decide +kernel
theorem dX4_valueNumber_46 : decode cX4_valueNumber 46 = .ok (.iadd, 1) := by decide +kernel
theorem dX4_valueNumber_47 : decode cX4_valueNumber 47 = .ok (.bipush 48, 2) := by decide +kernel
theorem dX4_valueNumber_49 : decode cX4_valueNumber 49 = .ok (.isub, 1) := by decide +kernel
theorem dX4_valueNumber_50 : decode cX4_valueNumber 50 = .ok (.putfield 23, 3) := by decide +kernel
theorem dX4_valueNumber_53 : decode cX4_valueNumber 53 = .ok (.iinc 1 1, 3) := by decide +kernel
theorem dX4_valueNumber_56 : decode cX4_valueNumber 56 = .ok (.goto (-32), 3) := by decide +kernel
theorem dX4_valueNumber_59 : decode cX4_valueNumber 59 = .ok (.return_, 1) := by decide +kernel
theorem dX4_isName_0 : decode cX4_isName 0 = .ok (.aload_n 0, 1) := by decide +kernel
theorem dX4_isName_1 : decode cX4_isName 1 = .ok (.getfield 30, 3) := by decide +kernel
theorem dX4_isName_4 : decode cX4_isName 4 = .ok (.ifCond .ne 19, 3) := by decide +kernel
theorem dX4_isName_7 : decode cX4_isName 7 = .ok (.aload_n 0, 1) := by decide +kernel
theorem dX4_isName_8 : decode cX4_isName 8 = .ok (.getfield 17, 3) := by decide +kernel
theorem dX4_isName_11 : decode cX4_isName 11 = .ok (.aload_n 0, 1) := by decide +kernel
theorem dX4_isName_12 : decode cX4_isName 12 = .ok (.getfield 20, 3) := by decide +kernel
theorem dX4_isName_15 : decode cX4_isName 15 = .ok (.isub, 1) := by decide +kernel
theorem dX4_isName_16 : decode cX4_isName 16 = .ok (.aload_n 1, 1) := by decide +kernel
theorem dX4_isName_17 : decode cX4_isName 17 = .ok (.invokevirtual 36, 3) := by decide +kernel
theorem dX4_isName_20 : decode cX4_isName 20 = .ok (.if_icmp .eq 5, 3) := by decide +kernel
theorem dX4_isName_23 : decode cX4_isName 23 = .ok (.iconst 0, 1) := by decide +kernel
theorem dX4_isName_24 : decode cX4_isName 24 = .ok (.ireturn, 1) := by decide +kernel
theorem dX4_isName_25 : decode cX4_isName 25 = .ok (.iconst 0, 1) := by decide +kernel
theorem dX4_isName_26 : decode cX4_isName 26 = .ok (.istore_n 2, 1) := by decide +kernel
theorem dX4_isName_27 : decode cX4_isName 27 = .ok (.iload_n 2, 1) := by decide +kernel
theorem dX4_isName_28 : decode cX4_isName 28 = .ok (.aload_n 1, 1) := by decide +kernel
theorem dX4_isName_29 : decode cX4_isName 29 = .ok (.invokevirtual 36, 3) := by decide +kernel
theorem dX4_isName_32 : decode cX4_isName 32 = .ok (.if_icmp .ge 30, 3) := by decide +kernel
theorem dX4_isName_35 : decode cX4_isName 35 = .ok (.aload_n 0, 1) := by decide +kernel
theorem dX4_isName_36 : decode cX4_isName 36 = .ok (.getfield 9, 3) := by decide +kernel
theorem dX4_isName_39 : decode cX4_isName 39 = .ok (.aload_n 0, 1) := by decide +kernel
theorem dX4_isName_40 : decode cX4_isName 40 = .ok (.getfield 20, 3) := by decide +kernel
theorem dX4_isName_43 : decode cX4_isName 43 = .ok (.iload_n 2, 1) := by decide +kernel
theorem dX4_isName_44 : decode cX4_isName 44 = .ok (.iadd, 1) := by decide +kernel
theorem dX4_isName_45 : decode cX4_isName 45 = .ok (.baload, 1) := by decide +kernel
theorem dX4_isName_46 : decode cX4_isName 46 = .ok (.aload_n 1, 1) := by decide +kernel
theorem dX4_isName_47 : decode cX4_isName 47 = .ok (.iload_n 2, 1) := by decide +kernel
theorem dX4_isName_48 : decode cX4_isName 48 = .ok (.invokevirtual 41, 3) := by decide +kernel
theorem dX4_isName_51 : decode cX4_isName 51 = .ok (.if_icmp .eq 5, 3) := by decide +kernel
theorem dX4_isName_54 : decode cX4_isName 54 = .ok (.iconst 0, 1) := by decide +kernel
theorem dX4_isName_55 : decode cX4_isName 55 = .ok (.ireturn, 1) := by decide +kernel
theorem dX4_isName_56 : decode cX4_isName 56 = .ok (.iinc 2 1, 3) := by decide +kernel
theorem dX4_isName_59 : decode cX4_isName 59 = .ok (.goto (-32), 3) := by decide +kernel
theorem dX4_isName_62 : decode cX4_isName 62 = .ok (.iconst 1, 1) := by decide +kernel
theorem dX4_isName_63 : decode cX4_isName 63 = .ok (.ireturn, 1) := by decide +kernel
theorem dX5_init_0 : decode cX5_init 0 = .ok (.aload_n 0, 1) := by decide +kernel
theorem dX5_init_1 : decode cX5_init 1 = .ok (.invokespecial 3, 3) := by decide +kernel
theorem dX5_init_4 : decode cX5_init 4 = .ok (.aload_n 0, 1) := by decide +kernel
theorem dX5_init_5 : decode cX5_init 5 = .ok (.aload_n 1, 1) := by decide +kernel
theorem dX5_init_6 : decode cX5_init 6 = .ok (.putfield 9, 3) := by decide +kernel
theorem dX5_init_9 : decode cX5_init 9 = .ok (.aload_n 0, 1) := by decide +kernel
theorem dX5_init_10 : decode cX5_init 10 = .ok (.new 15, 3) := by decide +kernel
theorem dX5_init_13 : decode cX5_init 13 = .ok (.dup, 1) := by decide +kernel
theorem dX5_init_14 : decode cX5_init 14 = .ok (.invokespecial 17, 3) := by decide +kernel
theorem dX5_init_17 : decode cX5_init 17 = .ok (.putfield 18, 3) := by decide +kernel
theorem dX5_init_20 : decode cX5_init 20 = .ok (.return_, 1) := by decide +kernel
theorem dX5_tell_0 : decode cX5_tell 0 = .ok (.aload_n 0, 1) := by decide +kernel
theorem dX5_tell_1 : decode cX5_tell 1 = .ok (.getfield 18, 3) := by decide +kernel
theorem dX5_tell_4 : decode cX5_tell 4 = .ok (.invokevirtual 22, 3) := by decide +kernel
theorem dX5_tell_7 : decode cX5_tell 7 = .ok (.aload_n 0, 1) := by decide +kernel
theorem dX5_tell_8 : decode cX5_tell 8 = .ok (.getfield 9, 3) := by decide +kernel
theorem dX5_tell_11 : decode cX5_tell 11 = .ok (.invokevirtual 25, 3) := by decide +kernel
theorem dX5_tell_14 : decode cX5_tell 14 = .ok (.aload_n 0, 1) := by decide +kernel
theorem dX5_tell_15 : decode cX5_tell 15 = .ok (.iconst 0, 1) := by decide +kernel
theorem dX5_tell_16 : decode cX5_tell 16 = .ok (.putfield 30, 3) := by decide +kernel
theorem dX5_tell_19 : decode cX5_tell 19 = .ok (.aload_n 0, 1) := by decide +kernel
theorem dX5_tell_20 : decode cX5_tell 20 = .ok (.iconst 0, 1) := by decide +kernel
theorem dX5_tell_21 : decode cX5_tell 21 = .ok (.putfield 34, 3) := by decide +kernel
theorem dX5_tell_24 : decode cX5_tell 24 = .ok (.iconst 0, 1) := by decide +kernel
theorem dX5_tell_25 : decode cX5_tell 25 = .ok (.istore_n 1, 1) := by decide +kernel
theorem dX5_tell_26 : decode cX5_tell 26 = .ok (.aload_n 0, 1) := by decide +kernel
theorem dX5_tell_27 : decode cX5_tell 27 = .ok (.getfield 9, 3) := by decide +kernel
theorem dX5_tell_30 : decode cX5_tell 30 = .ok (.invokevirtual 37, 3) := by decide +kernel
theorem dX5_tell_33 : decode cX5_tell 33 = .ok (.iload_n 1, 1) := by decide +kernel
theorem dX5_tell_34 : decode cX5_tell 34 = .ok (.sipush 160, 3) := by decide +kernel
theorem dX5_tell_37 : decode cX5_tell 37 = .ok (.if_icmp .ge 34, 3) := by decide +kernel
theorem dX5_tell_40 : decode cX5_tell 40 = .ok (.aload_n 0, 1) := by decide +kernel
theorem dX5_tell_41 : decode cX5_tell 41 = .ok (.getfield 9, 3) := by decide +kernel
theorem dX5_tell_44 : decode cX5_tell 44 = .ok (.getfield 40, 3) := by decide +kernel
theorem dX5_tell_47 : decode cX5_tell 47 = .ok (.iconst 3, 1) := by decide +kernel
theorem dX5_tell_48 : decode cX5_tell 48 = .ok (.if_icmp .eq 23, 3) := by decide +kernel
theorem dX5_tell_51 : decode cX5_tell 51 = .ok (.aload_n 0, 1) := by decide +kernel
theorem dX5_tell_52 : decode cX5_tell 52 = .ok (.invokevirtual 43, 3) := by decide +kernel
theorem dX5_tell_55 : decode cX5_tell 55 = .ok (.ifCond .eq 16, 3) := by decide +kernel
theorem dX5_tell_58 : decode cX5_tell 58 = .ok (.iinc 1 1, 3) := by decide +kernel
theorem dX5_tell_61 : decode cX5_tell 61 = .ok (.aload_n 0, 1) := by decide +kernel
theorem dX5_tell_62 : decode cX5_tell 62 = .ok (.getfield 9, 3) := by decide +kernel
theorem dX5_tell_65 : decode cX5_tell 65 = .ok (.invokevirtual 37, 3) := by decide +kernel
theorem dX5_tell_68 : decode cX5_tell 68 = .ok (.goto (-35), 3) := by decide +kernel
theorem dX5_tell_71 : decode cX5_tell 71 = .ok (.aload_n 0, 1) := by decide +kernel
theorem dX5_tell_72 : decode cX5_tell 72 = .ok (.getfield 30, 3) := by decide +kernel
theorem dX5_tell_75 : decode cX5_tell 75 = .ok (.ifCond .ne 35, 3) := by decide +kernel
theorem dX5_tell_78 : decode cX5_tell 78 = .ok (.aload_n 0, 1) := by decide +kernel
theorem dX5_tell_79 : decode cX5_tell 79 = .ok (.getfield 18, 3) := by decide +kernel
theorem dX5_tell_82 : decode cX5_tell 82 = .ok (.getfield 47, 3) := by decide +kernel
theorem dX5_tell_85 : decode cX5_tell 85 = .ok (.aload_n 0, 1) := by decide +kernel
theorem dX5_tell_86 : decode cX5_tell 86 = .ok (.getfield 18, 3) := by decide +kernel
theorem dX5_tell_89 : decode cX5_tell 89 = .ok (.getfield 50, 3) := by decide +kernel
theorem dX5_tell_92 : decode cX5_tell 92 = .ok (.ishr, 1) := by decide +kernel
theorem dX5_tell_93 : decode cX5_tell 93 = .ok (.ifCond .eq 17, 3) := by decide +kernel
theorem dX5_tell_96 : decode cX5_tell 96 = .ok (.aload_n 0, 1) := by decide +kernel
theorem dX5_tell_97 : decode cX5_tell 97 = .ok (.bipush 6, 2) := by decide +kernel
theorem dX5_tell_99 : decode cX5_tell 99 = .ok (.aload_n 0, 1) := by decide +kernel
theorem dX5_tell_100 : decode cX5_tell 100 = .ok (.getfield 9, 3) := by decide +kernel
theorem dX5_tell_103 : decode cX5_tell 103 = .ok (.getfield 53, 3) := by decide +kernel
theorem dX5_tell_106 : decode cX5_tell 106 = .ok (.invokevirtual 56, 3) := by decide +kernel
theorem dX5_tell_109 : decode cX5_tell 109 = .ok (.pop, 1) := by decide +kernel
theorem dX5_tell_110 : decode cX5_tell 110 = .ok (.aload_n 0, 1) := by decide +kernel
theorem dX5_tell_111 : decode cX5_tell 111 = .ok (.getfield 30, 3) := by decide +kernel
theorem dX5_tell_114 : decode cX5_tell 114 = .ok (.ifCond .ne 7, 3) := by decide +kernel
theorem dX5_tell_117 : decode cX5_tell 117 = .ok (.iload_n 1, 1) := by decide +kernel
theorem dX5_tell_118 : decode cX5_tell 118 = .ok (.goto 10, 3) := by decide +kernel
theorem dX5_tell_121 : decode cX5_tell 121 = .ok (.bipush (-10), 2) := by decide +kernel
theorem dX5_tell_123 : decode cX5_tell 123 = .ok (.aload_n 0, 1) := by decide +kernel
theorem dX5_tell_124 : decode cX5_tell 124 = .ok (.getfield 60, 3) := by decide +kernel
theorem dX5_tell_127 : decode cX5_tell 127 = .ok (.isub, 1) := by decide +kernel
theorem dX5_tell_128 : decode cX5_tell 128 = .ok (.ireturn, 1) := by decide +kernel
theorem dX5_takeLine_0 : decode cX5_takeLine 0 = .ok (.aload_n 0, 1) := by decide +kernel
theorem dX5_takeLine_1 : decode cX5_takeLine 1 = .ok (.getfield 9, 3) := by decide +kernel
theorem dX5_takeLine_4 : decode cX5_takeLine 4 = .ok (.ldc 63, 2) := by decide +kernel
theorem dX5_takeLine_6 : decode cX5_takeLine 6 = .ok (.invokevirtual 65, 3) := by decide +kernel
theorem dX5_takeLine_9 : decode cX5_takeLine 9 = .ok (.ifCond .eq 24, 3) := by decide +kernel
theorem dX5_takeLine_12 : decode cX5_takeLine 12 = .ok (.aload_n 0, 1) := by decide +kernel
theorem dX5_takeLine_13 : decode cX5_takeLine 13 = .ok (.iconst 0, 1) := by decide +kernel
theorem dX5_takeLine_14 : decode cX5_takeLine 14 = .ok (.invokevirtual 69, 3) := by decide +kernel
theorem dX5_takeLine_17 : decode cX5_takeLine 17 = .ok (.ifCond .eq 14, 3) := by decide +kernel
theorem dX5_takeLine_20 : decode cX5_takeLine 20 = .ok (.aload_n 0, 1) := by decide +kernel
theorem dX5_takeLine_21 : decode cX5_takeLine 21 = .ok (.invokevirtual 73, 3) := by decide +kernel
theorem dX5_takeLine_24 : decode cX5_takeLine 24 = .ok (.ifCond .eq 7, 3) := by decide +kernel
theorem dX5_takeLine_27 : decode cX5_takeLine 27 = .ok (.iconst 1, 1) := by decide +kernel
theorem dX5_takeLine_28 : decode cX5_takeLine 28 = .ok (.goto 4, 3) := by decide +kernel
theorem dX5_takeLine_31 : decode cX5_takeLine 31 = .ok (.iconst 0, 1) := by decide +kernel
theorem dX5_takeLine_32 : decode cX5_takeLine 32 = .ok (.ireturn, 1) := by decide +kernel
theorem dX5_takeLine_33 : decode cX5_takeLine 33 = .ok (.aload_n 0, 1) := by decide +kernel
theorem dX5_takeLine_34 : decode cX5_takeLine 34 = .ok (.getfield 9, 3) := by decide +kernel
theorem dX5_takeLine_37 : decode cX5_takeLine 37 = .ok (.ldc 76, 2) := by decide +kernel
theorem dX5_takeLine_39 : decode cX5_takeLine 39 = .ok (.invokevirtual 65, 3) := by decide +kernel
theorem dX5_takeLine_42 : decode cX5_takeLine 42 = .ok (.ifCond .eq 24, 3) := by decide +kernel
theorem dX5_takeLine_45 : decode cX5_takeLine 45 = .ok (.aload_n 0, 1) := by decide +kernel
theorem dX5_takeLine_46 : decode cX5_takeLine 46 = .ok (.iconst 1, 1) := by decide +kernel
theorem dX5_takeLine_47 : decode cX5_takeLine 47 = .ok (.invokevirtual 69, 3) := by decide +kernel
theorem dX5_takeLine_50 : decode cX5_takeLine 50 = .ok (.ifCond .eq 14, 3) := by decide +kernel
theorem dX5_takeLine_53 : decode cX5_takeLine 53 = .ok (.aload_n 0, 1) := by decide +kernel
theorem dX5_takeLine_54 : decode cX5_takeLine 54 = .ok (.invokevirtual 73, 3) := by decide +kernel
theorem dX5_takeLine_57 : decode cX5_takeLine 57 = .ok (.ifCond .eq 7, 3) := by decide +kernel
theorem dX5_takeLine_60 : decode cX5_takeLine 60 = .ok (.iconst 1, 1) := by decide +kernel
theorem dX5_takeLine_61 : decode cX5_takeLine 61 = .ok (.goto 4, 3) := by decide +kernel
theorem dX5_takeLine_64 : decode cX5_takeLine 64 = .ok (.iconst 0, 1) := by decide +kernel
theorem dX5_takeLine_65 : decode cX5_takeLine 65 = .ok (.ireturn, 1) := by decide +kernel
theorem dX5_takeLine_66 : decode cX5_takeLine 66 = .ok (.aload_n 0, 1) := by decide +kernel
theorem dX5_takeLine_67 : decode cX5_takeLine 67 = .ok (.getfield 9, 3) := by decide +kernel
theorem dX5_takeLine_70 : decode cX5_takeLine 70 = .ok (.ldc 78, 2) := by decide +kernel
theorem dX5_takeLine_72 : decode cX5_takeLine 72 = .ok (.invokevirtual 65, 3) := by decide +kernel
theorem dX5_takeLine_75 : decode cX5_takeLine 75 = .ok (.ifCond .eq 23, 3) := by decide +kernel
theorem dX5_takeLine_78 : decode cX5_takeLine 78 = .ok (.aload_n 0, 1) := by decide +kernel
theorem dX5_takeLine_79 : decode cX5_takeLine 79 = .ok (.invokevirtual 80, 3) := by decide +kernel
theorem dX5_takeLine_82 : decode cX5_takeLine 82 = .ok (.ifCond .eq 14, 3) := by decide +kernel
theorem dX5_takeLine_85 : decode cX5_takeLine 85 = .ok (.aload_n 0, 1) := by decide +kernel
theorem dX5_takeLine_86 : decode cX5_takeLine 86 = .ok (.invokevirtual 73, 3) := by decide +kernel
theorem dX5_takeLine_89 : decode cX5_takeLine 89 = .ok (.ifCond .eq 7, 3) := by decide +kernel
theorem dX5_takeLine_92 : decode cX5_takeLine 92 = .ok (.iconst 1, 1) := by decide +kernel
theorem dX5_takeLine_93 : decode cX5_takeLine 93 = .ok (.goto 4, 3) := by decide +kernel
theorem dX5_takeLine_96 : decode cX5_takeLine 96 = .ok (.iconst 0, 1) := by decide +kernel
theorem dX5_takeLine_97 : decode cX5_takeLine 97 = .ok (.ireturn, 1) := by decide +kernel
theorem dX5_takeLine_98 : decode cX5_takeLine 98 = .ok (.aload_n 0, 1) := by decide +kernel
theorem dX5_takeLine_99 : decode cX5_takeLine 99 = .ok (.getfield 9, 3) := by decide +kernel
theorem dX5_takeLine_102 : decode cX5_takeLine 102 = .ok (.ldc 83, 2) := by decide +kernel
theorem dX5_takeLine_104 : decode cX5_takeLine 104 = .ok (.invokevirtual 65, 3) := by decide +kernel
theorem dX5_takeLine_107 : decode cX5_takeLine 107 = .ok (.ifCond .eq 33, 3) := by decide +kernel
theorem dX5_takeLine_110 : decode cX5_takeLine 110 = .ok (.aload_n 0, 1) := by decide +kernel
theorem dX5_takeLine_111 : decode cX5_takeLine 111 = .ok (.iconst 1, 1) := by decide +kernel
theorem dX5_takeLine_112 : decode cX5_takeLine 112 = .ok (.invokevirtual 85, 3) := by decide +kernel
theorem dX5_takeLine_115 : decode cX5_takeLine 115 = .ok (.ifCond .eq 23, 3) := by decide +kernel
theorem dX5_takeLine_118 : decode cX5_takeLine 118 = .ok (.aload_n 0, 1) := by decide +kernel
theorem dX5_takeLine_119 : decode cX5_takeLine 119 = .ok (.iconst 0, 1) := by decide +kernel
theorem dX5_takeLine_120 : decode cX5_takeLine 120 = .ok (.iconst 2, 1) := by decide +kernel
theorem dX5_takeLine_121 : decode cX5_takeLine 121 = .ok (.invokevirtual 88, 3) := by decide +kernel
theorem dX5_takeLine_124 : decode cX5_takeLine 124 = .ok (.ifCond .eq 14, 3) := by decide +kernel
theorem dX5_takeLine_127 : decode cX5_takeLine 127 = .ok (.aload_n 0, 1) := by decide +kernel
theorem dX5_takeLine_128 : decode cX5_takeLine 128 = .ok (.invokevirtual 73, 3) := by decide +kernel
theorem dX5_takeLine_131 : decode cX5_takeLine 131 = .ok (.ifCond .eq 7, 3) := by decide +kernel
theorem dX5_takeLine_134 : decode cX5_takeLine 134 = .ok (.iconst 1, 1) := by decide +kernel
theorem dX5_takeLine_135 : decode cX5_takeLine 135 = .ok (.goto 4, 3) := by decide +kernel
theorem dX5_takeLine_138 : decode cX5_takeLine 138 = .ok (.iconst 0, 1) := by decide +kernel
theorem dX5_takeLine_139 : decode cX5_takeLine 139 = .ok (.ireturn, 1) := by decide +kernel
theorem dX5_takeLine_140 : decode cX5_takeLine 140 = .ok (.aload_n 0, 1) := by decide +kernel
theorem dX5_takeLine_141 : decode cX5_takeLine 141 = .ok (.getfield 9, 3) := by decide +kernel
theorem dX5_takeLine_144 : decode cX5_takeLine 144 = .ok (.ldc 91, 2) := by decide +kernel
theorem dX5_takeLine_146 : decode cX5_takeLine 146 = .ok (.invokevirtual 65, 3) := by decide +kernel
theorem dX5_takeLine_149 : decode cX5_takeLine 149 = .ok (.ifCond .eq 31, 3) := by decide +kernel
theorem dX5_takeLine_152 : decode cX5_takeLine 152 = .ok (.aload_n 0, 1) := by decide +kernel
theorem dX5_takeLine_153 : decode cX5_takeLine 153 = .ok (.iconst 2, 1) := by decide +kernel
theorem dX5_takeLine_154 : decode cX5_takeLine 154 = .ok (.invokevirtual 85, 3) := by decide +kernel
theorem dX5_takeLine_157 : decode cX5_takeLine 157 = .ok (.ifCond .eq 21, 3) := by decide +kernel
theorem dX5_takeLine_160 : decode cX5_takeLine 160 = .ok (.aload_n 0, 1) := by decide +kernel
theorem dX5_takeLine_161 : decode cX5_takeLine 161 = .ok (.invokevirtual 93, 3) := by decide +kernel
theorem dX5_takeLine_164 : decode cX5_takeLine 164 = .ok (.ifCond .eq 14, 3) := by decide +kernel
theorem dX5_takeLine_167 : decode cX5_takeLine 167 = .ok (.aload_n 0, 1) := by decide +kernel
theorem dX5_takeLine_168 : decode cX5_takeLine 168 = .ok (.invokevirtual 73, 3) := by decide +kernel
theorem dX5_takeLine_171 : decode cX5_takeLine 171 = .ok (.ifCond .eq 7, 3) := by decide +kernel
theorem dX5_takeLine_174 : decode cX5_takeLine 174 = .ok (.iconst 1, 1) := by decide +kernel
theorem dX5_takeLine_175 : decode cX5_takeLine 175 = .ok (.goto 4, 3) := by decide +kernel
theorem dX5_takeLine_178 : decode cX5_takeLine 178 = .ok (.iconst 0, 1) := by decide +kernel
theorem dX5_takeLine_179 : decode cX5_takeLine 179 = .ok (.ireturn, 1) := by decide +kernel
theorem dX5_takeLine_180 : decode cX5_takeLine 180 = .ok (.aload_n 0, 1) := by decide +kernel
theorem dX5_takeLine_181 : decode cX5_takeLine 181 = .ok (.getfield 9, 3) := by decide +kernel
theorem dX5_takeLine_184 : decode cX5_takeLine 184 = .ok (.ldc 96, 2) := by decide +kernel
theorem dX5_takeLine_186 : decode cX5_takeLine 186 = .ok (.invokevirtual 65, 3) := by decide +kernel
theorem dX5_takeLine_189 : decode cX5_takeLine 189 = .ok (.ifCond .eq 33, 3) := by decide +kernel
theorem dX5_takeLine_192 : decode cX5_takeLine 192 = .ok (.aload_n 0, 1) := by decide +kernel
theorem dX5_takeLine_193 : decode cX5_takeLine 193 = .ok (.iconst 4, 1) := by decide +kernel
theorem dX5_takeLine_194 : decode cX5_takeLine 194 = .ok (.invokevirtual 85, 3) := by decide +kernel
theorem dX5_takeLine_197 : decode cX5_takeLine 197 = .ok (.ifCond .eq 23, 3) := by decide +kernel
theorem dX5_takeLine_200 : decode cX5_takeLine 200 = .ok (.aload_n 0, 1) := by decide +kernel
theorem dX5_takeLine_201 : decode cX5_takeLine 201 = .ok (.iconst 4, 1) := by decide +kernel
theorem dX5_takeLine_202 : decode cX5_takeLine 202 = .ok (.iconst 4, 1) := by decide +kernel
theorem dX5_takeLine_203 : decode cX5_takeLine 203 = .ok (.invokevirtual 88, 3) := by decide +kernel
theorem dX5_takeLine_206 : decode cX5_takeLine 206 = .ok (.ifCond .eq 14, 3) := by decide +kernel
theorem dX5_takeLine_209 : decode cX5_takeLine 209 = .ok (.aload_n 0, 1) := by decide +kernel
theorem dX5_takeLine_210 : decode cX5_takeLine 210 = .ok (.invokevirtual 73, 3) := by decide +kernel
theorem dX5_takeLine_213 : decode cX5_takeLine 213 = .ok (.ifCond .eq 7, 3) := by decide +kernel
theorem dX5_takeLine_216 : decode cX5_takeLine 216 = .ok (.iconst 1, 1) := by decide +kernel
theorem dX5_takeLine_217 : decode cX5_takeLine 217 = .ok (.goto 4, 3) := by decide +kernel
theorem dX5_takeLine_220 : decode cX5_takeLine 220 = .ok (.iconst 0, 1) := by decide +kernel
theorem dX5_takeLine_221 : decode cX5_takeLine 221 = .ok (.ireturn, 1) := by decide +kernel
theorem dX5_takeLine_222 : decode cX5_takeLine 222 = .ok (.aload_n 0, 1) := by decide +kernel
theorem dX5_takeLine_223 : decode cX5_takeLine 223 = .ok (.getfield 9, 3) := by decide +kernel
theorem dX5_takeLine_226 : decode cX5_takeLine 226 = .ok (.ldc 98, 2) := by decide +kernel
theorem dX5_takeLine_228 : decode cX5_takeLine 228 = .ok (.invokevirtual 65, 3) := by decide +kernel
theorem dX5_takeLine_231 : decode cX5_takeLine 231 = .ok (.ifCond .eq 35, 3) := by decide +kernel
theorem dX5_takeLine_234 : decode cX5_takeLine 234 = .ok (.aload_n 0, 1) := by decide +kernel
theorem dX5_takeLine_235 : decode cX5_takeLine 235 = .ok (.getfield 18, 3) := by decide +kernel
theorem dX5_takeLine_238 : decode cX5_takeLine 238 = .ok (.getfield 100, 3) := by decide +kernel
theorem dX5_takeLine_241 : decode cX5_takeLine 241 = .ok (.iconst 5, 1) := by decide +kernel
theorem dX5_takeLine_242 : decode cX5_takeLine 242 = .ok (.iconst 1, 1) := by decide +kernel
theorem dX5_takeLine_243 : decode cX5_takeLine 243 = .ok (.iastore, 1) := by decide +kernel
theorem dX5_takeLine_244 : decode cX5_takeLine 244 = .ok (.aload_n 0, 1) := by decide +kernel
theorem dX5_takeLine_245 : decode cX5_takeLine 245 = .ok (.bipush 8, 2) := by decide +kernel
theorem dX5_takeLine_247 : decode cX5_takeLine 247 = .ok (.invokevirtual 85, 3) := by decide +kernel
theorem dX5_takeLine_250 : decode cX5_takeLine 250 = .ok (.ifCond .eq 14, 3) := by decide +kernel
theorem dX5_takeLine_253 : decode cX5_takeLine 253 = .ok (.aload_n 0, 1) := by decide +kernel
theorem dX5_takeLine_254 : decode cX5_takeLine 254 = .ok (.invokevirtual 73, 3) := by decide +kernel
theorem dX5_takeLine_257 : decode cX5_takeLine 257 = .ok (.ifCond .eq 7, 3) := by decide +kernel
theorem dX5_takeLine_260 : decode cX5_takeLine 260 = .ok (.iconst 1, 1) := by decide +kernel
theorem dX5_takeLine_261 : decode cX5_takeLine 261 = .ok (.goto 4, 3) := by decide +kernel
theorem dX5_takeLine_264 : decode cX5_takeLine 264 = .ok (.iconst 0, 1) := by decide +kernel
theorem dX5_takeLine_265 : decode cX5_takeLine 265 = .ok (.ireturn, 1) := by decide +kernel
theorem dX5_takeLine_266 : decode cX5_takeLine 266 = .ok (.aload_n 0, 1) := by decide +kernel
theorem dX5_takeLine_267 : decode cX5_takeLine 267 = .ok (.iconst 2, 1) := by decide +kernel
theorem dX5_takeLine_268 : decode cX5_takeLine 268 = .ok (.invokevirtual 104, 3) := by decide +kernel
theorem dX5_takeLine_271 : decode cX5_takeLine 271 = .ok (.ireturn, 1) := by decide +kernel
theorem dX5_isFirst_0 : decode cX5_isFirst 0 = .ok (.aload_n 0, 1) := by decide +kernel
theorem dX5_isFirst_1 : decode cX5_isFirst 1 = .ok (.getfield 34, 3) := by decide +kernel
theorem dX5_isFirst_4 : decode cX5_isFirst 4 = .ok (.iload_n 1, 1) := by decide +kernel
theorem dX5_isFirst_5 : decode cX5_isFirst 5 = .ok (.iand, 1) := by decide +kernel
theorem dX5_isFirst_6 : decode cX5_isFirst 6 = .ok (.ifCond .eq 9, 3) := by decide +kernel
theorem dX5_isFirst_9 : decode cX5_isFirst 9 = .ok (.aload_n 0, 1) := by decide +kernel
theorem dX5_isFirst_10 : decode cX5_isFirst 10 = .ok (.iconst 4, 1) := by decide +kernel
theorem dX5_isFirst_11 : decode cX5_isFirst 11 = .ok (.invokevirtual 104, 3) := by decide +kernel
theorem dX5_isFirst_14 : decode cX5_isFirst 14 = .ok (.ireturn, 1) := by decide +kernel
theorem dX5_isFirst_15 : decode cX5_isFirst 15 = .ok (.aload_n 0, 1) := by decide +kernel
theorem dX5_isFirst_16 : decode cX5_isFirst 16 = .ok (.dup, 1) := by decide +kernel
theorem dX5_isFirst_17 : decode cX5_isFirst 17 = .ok (.getfield 34, 3) := by decide +kernel
theorem dX5_isFirst_20 : decode cX5_isFirst 20 = .ok (.iload_n 1, 1) := by decide +kernel
theorem dX5_isFirst_21 : decode cX5_isFirst 21 = .ok (.ior, 1) := by decide +kernel
theorem dX5_isFirst_22 : decode cX5_isFirst 22 = .ok (.putfield 34, 3) := by decide +kernel
theorem dX5_isFirst_25 : decode cX5_isFirst 25 = .ok (.iconst 1, 1) := by decide +kernel
theorem dX5_isFirst_26 : decode cX5_isFirst 26 = .ok (.ireturn, 1) := by decide +kernel
theorem dX5_takeBoat_0 : decode cX5_takeBoat 0 = .ok (.aload_n 0, 1) := by decide +kernel
theorem dX5_takeBoat_1 : decode cX5_takeBoat 1 = .ok (.getfield 18, 3) := by decide +kernel
theorem dX5_takeBoat_4 : decode cX5_takeBoat 4 = .ok (.getfield 50, 3) := by decide +kernel
theorem dX5_takeBoat_7 : decode cX5_takeBoat 7 = .ok (.istore_n 2, 1) := by decide +kernel
theorem dX5_takeBoat_8 : decode cX5_takeBoat 8 = .ok (.iload_n 2, 1) := by decide +kernel
theorem dX5_takeBoat_9 : decode cX5_takeBoat 9 = .ok (.bipush 6, 2) := by decide +kernel
theorem dX5_takeBoat_11 : decode cX5_takeBoat 11 = .ok (.if_icmp .lt 9, 3) := by decide +kernel
theorem dX5_takeBoat_14 : decode cX5_takeBoat 14 = .ok (.aload_n 0, 1) := by decide +kernel
theorem dX5_takeBoat_15 : decode cX5_takeBoat 15 = .ok (.iconst 5, 1) := by decide +kernel
theorem dX5_takeBoat_16 : decode cX5_takeBoat 16 = .ok (.invokevirtual 104, 3) := by decide +kernel
theorem dX5_takeBoat_19 : decode cX5_takeBoat 19 = .ok (.ireturn, 1) := by decide +kernel
theorem dX5_takeBoat_20 : decode cX5_takeBoat 20 = .ok (.aload_n 0, 1) := by decide +kernel
theorem dX5_takeBoat_21 : decode cX5_takeBoat 21 = .ok (.getfield 18, 3) := by decide +kernel
theorem dX5_takeBoat_24 : decode cX5_takeBoat 24 = .ok (.iload_n 2, 1) := by decide +kernel
theorem dX5_takeBoat_25 : decode cX5_takeBoat 25 = .ok (.iconst 0, 1) := by decide +kernel
theorem dX5_takeBoat_26 : decode cX5_takeBoat 26 = .ok (.iload_n 1, 1) := by decide +kernel
theorem dX5_takeBoat_27 : decode cX5_takeBoat 27 = .ok (.invokevirtual 107, 3) := by decide +kernel
theorem dX5_takeBoat_30 : decode cX5_takeBoat 30 = .ok (.aload_n 0, 1) := by decide +kernel
theorem dX5_takeBoat_31 : decode cX5_takeBoat 31 = .ok (.getfield 18, 3) := by decide +kernel
theorem dX5_takeBoat_34 : decode cX5_takeBoat 34 = .ok (.dup, 1) := by decide +kernel
theorem dX5_takeBoat_35 : decode cX5_takeBoat 35 = .ok (.getfield 50, 3) := by decide +kernel
theorem dX5_takeBoat_38 : decode cX5_takeBoat 38 = .ok (.iconst 1, 1) := by decide +kernel
theorem dX5_takeBoat_39 : decode cX5_takeBoat 39 = .ok (.iadd, 1) := by decide +kernel
theorem dX5_takeBoat_40 : decode cX5_takeBoat 40 = .ok (.putfield 50, 3) := by decide +kernel
theorem dX5_takeBoat_43 : decode cX5_takeBoat 43 = .ok (.aload_n 0, 1) := by decide +kernel
theorem dX5_takeBoat_44 : decode cX5_takeBoat 44 = .ok (.iload_n 2, 1) := by decide +kernel
theorem dX5_takeBoat_45 : decode cX5_takeBoat 45 = .ok (.invokevirtual 111, 3) := by decide +kernel
theorem dX5_takeBoat_48 : decode cX5_takeBoat 48 = .ok (.ifCond .ne 5, 3) := by decide +kernel
theorem dX5_takeBoat_51 : decode cX5_takeBoat 51 = .ok (.iconst 0, 1) := by decide +kernel
theorem dX5_takeBoat_52 : decode cX5_takeBoat 52 = .ok (.ireturn, 1) := by decide +kernel
theorem dX5_takeBoat_53 : decode cX5_takeBoat 53 = .ok (.iconst 2, 1) := by decide +kernel
theorem dX5_takeBoat_54 : decode cX5_takeBoat 54 = .ok (.istore_n 3, 1) := by decide +kernel
theorem dX5_takeBoat_55 : decode cX5_takeBoat 55 = .ok (.iload_n 3, 1) := by decide +kernel
theorem dX5_takeBoat_56 : decode cX5_takeBoat 56 = .ok (.iconst 4, 1) := by decide +kernel
theorem dX5_takeBoat_57 : decode cX5_takeBoat 57 = .ok (.if_icmp .gt 40, 3) := by decide +kernel
theorem dX5_takeBoat_60 : decode cX5_takeBoat 60 = .ok (.aload_n 0, 1) := by decide +kernel
theorem dX5_takeBoat_61 : decode cX5_takeBoat 61 = .ok (.iconst 0, 1) := by decide +kernel
theorem dX5_takeBoat_62 : decode cX5_takeBoat 62 = .ok (.getstatic 114, 3) := by decide +kernel
theorem dX5_takeBoat_65 : decode cX5_takeBoat 65 = .ok (.iload_n 3, 1) := by decide +kernel
theorem dX5_takeBoat_66 : decode cX5_takeBoat 66 = .ok (.iaload, 1) := by decide +kernel
theorem dX5_takeBoat_67 : decode cX5_takeBoat 67 = .ok (.invokevirtual 117, 3) := by decide +kernel
theorem dX5_takeBoat_70 : decode cX5_takeBoat 70 = .ok (.ifCond .ne 5, 3) := by decide +kernel
theorem dX5_takeBoat_73 : decode cX5_takeBoat 73 = .ok (.iconst 0, 1) := by decide +kernel
theorem dX5_takeBoat_74 : decode cX5_takeBoat 74 = .ok (.ireturn, 1) := by decide +kernel
theorem dX5_takeBoat_75 : decode cX5_takeBoat 75 = .ok (.aload_n 0, 1) := by decide +kernel
theorem dX5_takeBoat_76 : decode cX5_takeBoat 76 = .ok (.getfield 18, 3) := by decide +kernel
theorem dX5_takeBoat_79 : decode cX5_takeBoat 79 = .ok (.iload_n 2, 1) := by decide +kernel
theorem dX5_takeBoat_80 : decode cX5_takeBoat 80 = .ok (.iload_n 3, 1) := by decide +kernel
theorem dX5_takeBoat_81 : decode cX5_takeBoat 81 = .ok (.aload_n 0, 1) := by decide +kernel
theorem dX5_takeBoat_82 : decode cX5_takeBoat 82 = .ok (.getfield 9, 3) := by decide +kernel
theorem dX5_takeBoat_85 : decode cX5_takeBoat 85 = .ok (.getfield 120, 3) := by decide +kernel
theorem dX5_takeBoat_88 : decode cX5_takeBoat 88 = .ok (.invokevirtual 107, 3) := by decide +kernel
theorem dX5_takeBoat_91 : decode cX5_takeBoat 91 = .ok (.iinc 3 1, 3) := by decide +kernel
theorem dX5_takeBoat_94 : decode cX5_takeBoat 94 = .ok (.goto (-39), 3) := by decide +kernel
theorem dX5_takeBoat_97 : decode cX5_takeBoat 97 = .ok (.iconst 1, 1) := by decide +kernel
theorem dX5_takeBoat_98 : decode cX5_takeBoat 98 = .ok (.ireturn, 1) := by decide +kernel
theorem dX5_takeCargo_0 : decode cX5_takeCargo 0 = .ok (.aload_n 0, 1) := by decide +kernel
theorem dX5_takeCargo_1 : decode cX5_takeCargo 1 = .ok (.getfield 9, 3) := by decide +kernel
theorem dX5_takeCargo_4 : decode cX5_takeCargo 4 = .ok (.invokevirtual 37, 3) := by decide +kernel
theorem dX5_takeCargo_7 : decode cX5_takeCargo 7 = .ok (.aload_n 0, 1) := by decide +kernel
theorem dX5_takeCargo_8 : decode cX5_takeCargo 8 = .ok (.getfield 9, 3) := by decide +kernel
theorem dX5_takeCargo_11 : decode cX5_takeCargo 11 = .ok (.ldc 123, 2) := by decide +kernel
theorem dX5_takeCargo_13 : decode cX5_takeCargo 13 = .ok (.invokevirtual 65, 3) := by decide +kernel
theorem dX5_takeCargo_16 : decode cX5_takeCargo 16 = .ok (.ifCond .eq 7, 3) := by decide +kernel
theorem dX5_takeCargo_19 : decode cX5_takeCargo 19 = .ok (.iconst 0, 1) := by decide +kernel
theorem dX5_takeCargo_20 : decode cX5_takeCargo 20 = .ok (.goto 53, 3) := by decide +kernel
theorem dX5_takeCargo_23 : decode cX5_takeCargo 23 = .ok (.aload_n 0, 1) := by decide +kernel
theorem dX5_takeCargo_24 : decode cX5_takeCargo 24 = .ok (.getfield 9, 3) := by decide +kernel
theorem dX5_takeCargo_27 : decode cX5_takeCargo 27 = .ok (.ldc 125, 2) := by decide +kernel
theorem dX5_takeCargo_29 : decode cX5_takeCargo 29 = .ok (.invokevirtual 65, 3) := by decide +kernel
theorem dX5_takeCargo_32 : decode cX5_takeCargo 32 = .ok (.ifCond .eq 7, 3) := by decide +kernel
theorem dX5_takeCargo_35 : decode cX5_takeCargo 35 = .ok (.iconst 1, 1) := by decide +kernel
theorem dX5_takeCargo_36 : decode cX5_takeCargo 36 = .ok (.goto 37, 3) := by decide +kernel
theorem dX5_takeCargo_39 : decode cX5_takeCargo 39 = .ok (.aload_n 0, 1) := by decide +kernel
theorem dX5_takeCargo_40 : decode cX5_takeCargo 40 = .ok (.getfield 9, 3) := by decide +kernel
theorem dX5_takeCargo_43 : decode cX5_takeCargo 43 = .ok (.ldc 127, 2) := by decide +kernel
theorem dX5_takeCargo_45 : decode cX5_takeCargo 45 = .ok (.invokevirtual 65, 3) := by decide +kernel
theorem dX5_takeCargo_48 : decode cX5_takeCargo 48 = .ok (.ifCond .eq 7, 3) := by decide +kernel
theorem dX5_takeCargo_51 : decode cX5_takeCargo 51 = .ok (.iconst 2, 1) := by decide +kernel
theorem dX5_takeCargo_52 : decode cX5_takeCargo 52 = .ok (.goto 21, 3) := by decide +kernel
theorem dX5_takeCargo_55 : decode cX5_takeCargo 55 = .ok (.aload_n 0, 1) := by decide +kernel
theorem dX5_takeCargo_56 : decode cX5_takeCargo 56 = .ok (.getfield 9, 3) := by decide +kernel
theorem dX5_takeCargo_59 : decode cX5_takeCargo 59 = .ok (.ldc 129, 2) := by decide +kernel
theorem dX5_takeCargo_61 : decode cX5_takeCargo 61 = .ok (.invokevirtual 65, 3) := by decide +kernel
theorem dX5_takeCargo_64 : decode cX5_takeCargo 64 = .ok (.ifCond .eq 7, 3) := by decide +kernel
theorem dX5_takeCargo_67 : decode cX5_takeCargo 67 = .ok (.iconst 3, 1) := by decide +kernel
theorem dX5_takeCargo_68 : decode cX5_takeCargo 68 = .ok (.goto 5, 3) := by decide +kernel
theorem dX5_takeCargo_71 : decode cX5_takeCargo 71 = .ok (.bipush (-4), 2) := by decide +kernel
theorem dX5_takeCargo_73 : decode cX5_takeCargo 73 = .ok (.istore_n 2, 1) := by decide +kernel
theorem dX5_takeCargo_74 : decode cX5_takeCargo 74 = .ok (.iload_n 2, 1) := by decide +kernel
theorem dX5_takeCargo_75 : decode cX5_takeCargo 75 = .ok (.bipush (-4), 2) := by decide +kernel
theorem dX5_takeCargo_77 : decode cX5_takeCargo 77 = .ok (.if_icmp .ne 9, 3) := by decide +kernel
theorem dX5_takeCargo_80 : decode cX5_takeCargo 80 = .ok (.aload_n 0, 1) := by decide +kernel
theorem dX5_takeCargo_81 : decode cX5_takeCargo 81 = .ok (.iconst 2, 1) := by decide +kernel
theorem dX5_takeCargo_82 : decode cX5_takeCargo 82 = .ok (.invokevirtual 104, 3) := by decide +kernel
theorem dX5_takeCargo_85 : decode cX5_takeCargo 85 = .ok (.ireturn, 1) := by decide +kernel
theorem dX5_takeCargo_86 : decode cX5_takeCargo 86 = .ok (.aload_n 0, 1) := by decide +kernel
theorem dX5_takeCargo_87 : decode cX5_takeCargo 87 = .ok (.getfield 18, 3) := by decide +kernel
theorem dX5_takeCargo_90 : decode cX5_takeCargo 90 = .ok (.iload_n 1, 1) := by decide +kernel
theorem dX5_takeCargo_91 : decode cX5_takeCargo 91 = .ok (.iconst 1, 1) := by decide +kernel
theorem dX5_takeCargo_92 : decode cX5_takeCargo 92 = .ok (.iload_n 2, 1) := by decide +kernel
theorem dX5_takeCargo_93 : decode cX5_takeCargo 93 = .ok (.invokevirtual 107, 3) := by decide +kernel
theorem dX5_takeCargo_96 : decode cX5_takeCargo 96 = .ok (.iconst 1, 1) := by decide +kernel
theorem dX5_takeCargo_97 : decode cX5_takeCargo 97 = .ok (.ireturn, 1) := by decide +kernel
theorem dX5_takeRules_0 : decode cX5_takeRules 0 = .ok (.iload_n 1, 1) := by decide +kernel
theorem dX5_takeRules_1 : decode cX5_takeRules 1 = .ok (.istore_n 3, 1) := by decide +kernel
theorem dX5_takeRules_2 : decode cX5_takeRules 2 = .ok (.iload_n 3, 1) := by decide +kernel
theorem dX5_takeRules_3 : decode cX5_takeRules 3 = .ok (.iload_n 2, 1) := by decide +kernel
theorem dX5_takeRules_4 : decode cX5_takeRules 4 = .ok (.if_icmp .gt 44, 3) := by decide +kernel
theorem dX5_takeRules_7 : decode cX5_takeRules 7 = .ok (.aload_n 0, 1) := by decide +kernel
theorem dX5_takeRules_8 : decode cX5_takeRules 8 = .ok (.getstatic 131, 3) := by decide +kernel
theorem dX5_takeRules_11 : decode cX5_takeRules 11 = .ok (.iload_n 3, 1) := by decide +kernel
theorem dX5_takeRules_12 : decode cX5_takeRules 12 = .ok (.iaload, 1) := by decide +kernel
theorem dX5_takeRules_13 : decode cX5_takeRules 13 = .ok (.getstatic 134, 3) := by decide +kernel
theorem dX5_takeRules_16 : decode cX5_takeRules 16 = .ok (.iload_n 3, 1) := by decide +kernel
theorem dX5_takeRules_17 : decode cX5_takeRules 17 = .ok (.iaload, 1) := by decide +kernel
theorem dX5_takeRules_18 : decode cX5_takeRules 18 = .ok (.invokevirtual 117, 3) := by decide +kernel
theorem dX5_takeRules_21 : decode cX5_takeRules 21 = .ok (.ifCond .ne 5, 3) := by decide +kernel
theorem dX5_takeRules_24 : decode cX5_takeRules 24 = .ok (.iconst 0, 1) := by decide +kernel
theorem dX5_takeRules_25 : decode cX5_takeRules 25 = .ok (.ireturn, 1) := by decide +kernel
theorem dX5_takeRules_26 : decode cX5_takeRules 26 = .ok (.aload_n 0, 1) := by decide +kernel
theorem dX5_takeRules_27 : decode cX5_takeRules 27 = .ok (.getfield 18, 3) := by decide +kernel
theorem dX5_takeRules_30 : decode cX5_takeRules 30 = .ok (.getfield 100, 3) := by decide +kernel
theorem dX5_takeRules_33 : decode cX5_takeRules 33 = .ok (.iload_n 3, 1) := by decide +kernel
theorem dX5_takeRules_34 : decode cX5_takeRules 34 = .ok (.aload_n 0, 1) := by decide +kernel
theorem dX5_takeRules_35 : decode cX5_takeRules 35 = .ok (.getfield 9, 3) := by decide +kernel
theorem dX5_takeRules_38 : decode cX5_takeRules 38 = .ok (.getfield 120, 3) := by decide +kernel
theorem dX5_takeRules_41 : decode cX5_takeRules 41 = .ok (.iastore, 1) := by decide +kernel
theorem dX5_takeRules_42 : decode cX5_takeRules 42 = .ok (.iinc 3 1, 3) := by decide +kernel
theorem dX5_takeRules_45 : decode cX5_takeRules 45 = .ok (.goto (-43), 3) := by decide +kernel
theorem dX5_takeRules_48 : decode cX5_takeRules 48 = .ok (.iconst 1, 1) := by decide +kernel
theorem dX5_takeRules_49 : decode cX5_takeRules 49 = .ok (.ireturn, 1) := by decide +kernel
theorem dX5_takeLaw_0 : decode cX5_takeLaw 0 = .ok (.aload_n 0, 1) := by decide +kernel
theorem dX5_takeLaw_1 : decode cX5_takeLaw 1 = .ok (.getfield 9, 3) := by decide +kernel
theorem dX5_takeLaw_4 : decode cX5_takeLaw 4 = .ok (.invokevirtual 37, 3) := by decide +kernel
theorem dX5_takeLaw_7 : decode cX5_takeLaw 7 = .ok (.aload_n 0, 1) := by decide +kernel
theorem dX5_takeLaw_8 : decode cX5_takeLaw 8 = .ok (.getfield 9, 3) := by decide +kernel
theorem dX5_takeLaw_11 : decode cX5_takeLaw 11 = .ok (.ldc 137, 2) := by decide +kernel
theorem dX5_takeLaw_13 : decode cX5_takeLaw 13 = .ok (.invokevirtual 65, 3) := by decide +kernel
theorem dX5_takeLaw_16 : decode cX5_takeLaw 16 = .ok (.ifCond .eq 7, 3) := by decide +kernel
theorem dX5_takeLaw_19 : decode cX5_takeLaw 19 = .ok (.iconst 0, 1) := by decide +kernel
theorem dX5_takeLaw_20 : decode cX5_takeLaw 20 = .ok (.goto 69, 3) := by decide +kernel
theorem dX5_takeLaw_23 : decode cX5_takeLaw 23 = .ok (.aload_n 0, 1) := by decide +kernel
theorem dX5_takeLaw_24 : decode cX5_takeLaw 24 = .ok (.getfield 9, 3) := by decide +kernel
theorem dX5_takeLaw_27 : decode cX5_takeLaw 27 = .ok (.ldc 139, 2) := by decide +kernel
theorem dX5_takeLaw_29 : decode cX5_takeLaw 29 = .ok (.invokevirtual 65, 3) := by decide +kernel
theorem dX5_takeLaw_32 : decode cX5_takeLaw 32 = .ok (.ifCond .eq 7, 3) := by decide +kernel
theorem dX5_takeLaw_35 : decode cX5_takeLaw 35 = .ok (.iconst 1, 1) := by decide +kernel
theorem dX5_takeLaw_36 : decode cX5_takeLaw 36 = .ok (.goto 53, 3) := by decide +kernel
theorem dX5_takeLaw_39 : decode cX5_takeLaw 39 = .ok (.aload_n 0, 1) := by decide +kernel
theorem dX5_takeLaw_40 : decode cX5_takeLaw 40 = .ok (.getfield 9, 3) := by decide +kernel
theorem dX5_takeLaw_43 : decode cX5_takeLaw 43 = .ok (.ldc 141, 2) := by decide +kernel
theorem dX5_takeLaw_45 : decode cX5_takeLaw 45 = .ok (.invokevirtual 65, 3) := by decide +kernel
theorem dX5_takeLaw_48 : decode cX5_takeLaw 48 = .ok (.ifCond .eq 7, 3) := by decide +kernel
theorem dX5_takeLaw_51 : decode cX5_takeLaw 51 = .ok (.iconst 2, 1) := by decide +kernel
theorem dX5_takeLaw_52 : decode cX5_takeLaw 52 = .ok (.goto 37, 3) := by decide +kernel
theorem dX5_takeLaw_55 : decode cX5_takeLaw 55 = .ok (.aload_n 0, 1) := by decide +kernel
theorem dX5_takeLaw_56 : decode cX5_takeLaw 56 = .ok (.getfield 9, 3) := by decide +kernel
theorem dX5_takeLaw_59 : decode cX5_takeLaw 59 = .ok (.ldc 143, 2) := by decide +kernel
theorem dX5_takeLaw_61 : decode cX5_takeLaw 61 = .ok (.invokevirtual 65, 3) := by decide +kernel
theorem dX5_takeLaw_64 : decode cX5_takeLaw 64 = .ok (.ifCond .eq 7, 3) := by decide +kernel
theorem dX5_takeLaw_67 : decode cX5_takeLaw 67 = .ok (.iconst 3, 1) := by decide +kernel
theorem dX5_takeLaw_68 : decode cX5_takeLaw 68 = .ok (.goto 21, 3) := by decide +kernel
theorem dX5_takeLaw_71 : decode cX5_takeLaw 71 = .ok (.aload_n 0, 1) := by decide +kernel
theorem dX5_takeLaw_72 : decode cX5_takeLaw 72 = .ok (.getfield 9, 3) := by decide +kernel
theorem dX5_takeLaw_75 : decode cX5_takeLaw 75 = .ok (.ldc 145, 2) := by decide +kernel
theorem dX5_takeLaw_77 : decode cX5_takeLaw 77 = .ok (.invokevirtual 65, 3) := by decide +kernel
theorem dX5_takeLaw_80 : decode cX5_takeLaw 80 = .ok (.ifCond .eq 7, 3) := by decide +kernel
theorem dX5_takeLaw_83 : decode cX5_takeLaw 83 = .ok (.iconst 4, 1) := by decide +kernel
theorem dX5_takeLaw_84 : decode cX5_takeLaw 84 = .ok (.goto 5, 3) := by decide +kernel
theorem dX5_takeLaw_87 : decode cX5_takeLaw 87 = .ok (.bipush (-4), 2) := by decide +kernel
theorem dX5_takeLaw_89 : decode cX5_takeLaw 89 = .ok (.istore_n 1, 1) := by decide +kernel
theorem dX5_takeLaw_90 : decode cX5_takeLaw 90 = .ok (.iload_n 1, 1) := by decide +kernel
theorem dX5_takeLaw_91 : decode cX5_takeLaw 91 = .ok (.bipush (-4), 2) := by decide +kernel
theorem dX5_takeLaw_93 : decode cX5_takeLaw 93 = .ok (.if_icmp .ne 9, 3) := by decide +kernel
theorem dX5_takeLaw_96 : decode cX5_takeLaw 96 = .ok (.aload_n 0, 1) := by decide +kernel
theorem dX5_takeLaw_97 : decode cX5_takeLaw 97 = .ok (.iconst 2, 1) := by decide +kernel
theorem dX5_takeLaw_98 : decode cX5_takeLaw 98 = .ok (.invokevirtual 104, 3) := by decide +kernel
theorem dX5_takeLaw_101 : decode cX5_takeLaw 101 = .ok (.ireturn, 1) := by decide +kernel
theorem dX5_takeLaw_102 : decode cX5_takeLaw 102 = .ok (.aload_n 0, 1) := by decide +kernel
theorem dX5_takeLaw_103 : decode cX5_takeLaw 103 = .ok (.getfield 18, 3) := by decide +kernel
theorem dX5_takeLaw_106 : decode cX5_takeLaw 106 = .ok (.getfield 100, 3) := by decide +kernel
theorem dX5_takeLaw_109 : decode cX5_takeLaw 109 = .ok (.iconst 3, 1) := by decide +kernel
theorem dX5_takeLaw_110 : decode cX5_takeLaw 110 = .ok (.iload_n 1, 1) := by decide +kernel
theorem dX5_takeLaw_111 : decode cX5_takeLaw 111 = .ok (.iastore, 1) := by decide +kernel
theorem dX5_takeLaw_112 : decode cX5_takeLaw 112 = .ok (.iconst 1, 1) := by decide +kernel
theorem dX5_takeLaw_113 : decode cX5_takeLaw 113 = .ok (.ireturn, 1) := by decide +kernel
theorem dX5_takeLiar_0 : decode cX5_takeLiar 0 = .ok (.aload_n 0, 1) := by decide +kernel
theorem dX5_takeLiar_1 : decode cX5_takeLiar 1 = .ok (.iconst 0, 1) := by decide +kernel
theorem dX5_takeLiar_2 : decode cX5_takeLiar 2 = .ok (.iconst 5, 1) := by decide +kernel
theorem dX5_takeLiar_3 : decode cX5_takeLiar 3 = .ok (.invokevirtual 117, 3) := by decide +kernel
theorem dX5_takeLiar_6 : decode cX5_takeLiar 6 = .ok (.ifCond .ne 5, 3) := by decide +kernel
theorem dX5_takeLiar_9 : decode cX5_takeLiar 9 = .ok (.iconst 0, 1) := by decide +kernel
theorem dX5_takeLiar_10 : decode cX5_takeLiar 10 = .ok (.ireturn, 1) := by decide +kernel
theorem dX5_takeLiar_11 : decode cX5_takeLiar 11 = .ok (.aload_n 0, 1) := by decide +kernel
theorem dX5_takeLiar_12 : decode cX5_takeLiar 12 = .ok (.getfield 18, 3) := by decide +kernel
theorem dX5_takeLiar_15 : decode cX5_takeLiar 15 = .ok (.getfield 47, 3) := by decide +kernel
theorem dX5_takeLiar_18 : decode cX5_takeLiar 18 = .ok (.aload_n 0, 1) := by decide +kernel
theorem dX5_takeLiar_19 : decode cX5_takeLiar 19 = .ok (.getfield 9, 3) := by decide +kernel
theorem dX5_takeLiar_22 : decode cX5_takeLiar 22 = .ok (.getfield 120, 3) := by decide +kernel
theorem dX5_takeLiar_25 : decode cX5_takeLiar 25 = .ok (.ishr, 1) := by decide +kernel
theorem dX5_takeLiar_26 : decode cX5_takeLiar 26 = .ok (.iconst 1, 1) := by decide +kernel
theorem dX5_takeLiar_27 : decode cX5_takeLiar 27 = .ok (.iand, 1) := by decide +kernel
theorem dX5_takeLiar_28 : decode cX5_takeLiar 28 = .ok (.iconst 1, 1) := by decide +kernel
theorem dX5_takeLiar_29 : decode cX5_takeLiar 29 = .ok (.if_icmp .ne 9, 3) := by decide +kernel
theorem dX5_takeLiar_32 : decode cX5_takeLiar 32 = .ok (.aload_n 0, 1) := by decide +kernel
theorem dX5_takeLiar_33 : decode cX5_takeLiar 33 = .ok (.iconst 4, 1) := by decide +kernel
theorem dX5_takeLiar_34 : decode cX5_takeLiar 34 = .ok (.invokevirtual 104, 3) := by decide +kernel
theorem dX5_takeLiar_37 : decode cX5_takeLiar 37 = .ok (.ireturn, 1) := by decide +kernel
theorem dX5_takeLiar_38 : decode cX5_takeLiar 38 = .ok (.aload_n 0, 1) := by decide +kernel
theorem dX5_takeLiar_39 : decode cX5_takeLiar 39 = .ok (.getfield 18, 3) := by decide +kernel
theorem dX5_takeLiar_42 : decode cX5_takeLiar 42 = .ok (.dup, 1) := by decide +kernel
theorem dX5_takeLiar_43 : decode cX5_takeLiar 43 = .ok (.getfield 47, 3) := by decide +kernel
theorem dX5_takeLiar_46 : decode cX5_takeLiar 46 = .ok (.iconst 1, 1) := by decide +kernel
theorem dX5_takeLiar_47 : decode cX5_takeLiar 47 = .ok (.aload_n 0, 1) := by decide +kernel
theorem dX5_takeLiar_48 : decode cX5_takeLiar 48 = .ok (.getfield 9, 3) := by decide +kernel
theorem dX5_takeLiar_51 : decode cX5_takeLiar 51 = .ok (.getfield 120, 3) := by decide +kernel
theorem dX5_takeLiar_54 : decode cX5_takeLiar 54 = .ok (.ishl, 1) := by decide +kernel
theorem dX5_takeLiar_55 : decode cX5_takeLiar 55 = .ok (.ior, 1) := by decide +kernel
theorem dX5_takeLiar_56 : decode cX5_takeLiar 56 = .ok (.putfield 47, 3) := by decide +kernel
theorem dX5_takeLiar_59 : decode cX5_takeLiar 59 = .ok (.iconst 1, 1) := by decide +kernel
theorem dX5_takeLiar_60 : decode cX5_takeLiar 60 = .ok (.ireturn, 1) := by decide +kernel
theorem dX5_takeNumber_0 : decode cX5_takeNumber 0 = .ok (.aload_n 0, 1) := by decide +kernel
theorem dX5_takeNumber_1 : decode cX5_takeNumber 1 = .ok (.getfield 9, 3) := by decide +kernel
theorem dX5_takeNumber_4 : decode cX5_takeNumber 4 = .ok (.invokevirtual 37, 3) := by decide +kernel
theorem dX5_takeNumber_7 : decode cX5_takeNumber 7 = .ok (.aload_n 0, 1) := by decide +kernel
theorem dX5_takeNumber_8 : decode cX5_takeNumber 8 = .ok (.getfield 9, 3) := by decide +kernel
theorem dX5_takeNumber_11 : decode cX5_takeNumber 11 = .ok (.getfield 40, 3) := by decide +kernel
theorem dX5_takeNumber_14 : decode cX5_takeNumber 14 = .ok (.iconst 1, 1) := by decide +kernel
theorem dX5_takeNumber_15 : decode cX5_takeNumber 15 = .ok (.if_icmp .eq 9, 3) := by decide +kernel
theorem dX5_takeNumber_18 : decode cX5_takeNumber 18 = .ok (.aload_n 0, 1) := by decide +kernel
theorem dX5_takeNumber_19 : decode cX5_takeNumber 19 = .ok (.iconst 2, 1) := by decide +kernel
theorem dX5_takeNumber_20 : decode cX5_takeNumber 20 = .ok (.invokevirtual 104, 3) := by decide +kernel
theorem dX5_takeNumber_23 : decode cX5_takeNumber 23 = .ok (.ireturn, 1) := by decide +kernel
theorem dX5_takeNumber_24 : decode cX5_takeNumber 24 = .ok (.aload_n 0, 1) := by decide +kernel
theorem dX5_takeNumber_25 : decode cX5_takeNumber 25 = .ok (.getfield 9, 3) := by decide +kernel
theorem dX5_takeNumber_28 : decode cX5_takeNumber 28 = .ok (.getfield 120, 3) := by decide +kernel
theorem dX5_takeNumber_31 : decode cX5_takeNumber 31 = .ok (.iload_n 1, 1) := by decide +kernel
theorem dX5_takeNumber_32 : decode cX5_takeNumber 32 = .ok (.iload_n 2, 1) := by decide +kernel
theorem dX5_takeNumber_33 : decode cX5_takeNumber 33 = .ok (.invokestatic 147, 3) := by decide +kernel
theorem dX5_takeNumber_36 : decode cX5_takeNumber 36 = .ok (.ifCond .ne 11, 3) := by decide +kernel
theorem dX5_takeNumber_39 : decode cX5_takeNumber 39 = .ok (.aload_n 0, 1) := by decide +kernel
theorem dX5_takeNumber_40 : decode cX5_takeNumber 40 = .ok (.iconst 3, 1) := by decide +kernel
theorem dX5_takeNumber_41 : decode cX5_takeNumber 41 = .ok (.invokevirtual 104, 3) := by decide +kernel
theorem dX5_takeNumber_44 : decode cX5_takeNumber 44 = .ok (.ifCond .eq 7, 3) := by decide +kernel
theorem dX5_takeNumber_47 : decode cX5_takeNumber 47 = .ok (.iconst 1, 1) := by decide +kernel
theorem dX5_takeNumber_48 : decode cX5_takeNumber 48 = .ok (.goto 4, 3) := by decide +kernel
theorem dX5_takeNumber_51 : decode cX5_takeNumber 51 = .ok (.iconst 0, 1) := by decide +kernel
theorem dX5_takeNumber_52 : decode cX5_takeNumber 52 = .ok (.ireturn, 1) := by decide +kernel
theorem dX5_takeStop_0 : decode cX5_takeStop 0 = .ok (.aload_n 0, 1) := by decide +kernel
theorem dX5_takeStop_1 : decode cX5_takeStop 1 = .ok (.getfield 9, 3) := by decide +kernel
theorem dX5_takeStop_4 : decode cX5_takeStop 4 = .ok (.invokevirtual 37, 3) := by decide +kernel
theorem dX5_takeStop_7 : decode cX5_takeStop 7 = .ok (.aload_n 0, 1) := by decide +kernel
theorem dX5_takeStop_8 : decode cX5_takeStop 8 = .ok (.getfield 9, 3) := by decide +kernel
theorem dX5_takeStop_11 : decode cX5_takeStop 11 = .ok (.getfield 40, 3) := by decide +kernel
theorem dX5_takeStop_14 : decode cX5_takeStop 14 = .ok (.iconst 2, 1) := by decide +kernel
theorem dX5_takeStop_15 : decode cX5_takeStop 15 = .ok (.if_icmp .eq 11, 3) := by decide +kernel
theorem dX5_takeStop_18 : decode cX5_takeStop 18 = .ok (.aload_n 0, 1) := by decide +kernel
theorem dX5_takeStop_19 : decode cX5_takeStop 19 = .ok (.iconst 2, 1) := by decide +kernel
theorem dX5_takeStop_20 : decode cX5_takeStop 20 = .ok (.invokevirtual 104, 3) := by decide +kernel
theorem dX5_takeStop_23 : decode cX5_takeStop 23 = .ok (.ifCond .eq 7, 3) := by decide +kernel
theorem dX5_takeStop_26 : decode cX5_takeStop 26 = .ok (.iconst 1, 1) := by decide +kernel
theorem dX5_takeStop_27 : decode cX5_takeStop 27 = .ok (.goto 4, 3) := by decide +kernel
theorem dX5_takeStop_30 : decode cX5_takeStop 30 = .ok (.iconst 0, 1) := by decide +kernel
theorem dX5_takeStop_31 : decode cX5_takeStop 31 = .ok (.ireturn, 1) := by decide +kernel
theorem dX5_blameToken_0 : decode cX5_blameToken 0 = .ok (.aload_n 0, 1) := by decide +kernel
theorem dX5_blameToken_1 : decode cX5_blameToken 1 = .ok (.aload_n 0, 1) := by decide +kernel
theorem dX5_blameToken_2 : decode cX5_blameToken 2 = .ok (.getfield 9, 3) := by decide +kernel
theorem dX5_blameToken_5 : decode cX5_blameToken 5 = .ok (.getfield 40, 3) := by decide +kernel
theorem dX5_blameToken_8 : decode cX5_blameToken 8 = .ok (.iconst 4, 1) := by decide +kernel
theorem dX5_blameToken_9 : decode cX5_blameToken 9 = .ok (.if_icmp .ne 7, 3) := by decide +kernel
theorem dX5_blameToken_12 : decode cX5_blameToken 12 = .ok (.iconst 1, 1) := by decide +kernel
theorem dX5_blameToken_13 : decode cX5_blameToken 13 = .ok (.goto 4, 3) := by decide +kernel
theorem dX5_blameToken_16 : decode cX5_blameToken 16 = .ok (.iload_n 1, 1) := by decide +kernel
theorem dX5_blameToken_17 : decode cX5_blameToken 17 = .ok (.aload_n 0, 1) := by decide +kernel
theorem dX5_blameToken_18 : decode cX5_blameToken 18 = .ok (.getfield 9, 3) := by decide +kernel
theorem dX5_blameToken_21 : decode cX5_blameToken 21 = .ok (.getfield 151, 3) := by decide +kernel
theorem dX5_blameToken_24 : decode cX5_blameToken 24 = .ok (.invokevirtual 56, 3) := by decide +kernel
theorem dX5_blameToken_27 : decode cX5_blameToken 27 = .ok (.ireturn, 1) := by decide +kernel
theorem dX5_blame_0 : decode cX5_blame 0 = .ok (.aload_n 0, 1) := by decide +kernel
theorem dX5_blame_1 : decode cX5_blame 1 = .ok (.iload_n 1, 1) := by decide +kernel
theorem dX5_blame_2 : decode cX5_blame 2 = .ok (.putfield 30, 3) := by decide +kernel
theorem dX5_blame_5 : decode cX5_blame 5 = .ok (.aload_n 0, 1) := by decide +kernel
theorem dX5_blame_6 : decode cX5_blame 6 = .ok (.iload_n 2, 1) := by decide +kernel
theorem dX5_blame_7 : decode cX5_blame 7 = .ok (.putfield 60, 3) := by decide +kernel
theorem dX5_blame_10 : decode cX5_blame 10 = .ok (.iconst 0, 1) := by decide +kernel
theorem dX5_blame_11 : decode cX5_blame 11 = .ok (.ireturn, 1) := by decide +kernel
theorem dJ6_bitCount_0f7a4_0 : decode cJ6_bitCount_0f7a4 0 = .ok (.iload_n 0, 1) := by decide +kernel
theorem dJ6_bitCount_0f7a4_1 : decode cJ6_bitCount_0f7a4 1 = .ok (.iload_n 0, 1) := by decide +kernel
theorem dJ6_bitCount_0f7a4_2 : decode cJ6_bitCount_0f7a4 2 = .ok (.iconst 1, 1) := by decide +kernel
theorem dJ6_bitCount_0f7a4_3 : decode cJ6_bitCount_0f7a4 3 = .ok (.iushr, 1) := by decide +kernel
theorem dJ6_bitCount_0f7a4_4 : decode cJ6_bitCount_0f7a4 4 = .ok (.ldc_w 265, 3) := by decide +kernel
theorem dJ6_bitCount_0f7a4_7 : decode cJ6_bitCount_0f7a4 7 = .ok (.iand, 1) := by decide +kernel
theorem dJ6_bitCount_0f7a4_8 : decode cJ6_bitCount_0f7a4 8 = .ok (.isub, 1) := by decide +kernel
theorem dJ6_bitCount_0f7a4_9 : decode cJ6_bitCount_0f7a4 9 = .ok (.istore_n 0, 1) := by decide +kernel
theorem dJ6_bitCount_0f7a4_10 : decode cJ6_bitCount_0f7a4 10 = .ok (.iload_n 0, 1) := by decide +kernel
theorem dJ6_bitCount_0f7a4_11 : decode cJ6_bitCount_0f7a4 11 = .ok (.ldc_w 266, 3) := by decide +kernel
theorem dJ6_bitCount_0f7a4_14 : decode cJ6_bitCount_0f7a4 14 = .ok (.iand, 1) := by decide +kernel
theorem dJ6_bitCount_0f7a4_15 : decode cJ6_bitCount_0f7a4 15 = .ok (.iload_n 0, 1) := by decide +kernel
theorem dJ6_bitCount_0f7a4_16 : decode cJ6_bitCount_0f7a4 16 = .ok (.iconst 2, 1) := by decide +kernel
theorem dJ6_bitCount_0f7a4_17 : decode cJ6_bitCount_0f7a4 17 = .ok (.iushr, 1) := by decide +kernel
theorem dJ6_bitCount_0f7a4_18 : decode cJ6_bitCount_0f7a4 18 = .ok (.ldc_w 266, 3) := by decide +kernel
theorem dJ6_bitCount_0f7a4_21 : decode cJ6_bitCount_0f7a4 21 = .ok (.iand, 1) := by decide +kernel
theorem dJ6_bitCount_0f7a4_22 : decode cJ6_bitCount_0f7a4 22 = .ok (.iadd, 1) := by decide +kernel
theorem dJ6_bitCount_0f7a4_23 : decode cJ6_bitCount_0f7a4 23 = .ok (.istore_n 0, 1) := by decide +kernel
theorem dJ6_bitCount_0f7a4_24 : decode cJ6_bitCount_0f7a4 24 = .ok (.iload_n 0, 1) := by decide +kernel
theorem dJ6_bitCount_0f7a4_25 : decode cJ6_bitCount_0f7a4 25 = .ok (.iload_n 0, 1) := by decide +kernel
theorem dJ6_bitCount_0f7a4_26 : decode cJ6_bitCount_0f7a4 26 = .ok (.iconst 4, 1) := by decide +kernel
theorem dJ6_bitCount_0f7a4_27 : decode cJ6_bitCount_0f7a4 27 = .ok (.iushr, 1) := by decide +kernel
theorem dJ6_bitCount_0f7a4_28 : decode cJ6_bitCount_0f7a4 28 = .ok (.iadd, 1) := by decide +kernel
theorem dJ6_bitCount_0f7a4_29 : decode cJ6_bitCount_0f7a4 29 = .ok (.ldc_w 267, 3) := by decide +kernel
theorem dJ6_bitCount_0f7a4_32 : decode cJ6_bitCount_0f7a4 32 = .ok (.iand, 1) := by decide +kernel
theorem dJ6_bitCount_0f7a4_33 : decode cJ6_bitCount_0f7a4 33 = .ok (.istore_n 0, 1) := by decide +kernel
theorem dJ6_bitCount_0f7a4_34 : decode cJ6_bitCount_0f7a4 34 = .ok (.iload_n 0, 1) := by decide +kernel
theorem dJ6_bitCount_0f7a4_35 : decode cJ6_bitCount_0f7a4 35 = .ok (.iload_n 0, 1) := by decide +kernel
theorem dJ6_bitCount_0f7a4_36 : decode cJ6_bitCount_0f7a4 36 = .ok (.bipush 8, 2) := by decide +kernel
theorem dJ6_bitCount_0f7a4_38 : decode cJ6_bitCount_0f7a4 38 = .ok (.iushr, 1) := by decide +kernel
theorem dJ6_bitCount_0f7a4_39 : decode cJ6_bitCount_0f7a4 39 = .ok (.iadd, 1) := by decide +kernel
theorem dJ6_bitCount_0f7a4_40 : decode cJ6_bitCount_0f7a4 40 = .ok (.istore_n 0, 1) := by decide +kernel
theorem dJ6_bitCount_0f7a4_41 : decode cJ6_bitCount_0f7a4 41 = .ok (.iload_n 0, 1) := by decide +kernel
theorem dJ6_bitCount_0f7a4_42 : decode cJ6_bitCount_0f7a4 42 = .ok (.iload_n 0, 1) := by decide +kernel
theorem dJ6_bitCount_0f7a4_43 : decode cJ6_bitCount_0f7a4 43 = .ok (.bipush 16, 2) := by decide +kernel
theorem dJ6_bitCount_0f7a4_45 : decode cJ6_bitCount_0f7a4 45 = .ok (.iushr, 1) := by decide +kernel
theorem dJ6_bitCount_0f7a4_46 : decode cJ6_bitCount_0f7a4 46 = .ok (.iadd, 1) := by decide +kernel
theorem dJ6_bitCount_0f7a4_47 : decode cJ6_bitCount_0f7a4 47 = .ok (.istore_n 0, 1) := by decide +kernel
theorem dJ6_bitCount_0f7a4_48 : decode cJ6_bitCount_0f7a4 48 = .ok (.iload_n 0, 1) := by decide +kernel
theorem dJ6_bitCount_0f7a4_49 : decode cJ6_bitCount_0f7a4 49 = .ok (.bipush 63, 2) := by decide +kernel
theorem dJ6_bitCount_0f7a4_51 : decode cJ6_bitCount_0f7a4 51 = .ok (.iand, 1) := by decide +kernel
theorem dJ6_bitCount_0f7a4_52 : decode cJ6_bitCount_0f7a4 52 = .ok (.ireturn, 1) := by decide +kernel
theorem dJ9_max_7cf53_0 : decode cJ9_max_7cf53 0 = .ok (.iload_n 0, 1) := by decide +kernel
theorem dJ9_max_7cf53_1 : decode cJ9_max_7cf53 1 = .ok (.iload_n 1, 1) := by decide +kernel
theorem dJ9_max_7cf53_2 : decode cJ9_max_7cf53 2 = .ok (.if_icmp .lt 7, 3) := by decide +kernel
theorem dJ9_max_7cf53_5 : decode cJ9_max_7cf53 5 = .ok (.iload_n 0, 1) := by decide +kernel
theorem dJ9_max_7cf53_6 : decode cJ9_max_7cf53 6 = .ok (.goto 4, 3) := by decide +kernel
theorem dJ9_max_7cf53_9 : decode cJ9_max_7cf53 9 = .ok (.iload_n 1, 1) := by decide +kernel
theorem dJ9_max_7cf53_10 : decode cJ9_max_7cf53 10 = .ok (.ireturn, 1) := by decide +kernel
theorem dJ9_min_7cf53_0 : decode cJ9_min_7cf53 0 = .ok (.iload_n 0, 1) := by decide +kernel
theorem dJ9_min_7cf53_1 : decode cJ9_min_7cf53 1 = .ok (.iload_n 1, 1) := by decide +kernel
theorem dJ9_min_7cf53_2 : decode cJ9_min_7cf53 2 = .ok (.if_icmp .gt 7, 3) := by decide +kernel
theorem dJ9_min_7cf53_5 : decode cJ9_min_7cf53 5 = .ok (.iload_n 0, 1) := by decide +kernel
theorem dJ9_min_7cf53_6 : decode cJ9_min_7cf53 6 = .ok (.goto 4, 3) := by decide +kernel
theorem dJ9_min_7cf53_9 : decode cJ9_min_7cf53 9 = .ok (.iload_n 1, 1) := by decide +kernel
theorem dJ9_min_7cf53_10 : decode cJ9_min_7cf53 10 = .ok (.ireturn, 1) := by decide +kernel
theorem dJ0_length_8abf5_0 : decode cJ0_length_8abf5 0 = .ok (.aload_n 0, 1) := by decide +kernel
theorem dJ0_length_8abf5_1 : decode cJ0_length_8abf5 1 = .ok (.getfield 9, 3) := by decide +kernel
theorem dJ0_length_8abf5_4 : decode cJ0_length_8abf5 4 = .ok (.arraylength, 1) := by decide +kernel
theorem dJ0_length_8abf5_5 : decode cJ0_length_8abf5 5 = .ok (.aload_n 0, 1) := by decide +kernel
theorem dJ0_length_8abf5_6 : decode cJ0_length_8abf5 6 = .ok (.invokevirtual 335, 3) := by decide +kernel
theorem dJ0_length_8abf5_9 : decode cJ0_length_8abf5 9 = .ok (.ishr, 1) := by decide +kernel
theorem dJ0_length_8abf5_10 : decode cJ0_length_8abf5 10 = .ok (.ireturn, 1) := by decide +kernel
theorem dJ0_charAt_5068e_0 : decode cJ0_charAt_5068e 0 = .ok (.aload_n 0, 1) := by decide +kernel
theorem dJ0_charAt_5068e_1 : decode cJ0_charAt_5068e 1 = .ok (.invokevirtual 492, 3) := by decide +kernel
theorem dJ0_charAt_5068e_4 : decode cJ0_charAt_5068e 4 = .ok (.ifCond .eq 12, 3) := by decide +kernel
theorem dJ0_charAt_5068e_7 : decode cJ0_charAt_5068e 7 = .ok (.aload_n 0, 1) := by decide +kernel
theorem dJ0_charAt_5068e_8 : decode cJ0_charAt_5068e 8 = .ok (.getfield 9, 3) := by decide +kernel
theorem dJ0_charAt_5068e_11 : decode cJ0_charAt_5068e 11 = .ok (.iload_n 1, 1) := by decide +kernel
theorem dJ0_charAt_5068e_12 : decode cJ0_charAt_5068e 12 = .ok (.invokestatic 495, 3) := by decide +kernel
theorem dJ0_charAt_5068e_15 : decode cJ0_charAt_5068e 15 = .ok (.ireturn, 1) := by decide +kernel
theorem dJ0_charAt_5068e_16 : decode cJ0_charAt_5068e 16 = .ok (.aload_n 0, 1) := by decide +kernel
theorem dJ0_charAt_5068e_17 : decode cJ0_charAt_5068e 17 = .ok (.getfield 9, 3) := by decide +kernel
theorem dJ0_charAt_5068e_20 : decode cJ0_charAt_5068e 20 = .ok (.iload_n 1, 1) := by decide +kernel
theorem dJ0_charAt_5068e_21 : decode cJ0_charAt_5068e 21 = .ok (.invokestatic 498, 3) := by decide +kernel
theorem dJ0_charAt_5068e_24 : decode cJ0_charAt_5068e 24 = .ok (.ireturn, 1) := by decide +kernel
theorem dJ0_coder_7d493_0 : decode cJ0_coder_7d493 0 = .ok (.getstatic 38, 3) := by decide +kernel
theorem dJ0_coder_7d493_3 : decode cJ0_coder_7d493 3 = .ok (.ifCond .eq 10, 3) := by decide +kernel
theorem dJ0_coder_7d493_6 : decode cJ0_coder_7d493 6 = .ok (.aload_n 0, 1) := by decide +kernel
theorem dJ0_coder_7d493_7 : decode cJ0_coder_7d493 7 = .ok (.getfield 15, 3) := by decide +kernel
theorem dJ0_coder_7d493_10 : decode cJ0_coder_7d493 10 = .ok (.goto 4, 3) := by decide +kernel
theorem dJ0_coder_7d493_13 : decode cJ0_coder_7d493 13 = .ok (.iconst 1, 1) := by decide +kernel
theorem dJ0_coder_7d493_14 : decode cJ0_coder_7d493 14 = .ok (.ireturn, 1) := by decide +kernel
theorem dJ0_isLatin1_aae02_0 : decode cJ0_isLatin1_aae02 0 = .ok (.getstatic 38, 3) := by decide +kernel
theorem dJ0_isLatin1_aae02_3 : decode cJ0_isLatin1_aae02 3 = .ok (.ifCond .eq 14, 3) := by decide +kernel
theorem dJ0_isLatin1_aae02_6 : decode cJ0_isLatin1_aae02 6 = .ok (.aload_n 0, 1) := by decide +kernel
theorem dJ0_isLatin1_aae02_7 : decode cJ0_isLatin1_aae02 7 = .ok (.getfield 15, 3) := by decide +kernel
theorem dJ0_isLatin1_aae02_10 : decode cJ0_isLatin1_aae02 10 = .ok (.ifCond .ne 7, 3) := by decide +kernel
theorem dJ0_isLatin1_aae02_13 : decode cJ0_isLatin1_aae02 13 = .ok (.iconst 1, 1) := by decide +kernel
theorem dJ0_isLatin1_aae02_14 : decode cJ0_isLatin1_aae02 14 = .ok (.goto 4, 3) := by decide +kernel
theorem dJ0_isLatin1_aae02_17 : decode cJ0_isLatin1_aae02 17 = .ok (.iconst 0, 1) := by decide +kernel
theorem dJ0_isLatin1_aae02_18 : decode cJ0_isLatin1_aae02 18 = .ok (.ireturn, 1) := by decide +kernel
theorem dJ0_checkIndex_df160_0 : decode cJ0_checkIndex_df160 0 = .ok (.iload_n 0, 1) := by decide +kernel
theorem dJ0_checkIndex_df160_1 : decode cJ0_checkIndex_df160 1 = .ok (.iload_n 1, 1) := by decide +kernel
theorem dJ0_checkIndex_df160_2 : decode cJ0_checkIndex_df160 2 = .ok (.getstatic 1053, 3) := by decide +kernel
theorem dJ0_checkIndex_df160_5 : decode cJ0_checkIndex_df160 5 = .ok (.invokestatic 1059, 3) := by decide +kernel
theorem dJ0_checkIndex_df160_8 : decode cJ0_checkIndex_df160 8 = .ok (.pop, 1) := by decide +kernel
theorem dJ0_checkIndex_df160_9 : decode cJ0_checkIndex_df160 9 = .ok (.return_, 1) := by decide +kernel
theorem dJ1_charAt_3b067_0 : decode cJ1_charAt_3b067 0 = .ok (.iload_n 1, 1) := by decide +kernel
theorem dJ1_charAt_3b067_1 : decode cJ1_charAt_3b067 1 = .ok (.aload_n 0, 1) := by decide +kernel
theorem dJ1_charAt_3b067_2 : decode cJ1_charAt_3b067 2 = .ok (.arraylength, 1) := by decide +kernel
theorem dJ1_charAt_3b067_3 : decode cJ1_charAt_3b067 3 = .ok (.invokestatic 9, 3) := by decide +kernel
theorem dJ1_charAt_3b067_6 : decode cJ1_charAt_3b067 6 = .ok (.aload_n 0, 1) := by decide +kernel
theorem dJ1_charAt_3b067_7 : decode cJ1_charAt_3b067 7 = .ok (.iload_n 1, 1) := by decide +kernel
theorem dJ1_charAt_3b067_8 : decode cJ1_charAt_3b067 8 = .ok (.baload, 1) := by decide +kernel
theorem dJ1_charAt_3b067_9 : decode cJ1_charAt_3b067 9 = .ok (.sipush 255, 3) := by decide +kernel
theorem dJ1_charAt_3b067_12 : decode cJ1_charAt_3b067 12 = .ok (.iand, 1) := by decide +kernel
theorem dJ1_charAt_3b067_13 : decode cJ1_charAt_3b067 13 = .ok (.i2c, 1) := by decide +kernel
theorem dJ1_charAt_3b067_14 : decode cJ1_charAt_3b067 14 = .ok (.ireturn, 1) := by decide +kernel
theorem dJ2_getChar_3b067_0 : decode cJ2_getChar_3b067 0 = .ok (.getstatic 44, 3) := by decide +kernel
theorem dJ2_getChar_3b067_3 : decode cJ2_getChar_3b067 3 = .ok (.ifCond .ne 25, 3) := by decide +kernel
theorem dJ2_getChar_3b067_6 : decode cJ2_getChar_3b067 6 = .ok (.iload_n 1, 1) := by decide +kernel
theorem dJ2_getChar_3b067_7 : decode cJ2_getChar_3b067 7 = .ok (.ifCond .lt 11, 3) := by decide +kernel
theorem dJ2_getChar_3b067_10 : decode cJ2_getChar_3b067 10 = .ok (.iload_n 1, 1) := by decide +kernel
theorem dJ2_getChar_3b067_11 : decode cJ2_getChar_3b067 11 = .ok (.aload_n 0, 1) := by decide +kernel
theorem dJ2_getChar_3b067_12 : decode cJ2_getChar_3b067 12 = .ok (.invokestatic 48, 3) := by decide +kernel
theorem dJ2_getChar_3b067_15 : decode cJ2_getChar_3b067 15 = .ok (.if_icmp .lt 13, 3) := by decide +kernel
theorem dJ2_getChar_3b067_18 : decode cJ2_getChar_3b067 18 = .ok (.new 52, 3) := by decide +kernel
theorem dJ2_getChar_3b067_21 : decode cJ2_getChar_3b067 21 = .ok (.dup, 1) := by decide +kernel
theorem dJ2_getChar_3b067_22 : decode cJ2_getChar_3b067 22 = .ok (.ldc 54, 2) := by decide +kernel
theorem dJ2_getChar_3b067_24 : decode cJ2_getChar_3b067 24 = .ok (.invokespecial 56, 3) := by decide +kernel
theorem dJ2_getChar_3b067_27 : decode cJ2_getChar_3b067 27 = .ok (.athrow, 1) := by decide +kernel
theorem dJ2_getChar_3b067_28 : decode cJ2_getChar_3b067 28 = .ok (.iload_n 1, 1) := by decide +kernel
theorem dJ2_getChar_3b067_29 : decode cJ2_getChar_3b067 29 = .ok (.iconst 1, 1) := by decide +kernel
theorem dJ2_getChar_3b067_30 : decode cJ2_getChar_3b067 30 = .ok (.ishl, 1) := by decide +kernel
theorem dJ2_getChar_3b067_31 : decode cJ2_getChar_3b067 31 = .ok (.istore_n 1, 1) := by decide +kernel
theorem dJ2_getChar_3b067_32 : decode cJ2_getChar_3b067 32 = .ok (.aload_n 0, 1) := by decide +kernel
theorem dJ2_getChar_3b067_33 : decode cJ2_getChar_3b067 33 = .ok (.iload_n 1, 1) := by decide +kernel
theorem dJ2_getChar_3b067_34 : decode cJ2_getChar_3b067 34 = .ok (.iinc 1 1, 3) := by decide +kernel
theorem dJ2_getChar_3b067_37 : decode cJ2_getChar_3b067 37 = .ok (.baload, 1) := by decide +kernel
theorem dJ2_getChar_3b067_38 : decode cJ2_getChar_3b067 38 = .ok (.sipush 255, 3) := by decide +kernel
theorem dJ2_getChar_3b067_41 : decode cJ2_getChar_3b067 41 = .ok (.iand, 1) := by decide +kernel
theorem dJ2_getChar_3b067_42 : decode cJ2_getChar_3b067 42 = .ok (.getstatic 59, 3) := by decide +kernel
theorem dJ2_getChar_3b067_45 : decode cJ2_getChar_3b067 45 = .ok (.ishl, 1) := by decide +kernel
theorem dJ2_getChar_3b067_46 : decode cJ2_getChar_3b067 46 = .ok (.aload_n 0, 1) := by decide +kernel
theorem dJ2_getChar_3b067_47 : decode cJ2_getChar_3b067 47 = .ok (.iload_n 1, 1) := by decide +kernel
theorem dJ2_getChar_3b067_48 : decode cJ2_getChar_3b067 48 = .ok (.baload, 1) := by decide +kernel
theorem dJ2_getChar_3b067_49 : decode cJ2_getChar_3b067 49 = .ok (.sipush 255, 3) := by decide +kernel
theorem dJ2_getChar_3b067_52 : decode cJ2_getChar_3b067 52 = .ok (.iand, 1) := by decide +kernel
theorem dJ2_getChar_3b067_53 : decode cJ2_getChar_3b067 53 = .ok (.getstatic 63, 3) := by decide +kernel
theorem dJ2_getChar_3b067_56 : decode cJ2_getChar_3b067 56 = .ok (.ishl, 1) := by decide +kernel
theorem dJ2_getChar_3b067_57 : decode cJ2_getChar_3b067 57 = .ok (.ior, 1) := by decide +kernel
theorem dJ2_getChar_3b067_58 : decode cJ2_getChar_3b067 58 = .ok (.i2c, 1) := by decide +kernel
theorem dJ2_getChar_3b067_59 : decode cJ2_getChar_3b067 59 = .ok (.ireturn, 1) := by decide +kernel
theorem dJ2_length_9d52b_0 : decode cJ2_length_9d52b 0 = .ok (.aload_n 0, 1) := by decide +kernel
theorem dJ2_length_9d52b_1 : decode cJ2_length_9d52b 1 = .ok (.arraylength, 1) := by decide +kernel
theorem dJ2_length_9d52b_2 : decode cJ2_length_9d52b 2 = .ok (.iconst 1, 1) := by decide +kernel
theorem dJ2_length_9d52b_3 : decode cJ2_length_9d52b 3 = .ok (.ishr, 1) := by decide +kernel
theorem dJ2_length_9d52b_4 : decode cJ2_length_9d52b 4 = .ok (.ireturn, 1) := by decide +kernel
theorem dJ2_charAt_3b067_0 : decode cJ2_charAt_3b067 0 = .ok (.iload_n 1, 1) := by decide +kernel
theorem dJ2_charAt_3b067_1 : decode cJ2_charAt_3b067 1 = .ok (.aload_n 0, 1) := by decide +kernel
theorem dJ2_charAt_3b067_2 : decode cJ2_charAt_3b067 2 = .ok (.invokestatic 67, 3) := by decide +kernel
theorem dJ2_charAt_3b067_5 : decode cJ2_charAt_3b067 5 = .ok (.aload_n 0, 1) := by decide +kernel
theorem dJ2_charAt_3b067_6 : decode cJ2_charAt_3b067 6 = .ok (.iload_n 1, 1) := by decide +kernel
theorem dJ2_charAt_3b067_7 : decode cJ2_charAt_3b067 7 = .ok (.invokestatic 71, 3) := by decide +kernel
theorem dJ2_charAt_3b067_10 : decode cJ2_charAt_3b067 10 = .ok (.ireturn, 1) := by decide +kernel
theorem dJ2_checkIndex_2214a_0 : decode cJ2_checkIndex_2214a 0 = .ok (.iload_n 0, 1) := by decide +kernel
theorem dJ2_checkIndex_2214a_1 : decode cJ2_checkIndex_2214a 1 = .ok (.aload_n 1, 1) := by decide +kernel
theorem dJ2_checkIndex_2214a_2 : decode cJ2_checkIndex_2214a 2 = .ok (.invokestatic 48, 3) := by decide +kernel
theorem dJ2_checkIndex_2214a_5 : decode cJ2_checkIndex_2214a 5 = .ok (.invokestatic 414, 3) := by decide +kernel
theorem dJ2_checkIndex_2214a_8 : decode cJ2_checkIndex_2214a 8 = .ok (.return_, 1) := by decide +kernel
theorem dJ7_fill_53178_0 : decode cJ7_fill_53178 0 = .ok (.iconst 0, 1) := by decide +kernel
theorem dJ7_fill_53178_1 : decode cJ7_fill_53178 1 = .ok (.istore_n 2, 1) := by decide +kernel
theorem dJ7_fill_53178_2 : decode cJ7_fill_53178 2 = .ok (.aload_n 0, 1) := by decide +kernel
theorem dJ7_fill_53178_3 : decode cJ7_fill_53178 3 = .ok (.arraylength, 1) := by decide +kernel
theorem dJ7_fill_53178_4 : decode cJ7_fill_53178 4 = .ok (.istore_n 3, 1) := by decide +kernel
theorem dJ7_fill_53178_5 : decode cJ7_fill_53178 5 = .ok (.iload_n 2, 1) := by decide +kernel
theorem dJ7_fill_53178_6 : decode cJ7_fill_53178 6 = .ok (.iload_n 3, 1) := by decide +kernel
theorem dJ7_fill_53178_7 : decode cJ7_fill_53178 7 = .ok (.if_icmp .ge 13, 3) := by decide +kernel
theorem dJ7_fill_53178_10 : decode cJ7_fill_53178 10 = .ok (.aload_n 0, 1) := by decide +kernel
theorem dJ7_fill_53178_11 : decode cJ7_fill_53178 11 = .ok (.iload_n 2, 1) := by decide +kernel
theorem dJ7_fill_53178_12 : decode cJ7_fill_53178 12 = .ok (.iload_n 1, 1) := by decide +kernel
theorem dJ7_fill_53178_13 : decode cJ7_fill_53178 13 = .ok (.iastore, 1) := by decide +kernel
theorem dJ7_fill_53178_14 : decode cJ7_fill_53178 14 = .ok (.iinc 2 1, 3) := by decide +kernel
theorem dJ7_fill_53178_17 : decode cJ7_fill_53178 17 = .ok (.goto (-12), 3) := by decide +kernel
theorem dJ7_fill_53178_20 : decode cJ7_fill_53178 20 = .ok (.return_, 1) := by decide +kernel
theorem dJ3_checkIndex_8e157_0 : decode cJ3_checkIndex_8e157 0 = .ok (.iload_n 0, 1) := by decide +kernel
theorem dJ3_checkIndex_8e157_1 : decode cJ3_checkIndex_8e157 1 = .ok (.ifCond .lt 8, 3) := by decide +kernel
theorem dJ3_checkIndex_8e157_4 : decode cJ3_checkIndex_8e157 4 = .ok (.iload_n 0, 1) := by decide +kernel
theorem dJ3_checkIndex_8e157_5 : decode cJ3_checkIndex_8e157 5 = .ok (.iload_n 1, 1) := by decide +kernel
theorem dJ3_checkIndex_8e157_6 : decode cJ3_checkIndex_8e157 6 = .ok (.if_icmp .lt 10, 3) := by decide +kernel
theorem dJ3_checkIndex_8e157_9 : decode cJ3_checkIndex_8e157 9 = .ok (.aload_n 2, 1) := by decide +kernel
theorem dJ3_checkIndex_8e157_10 : decode cJ3_checkIndex_8e157 10 = .ok (.iload_n 0, 1) := by decide +kernel
theorem dJ3_checkIndex_8e157_11 : decode cJ3_checkIndex_8e157 11 = .ok (.iload_n 1, 1) := by decide +kernel
theorem dJ3_checkIndex_8e157_12 : decode cJ3_checkIndex_8e157 12 = .ok (.invokestatic 95, 3) := by decide +kernel
theorem dJ3_checkIndex_8e157_15 : decode cJ3_checkIndex_8e157 15 = .ok (.athrow, 1) := by decide +kernel
theorem dJ3_checkIndex_8e157_16 : decode cJ3_checkIndex_8e157 16 = .ok (.iload_n 0, 1) := by decide +kernel
theorem dJ3_checkIndex_8e157_17 : decode cJ3_checkIndex_8e157 17 = .ok (.ireturn, 1) := by decide +kernel
end
section
theorem dX6_init_0 : decode cX6_init 0 = .ok (.aload_n 0, 1) := by decide +kernel
theorem dX6_init_1 : decode cX6_init 1 = .ok (.invokespecial 1, 3) := by decide +kernel
theorem dX6_init_4 : decode cX6_init 4 = .ok (.aload_n 0, 1) := by decide +kernel
theorem dX6_init_5 : decode cX6_init 5 = .ok (.new 7, 3) := by decide +kernel
theorem dX6_init_8 : decode cX6_init 8 = .ok (.dup, 1) := by decide +kernel
theorem dX6_init_9 : decode cX6_init 9 = .ok (.invokespecial 9, 3) := by decide +kernel
theorem dX6_init_12 : decode cX6_init 12 = .ok (.putfield 10, 3) := by decide +kernel
theorem dX6_init_15 : decode cX6_init 15 = .ok (.aload_n 0, 1) := by decide +kernel
theorem dX6_init_16 : decode cX6_init 16 = .ok (.new 7, 3) := by decide +kernel
theorem dX6_init_19 : decode cX6_init 19 = .ok (.dup, 1) := by decide +kernel
theorem dX6_init_20 : decode cX6_init 20 = .ok (.invokespecial 9, 3) := by decide +kernel
theorem dX6_init_23 : decode cX6_init 23 = .ok (.putfield 16, 3) := by decide +kernel
theorem dX6_init_26 : decode cX6_init 26 = .ok (.aload_n 0, 1) := by decide +kernel
theorem dX6_init_27 : decode cX6_init 27 = .ok (.iconst 2, 1) := by decide +kernel
theorem dX6_init_28 : decode cX6_init 28 = .ok (.anewarray 7, 3) := by decide +kernel
theorem dX6_init_31 : decode cX6_init 31 = .ok (.putfield 19, 3) := by decide +kernel
theorem dX6_init_34 : decode cX6_init 34 = .ok (.iconst 0, 1) := by decide +kernel
theorem dX6_init_35 : decode cX6_init 35 = .ok (.istore_n 1, 1) := by decide +kernel
theorem dX6_init_36 : decode cX6_init 36 = .ok (.iload_n 1, 1) := by decide +kernel
theorem dX6_init_37 : decode cX6_init 37 = .ok (.iconst 2, 1) := by decide +kernel
theorem dX6_init_38 : decode cX6_init 38 = .ok (.if_icmp .ge 22, 3) := by decide +kernel
theorem dX6_init_41 : decode cX6_init 41 = .ok (.aload_n 0, 1) := by decide +kernel
theorem dX6_init_42 : decode cX6_init 42 = .ok (.getfield 19, 3) := by decide +kernel
theorem dX6_init_45 : decode cX6_init 45 = .ok (.iload_n 1, 1) := by decide +kernel
theorem dX6_init_46 : decode cX6_init 46 = .ok (.new 7, 3) := by decide +kernel
theorem dX6_init_49 : decode cX6_init 49 = .ok (.dup, 1) := by decide +kernel
theorem dX6_init_50 : decode cX6_init 50 = .ok (.invokespecial 9, 3) := by decide +kernel
theorem dX6_init_53 : decode cX6_init 53 = .ok (.aastore, 1) := by decide +kernel
theorem dX6_init_54 : decode cX6_init 54 = .ok (.iinc 1 1, 3) := by decide +kernel
theorem dX6_init_57 : decode cX6_init 57 = .ok (.goto (-21), 3) := by decide +kernel
theorem dX6_init_60 : decode cX6_init 60 = .ok (.aload_n 0, 1) := by decide +kernel
theorem dX6_init_61 : decode cX6_init 61 = .ok (.new 23, 3) := by decide +kernel
theorem dX6_init_64 : decode cX6_init 64 = .ok (.dup, 1) := by decide +kernel
theorem dX6_init_65 : decode cX6_init 65 = .ok (.invokespecial 25, 3) := by decide +kernel
theorem dX6_init_68 : decode cX6_init 68 = .ok (.putfield 26, 3) := by decide +kernel
theorem dX6_init_71 : decode cX6_init 71 = .ok (.aload_n 0, 1) := by decide +kernel
theorem dX6_init_72 : decode cX6_init 72 = .ok (.new 30, 3) := by decide +kernel
theorem dX6_init_75 : decode cX6_init 75 = .ok (.dup, 1) := by decide +kernel
theorem dX6_init_76 : decode cX6_init 76 = .ok (.aload_n 0, 1) := by decide +kernel
theorem dX6_init_77 : decode cX6_init 77 = .ok (.getfield 26, 3) := by decide +kernel
theorem dX6_init_80 : decode cX6_init 80 = .ok (.invokespecial 32, 3) := by decide +kernel
theorem dX6_init_83 : decode cX6_init 83 = .ok (.putfield 35, 3) := by decide +kernel
theorem dX6_init_86 : decode cX6_init 86 = .ok (.aload_n 0, 1) := by decide +kernel
theorem dX6_init_87 : decode cX6_init 87 = .ok (.new 39, 3) := by decide +kernel
theorem dX6_init_90 : decode cX6_init 90 = .ok (.dup, 1) := by decide +kernel
theorem dX6_init_91 : decode cX6_init 91 = .ok (.invokespecial 41, 3) := by decide +kernel
theorem dX6_init_94 : decode cX6_init 94 = .ok (.putfield 42, 3) := by decide +kernel
theorem dX6_init_97 : decode cX6_init 97 = .ok (.aload_n 0, 1) := by decide +kernel
theorem dX6_init_98 : decode cX6_init 98 = .ok (.new 46, 3) := by decide +kernel
theorem dX6_init_101 : decode cX6_init 101 = .ok (.dup, 1) := by decide +kernel
theorem dX6_init_102 : decode cX6_init 102 = .ok (.invokespecial 48, 3) := by decide +kernel
theorem dX6_init_105 : decode cX6_init 105 = .ok (.putfield 49, 3) := by decide +kernel
theorem dX6_init_108 : decode cX6_init 108 = .ok (.aload_n 0, 1) := by decide +kernel
theorem dX6_init_109 : decode cX6_init 109 = .ok (.bipush 6, 2) := by decide +kernel
theorem dX6_init_111 : decode cX6_init 111 = .ok (.newarray .int, 2) := by decide +kernel
theorem dX6_init_113 : decode cX6_init 113 = .ok (.putfield 53, 3) := by decide +kernel
theorem dX6_init_116 : decode cX6_init 116 = .ok (.aload_n 0, 1) := by decide +kernel
theorem dX6_init_117 : decode cX6_init 117 = .ok (.sipush 384, 3) := by decide +kernel
theorem dX6_init_120 : decode cX6_init 120 = .ok (.newarray .int, 2) := by decide +kernel
theorem dX6_init_122 : decode cX6_init 122 = .ok (.putfield 57, 3) := by decide +kernel
theorem dX6_init_125 : decode cX6_init 125 = .ok (.aload_n 0, 1) := by decide +kernel
theorem dX6_init_126 : decode cX6_init 126 = .ok (.iconst 4, 1) := by decide +kernel
theorem dX6_init_127 : decode cX6_init 127 = .ok (.anewarray 60, 3) := by decide +kernel
theorem dX6_init_130 : decode cX6_init 130 = .ok (.putfield 62, 3) := by decide +kernel
theorem dX6_init_133 : decode cX6_init 133 = .ok (.iconst 0, 1) := by decide +kernel
theorem dX6_init_134 : decode cX6_init 134 = .ok (.istore_n 1, 1) := by decide +kernel
theorem dX6_init_135 : decode cX6_init 135 = .ok (.iload_n 1, 1) := by decide +kernel
theorem dX6_init_136 : decode cX6_init 136 = .ok (.iconst 4, 1) := by decide +kernel
theorem dX6_init_137 : decode cX6_init 137 = .ok (.if_icmp .ge 22, 3) := by decide +kernel
theorem dX6_init_140 : decode cX6_init 140 = .ok (.aload_n 0, 1) := by decide +kernel
theorem dX6_init_141 : decode cX6_init 141 = .ok (.getfield 62, 3) := by decide +kernel
theorem dX6_init_144 : decode cX6_init 144 = .ok (.iload_n 1, 1) := by decide +kernel
theorem dX6_init_145 : decode cX6_init 145 = .ok (.new 60, 3) := by decide +kernel
theorem dX6_init_148 : decode cX6_init 148 = .ok (.dup, 1) := by decide +kernel
theorem dX6_init_149 : decode cX6_init 149 = .ok (.invokespecial 66, 3) := by decide +kernel
theorem dX6_init_152 : decode cX6_init 152 = .ok (.aastore, 1) := by decide +kernel
theorem dX6_init_153 : decode cX6_init 153 = .ok (.iinc 1 1, 3) := by decide +kernel
theorem dX6_init_156 : decode cX6_init 156 = .ok (.goto (-21), 3) := by decide +kernel
theorem dX6_init_159 : decode cX6_init 159 = .ok (.return_, 1) := by decide +kernel
theorem dX6_feed_0 : decode cX6_feed 0 = .ok (.iload_n 1, 1) := by decide +kernel
theorem dX6_feed_1 : decode cX6_feed 1 = .ok (.iconst 0, 1) := by decide +kernel
theorem dX6_feed_2 : decode cX6_feed 2 = .ok (.bipush 127, 2) := by decide +kernel
theorem dX6_feed_4 : decode cX6_feed 4 = .ok (.invokestatic 67, 3) := by decide +kernel
theorem dX6_feed_7 : decode cX6_feed 7 = .ok (.ifCond .ne 5, 3) := by decide +kernel
theorem dX6_feed_10 : decode cX6_feed 10 = .ok (.iconst (-1), 1) := by decide +kernel
theorem dX6_feed_11 : decode cX6_feed 11 = .ok (.ireturn, 1) := by decide +kernel
theorem dX6_feed_12 : decode cX6_feed 12 = .ok (.aload_n 0, 1) := by decide +kernel
theorem dX6_feed_13 : decode cX6_feed 13 = .ok (.getfield 26, 3) := by decide +kernel
theorem dX6_feed_16 : decode cX6_feed 16 = .ok (.iload_n 1, 1) := by decide +kernel
theorem dX6_feed_17 : decode cX6_feed 17 = .ok (.invokevirtual 71, 3) := by decide +kernel
theorem dX6_feed_20 : decode cX6_feed 20 = .ok (.ifCond .eq 13, 3) := by decide +kernel
theorem dX6_feed_23 : decode cX6_feed 23 = .ok (.aload_n 0, 1) := by decide +kernel
theorem dX6_feed_24 : decode cX6_feed 24 = .ok (.getfield 26, 3) := by decide +kernel
theorem dX6_feed_27 : decode cX6_feed 27 = .ok (.getfield 75, 3) := by decide +kernel
theorem dX6_feed_30 : decode cX6_feed 30 = .ok (.goto 5, 3) := by decide +kernel
theorem dX6_feed_33 : decode cX6_feed 33 = .ok (.bipush (-3), 2) := by decide +kernel
theorem dX6_feed_35 : decode cX6_feed 35 = .ok (.ireturn, 1) := by decide +kernel
theorem dX6_end_0 : decode cX6_end 0 = .ok (.iload_n 1, 1) := by decide +kernel
theorem dX6_end_1 : decode cX6_end 1 = .ok (.iconst 0, 1) := by decide +kernel
theorem dX6_end_2 : decode cX6_end 2 = .ok (.aload_n 0, 1) := by decide +kernel
theorem dX6_end_3 : decode cX6_end 3 = .ok (.getfield 26, 3) := by decide +kernel
theorem dX6_end_6 : decode cX6_end 6 = .ok (.getfield 75, 3) := by decide +kernel
theorem dX6_end_9 : decode cX6_end 9 = .ok (.invokestatic 67, 3) := by decide +kernel
theorem dX6_end_12 : decode cX6_end 12 = .ok (.ifCond .ne 5, 3) := by decide +kernel
theorem dX6_end_15 : decode cX6_end 15 = .ok (.iconst (-1), 1) := by decide +kernel
theorem dX6_end_16 : decode cX6_end 16 = .ok (.ireturn, 1) := by decide +kernel
theorem dX6_end_17 : decode cX6_end 17 = .ok (.aload_n 0, 1) := by decide +kernel
theorem dX6_end_18 : decode cX6_end 18 = .ok (.getfield 26, 3) := by decide +kernel
theorem dX6_end_21 : decode cX6_end 21 = .ok (.getfield 75, 3) := by decide +kernel
theorem dX6_end_24 : decode cX6_end 24 = .ok (.istore_n 2, 1) := by decide +kernel
theorem dX6_end_25 : decode cX6_end 25 = .ok (.aload_n 0, 1) := by decide +kernel
theorem dX6_end_26 : decode cX6_end 26 = .ok (.getfield 26, 3) := by decide +kernel
theorem dX6_end_29 : decode cX6_end 29 = .ok (.iload_n 1, 1) := by decide +kernel
theorem dX6_end_30 : decode cX6_end 30 = .ok (.putfield 75, 3) := by decide +kernel
theorem dX6_end_33 : decode cX6_end 33 = .ok (.iload_n 2, 1) := by decide +kernel
theorem dX6_end_34 : decode cX6_end 34 = .ok (.ireturn, 1) := by decide +kernel
theorem dX6_text_0 : decode cX6_text 0 = .ok (.aload_n 0, 1) := by decide +kernel
theorem dX6_text_1 : decode cX6_text 1 = .ok (.getfield 35, 3) := by decide +kernel
theorem dX6_text_4 : decode cX6_text 4 = .ok (.invokevirtual 79, 3) := by decide +kernel
theorem dX6_text_7 : decode cX6_text 7 = .ok (.istore_n 1, 1) := by decide +kernel
theorem dX6_text_8 : decode cX6_text 8 = .ok (.aload_n 0, 1) := by decide +kernel
theorem dX6_text_9 : decode cX6_text 9 = .ok (.getfield 26, 3) := by decide +kernel
theorem dX6_text_12 : decode cX6_text 12 = .ok (.iconst 0, 1) := by decide +kernel
theorem dX6_text_13 : decode cX6_text 13 = .ok (.putfield 75, 3) := by decide +kernel
theorem dX6_text_16 : decode cX6_text 16 = .ok (.iload_n 1, 1) := by decide +kernel
theorem dX6_text_17 : decode cX6_text 17 = .ok (.ifCond .lt 22, 3) := by decide +kernel
theorem dX6_text_20 : decode cX6_text 20 = .ok (.aload_n 0, 1) := by decide +kernel
theorem dX6_text_21 : decode cX6_text 21 = .ok (.getfield 10, 3) := by decide +kernel
theorem dX6_text_24 : decode cX6_text 24 = .ok (.aload_n 0, 1) := by decide +kernel
theorem dX6_text_25 : decode cX6_text 25 = .ok (.getfield 35, 3) := by decide +kernel
theorem dX6_text_28 : decode cX6_text 28 = .ok (.getfield 83, 3) := by decide +kernel
theorem dX6_text_31 : decode cX6_text 31 = .ok (.invokevirtual 86, 3) := by decide +kernel
theorem dX6_text_34 : decode cX6_text 34 = .ok (.aload_n 0, 1) := by decide +kernel
theorem dX6_text_35 : decode cX6_text 35 = .ok (.iconst 0, 1) := by decide +kernel
theorem dX6_text_36 : decode cX6_text 36 = .ok (.putfield 90, 3) := by decide +kernel
theorem dX6_text_39 : decode cX6_text 39 = .ok (.iload_n 1, 1) := by decide +kernel
theorem dX6_text_40 : decode cX6_text 40 = .ok (.ireturn, 1) := by decide +kernel
theorem dX6_fault_0 : decode cX6_fault 0 = .ok (.aload_n 0, 1) := by decide +kernel
theorem dX6_fault_1 : decode cX6_fault 1 = .ok (.getfield 35, 3) := by decide +kernel
theorem dX6_fault_4 : decode cX6_fault 4 = .ok (.getfield 93, 3) := by decide +kernel
theorem dX6_fault_7 : decode cX6_fault 7 = .ok (.ireturn, 1) := by decide +kernel
theorem dX6_rule_0 : decode cX6_rule 0 = .ok (.iload_n 1, 1) := by decide +kernel
theorem dX6_rule_1 : decode cX6_rule 1 = .ok (.iconst 0, 1) := by decide +kernel
theorem dX6_rule_2 : decode cX6_rule 2 = .ok (.bipush 7, 2) := by decide +kernel
theorem dX6_rule_4 : decode cX6_rule 4 = .ok (.invokestatic 67, 3) := by decide +kernel
theorem dX6_rule_7 : decode cX6_rule 7 = .ok (.ifCond .ne 5, 3) := by decide +kernel
theorem dX6_rule_10 : decode cX6_rule 10 = .ok (.iconst (-1), 1) := by decide +kernel
theorem dX6_rule_11 : decode cX6_rule 11 = .ok (.ireturn, 1) := by decide +kernel
theorem dX6_rule_12 : decode cX6_rule 12 = .ok (.iload_n 1, 1) := by decide +kernel
theorem dX6_rule_13 : decode cX6_rule 13 = .ok (.bipush 6, 2) := by decide +kernel
theorem dX6_rule_15 : decode cX6_rule 15 = .ok (.if_icmp .ne 11, 3) := by decide +kernel
theorem dX6_rule_18 : decode cX6_rule 18 = .ok (.aload_n 0, 1) := by decide +kernel
theorem dX6_rule_19 : decode cX6_rule 19 = .ok (.getfield 10, 3) := by decide +kernel
theorem dX6_rule_22 : decode cX6_rule 22 = .ok (.getfield 96, 3) := by decide +kernel
theorem dX6_rule_25 : decode cX6_rule 25 = .ok (.ireturn, 1) := by decide +kernel
theorem dX6_rule_26 : decode cX6_rule 26 = .ok (.iload_n 1, 1) := by decide +kernel
theorem dX6_rule_27 : decode cX6_rule 27 = .ok (.bipush 7, 2) := by decide +kernel
theorem dX6_rule_29 : decode cX6_rule 29 = .ok (.if_icmp .ne 13, 3) := by decide +kernel
theorem dX6_rule_32 : decode cX6_rule 32 = .ok (.aload_n 0, 1) := by decide +kernel
theorem dX6_rule_33 : decode cX6_rule 33 = .ok (.getfield 10, 3) := by decide +kernel
theorem dX6_rule_36 : decode cX6_rule 36 = .ok (.getfield 99, 3) := by decide +kernel
theorem dX6_rule_39 : decode cX6_rule 39 = .ok (.goto 12, 3) := by decide +kernel
theorem dX6_rule_42 : decode cX6_rule 42 = .ok (.aload_n 0, 1) := by decide +kernel
theorem dX6_rule_43 : decode cX6_rule 43 = .ok (.getfield 10, 3) := by decide +kernel
theorem dX6_rule_46 : decode cX6_rule 46 = .ok (.getfield 102, 3) := by decide +kernel
theorem dX6_rule_49 : decode cX6_rule 49 = .ok (.iload_n 1, 1) := by decide +kernel
theorem dX6_rule_50 : decode cX6_rule 50 = .ok (.iaload, 1) := by decide +kernel
theorem dX6_rule_51 : decode cX6_rule 51 = .ok (.ireturn, 1) := by decide +kernel
theorem dX6_boat_0 : decode cX6_boat 0 = .ok (.aload_n 0, 1) := by decide +kernel
theorem dX6_boat_1 : decode cX6_boat 1 = .ok (.iload_n 1, 1) := by decide +kernel
theorem dX6_boat_2 : decode cX6_boat 2 = .ok (.invokevirtual 105, 3) := by decide +kernel
theorem dX6_boat_5 : decode cX6_boat 5 = .ok (.ifCond .eq 13, 3) := by decide +kernel
theorem dX6_boat_8 : decode cX6_boat 8 = .ok (.iload_n 2, 1) := by decide +kernel
theorem dX6_boat_9 : decode cX6_boat 9 = .ok (.iconst 0, 1) := by decide +kernel
theorem dX6_boat_10 : decode cX6_boat 10 = .ok (.bipush 6, 2) := by decide +kernel
theorem dX6_boat_12 : decode cX6_boat 12 = .ok (.invokestatic 67, 3) := by decide +kernel
theorem dX6_boat_15 : decode cX6_boat 15 = .ok (.ifCond .ne 5, 3) := by decide +kernel
theorem dX6_boat_18 : decode cX6_boat 18 = .ok (.iconst (-1), 1) := by decide +kernel
theorem dX6_boat_19 : decode cX6_boat 19 = .ok (.ireturn, 1) := by decide +kernel
theorem dX6_boat_20 : decode cX6_boat 20 = .ok (.iload_n 2, 1) := by decide +kernel
theorem dX6_boat_21 : decode cX6_boat 21 = .ok (.iconst 5, 1) := by decide +kernel
theorem dX6_boat_22 : decode cX6_boat 22 = .ok (.if_icmp .ne 15, 3) := by decide +kernel
theorem dX6_boat_25 : decode cX6_boat 25 = .ok (.aload_n 0, 1) := by decide +kernel
theorem dX6_boat_26 : decode cX6_boat 26 = .ok (.getfield 10, 3) := by decide +kernel
theorem dX6_boat_29 : decode cX6_boat 29 = .ok (.getfield 99, 3) := by decide +kernel
theorem dX6_boat_32 : decode cX6_boat 32 = .ok (.iload_n 1, 1) := by decide +kernel
theorem dX6_boat_33 : decode cX6_boat 33 = .ok (.ishr, 1) := by decide +kernel
theorem dX6_boat_34 : decode cX6_boat 34 = .ok (.iconst 1, 1) := by decide +kernel
theorem dX6_boat_35 : decode cX6_boat 35 = .ok (.iand, 1) := by decide +kernel
theorem dX6_boat_36 : decode cX6_boat 36 = .ok (.ireturn, 1) := by decide +kernel
theorem dX6_boat_37 : decode cX6_boat 37 = .ok (.iload_n 2, 1) := by decide +kernel
theorem dX6_boat_38 : decode cX6_boat 38 = .ok (.bipush 6, 2) := by decide +kernel
theorem dX6_boat_40 : decode cX6_boat 40 = .ok (.if_icmp .ne 14, 3) := by decide +kernel
theorem dX6_boat_43 : decode cX6_boat 43 = .ok (.aload_n 0, 1) := by decide +kernel
theorem dX6_boat_44 : decode cX6_boat 44 = .ok (.getfield 10, 3) := by decide +kernel
theorem dX6_boat_47 : decode cX6_boat 47 = .ok (.iload_n 1, 1) := by decide +kernel
theorem dX6_boat_48 : decode cX6_boat 48 = .ok (.invokevirtual 108, 3) := by decide +kernel
theorem dX6_boat_51 : decode cX6_boat 51 = .ok (.goto 12, 3) := by decide +kernel
theorem dX6_boat_54 : decode cX6_boat 54 = .ok (.aload_n 0, 1) := by decide +kernel
theorem dX6_boat_55 : decode cX6_boat 55 = .ok (.getfield 10, 3) := by decide +kernel
theorem dX6_boat_58 : decode cX6_boat 58 = .ok (.iload_n 1, 1) := by decide +kernel
theorem dX6_boat_59 : decode cX6_boat 59 = .ok (.iload_n 2, 1) := by decide +kernel
theorem dX6_boat_60 : decode cX6_boat 60 = .ok (.invokevirtual 112, 3) := by decide +kernel
theorem dX6_boat_63 : decode cX6_boat 63 = .ok (.ireturn, 1) := by decide +kernel
theorem dX6_set_0 : decode cX6_set 0 = .ok (.iload_n 1, 1) := by decide +kernel
theorem dX6_set_1 : decode cX6_set 1 = .ok (.iconst 0, 1) := by decide +kernel
theorem dX6_set_2 : decode cX6_set 2 = .ok (.iconst 5, 1) := by decide +kernel
theorem dX6_set_3 : decode cX6_set 3 = .ok (.invokestatic 67, 3) := by decide +kernel
theorem dX6_set_6 : decode cX6_set 6 = .ok (.ifCond .eq 20, 3) := by decide +kernel
theorem dX6_set_9 : decode cX6_set 9 = .ok (.iload_n 2, 1) := by decide +kernel
theorem dX6_set_10 : decode cX6_set 10 = .ok (.getstatic 116, 3) := by decide +kernel
theorem dX6_set_13 : decode cX6_set 13 = .ok (.iload_n 1, 1) := by decide +kernel
theorem dX6_set_14 : decode cX6_set 14 = .ok (.iaload, 1) := by decide +kernel
theorem dX6_set_15 : decode cX6_set 15 = .ok (.getstatic 119, 3) := by decide +kernel
theorem dX6_set_18 : decode cX6_set 18 = .ok (.iload_n 1, 1) := by decide +kernel
theorem dX6_set_19 : decode cX6_set 19 = .ok (.iaload, 1) := by decide +kernel
theorem dX6_set_20 : decode cX6_set 20 = .ok (.invokestatic 67, 3) := by decide +kernel
theorem dX6_set_23 : decode cX6_set 23 = .ok (.ifCond .ne 5, 3) := by decide +kernel
theorem dX6_set_26 : decode cX6_set 26 = .ok (.iconst (-1), 1) := by decide +kernel
theorem dX6_set_27 : decode cX6_set 27 = .ok (.ireturn, 1) := by decide +kernel
theorem dX6_set_28 : decode cX6_set 28 = .ok (.aload_n 0, 1) := by decide +kernel
theorem dX6_set_29 : decode cX6_set 29 = .ok (.getfield 10, 3) := by decide +kernel
theorem dX6_set_32 : decode cX6_set 32 = .ok (.getfield 102, 3) := by decide +kernel
theorem dX6_set_35 : decode cX6_set 35 = .ok (.iload_n 1, 1) := by decide +kernel
theorem dX6_set_36 : decode cX6_set 36 = .ok (.iaload, 1) := by decide +kernel
theorem dX6_set_37 : decode cX6_set 37 = .ok (.istore_n 3, 1) := by decide +kernel
theorem dX6_set_38 : decode cX6_set 38 = .ok (.aload_n 0, 1) := by decide +kernel
theorem dX6_set_39 : decode cX6_set 39 = .ok (.getfield 10, 3) := by decide +kernel
theorem dX6_set_42 : decode cX6_set 42 = .ok (.getfield 102, 3) := by decide +kernel
theorem dX6_set_45 : decode cX6_set 45 = .ok (.iload_n 1, 1) := by decide +kernel
theorem dX6_set_46 : decode cX6_set 46 = .ok (.iload_n 2, 1) := by decide +kernel
theorem dX6_set_47 : decode cX6_set 47 = .ok (.iastore, 1) := by decide +kernel
theorem dX6_set_48 : decode cX6_set 48 = .ok (.iload_n 3, 1) := by decide +kernel
theorem dX6_set_49 : decode cX6_set 49 = .ok (.ireturn, 1) := by decide +kernel
theorem dX6_alter_0 : decode cX6_alter 0 = .ok (.aload_n 0, 1) := by decide +kernel
theorem dX6_alter_1 : decode cX6_alter 1 = .ok (.iload_n 1, 1) := by decide +kernel
theorem dX6_alter_2 : decode cX6_alter 2 = .ok (.invokevirtual 105, 3) := by decide +kernel
theorem dX6_alter_5 : decode cX6_alter 5 = .ok (.ifCond .eq 25, 3) := by decide +kernel
theorem dX6_alter_8 : decode cX6_alter 8 = .ok (.iload_n 2, 1) := by decide +kernel
theorem dX6_alter_9 : decode cX6_alter 9 = .ok (.iconst 1, 1) := by decide +kernel
theorem dX6_alter_10 : decode cX6_alter 10 = .ok (.iconst 4, 1) := by decide +kernel
theorem dX6_alter_11 : decode cX6_alter 11 = .ok (.invokestatic 67, 3) := by decide +kernel
theorem dX6_alter_14 : decode cX6_alter 14 = .ok (.ifCond .eq 16, 3) := by decide +kernel
theorem dX6_alter_17 : decode cX6_alter 17 = .ok (.iload_n 3, 1) := by decide +kernel
theorem dX6_alter_18 : decode cX6_alter 18 = .ok (.iconst 0, 1) := by decide +kernel
theorem dX6_alter_19 : decode cX6_alter 19 = .ok (.getstatic 122, 3) := by decide +kernel
theorem dX6_alter_22 : decode cX6_alter 22 = .ok (.iload_n 2, 1) := by decide +kernel
theorem dX6_alter_23 : decode cX6_alter 23 = .ok (.iaload, 1) := by decide +kernel
theorem dX6_alter_24 : decode cX6_alter 24 = .ok (.invokestatic 67, 3) := by decide +kernel
theorem dX6_alter_27 : decode cX6_alter 27 = .ok (.ifCond .ne 5, 3) := by decide +kernel
theorem dX6_alter_30 : decode cX6_alter 30 = .ok (.iconst (-1), 1) := by decide +kernel
theorem dX6_alter_31 : decode cX6_alter 31 = .ok (.ireturn, 1) := by decide +kernel
theorem dX6_alter_32 : decode cX6_alter 32 = .ok (.aload_n 0, 1) := by decide +kernel
theorem dX6_alter_33 : decode cX6_alter 33 = .ok (.getfield 10, 3) := by decide +kernel
theorem dX6_alter_36 : decode cX6_alter 36 = .ok (.iload_n 1, 1) := by decide +kernel
theorem dX6_alter_37 : decode cX6_alter 37 = .ok (.iload_n 2, 1) := by decide +kernel
theorem dX6_alter_38 : decode cX6_alter 38 = .ok (.invokevirtual 112, 3) := by decide +kernel
theorem dX6_alter_41 : decode cX6_alter 41 = .ok (.istore 4, 2) := by decide +kernel
theorem dX6_alter_43 : decode cX6_alter 43 = .ok (.aload_n 0, 1) := by decide +kernel
theorem dX6_alter_44 : decode cX6_alter 44 = .ok (.getfield 10, 3) := by decide +kernel
theorem dX6_alter_47 : decode cX6_alter 47 = .ok (.iload_n 1, 1) := by decide +kernel
theorem dX6_alter_48 : decode cX6_alter 48 = .ok (.iload_n 2, 1) := by decide +kernel
theorem dX6_alter_49 : decode cX6_alter 49 = .ok (.iload_n 3, 1) := by decide +kernel
theorem dX6_alter_50 : decode cX6_alter 50 = .ok (.invokevirtual 125, 3) := by decide +kernel
theorem dX6_alter_53 : decode cX6_alter 53 = .ok (.iload 4, 2) := by decide +kernel
theorem dX6_alter_55 : decode cX6_alter 55 = .ok (.ireturn, 1) := by decide +kernel
theorem dX6_lie_0 : decode cX6_lie 0 = .ok (.aload_n 0, 1) := by decide +kernel
theorem dX6_lie_1 : decode cX6_lie 1 = .ok (.iload_n 1, 1) := by decide +kernel
theorem dX6_lie_2 : decode cX6_lie 2 = .ok (.invokevirtual 105, 3) := by decide +kernel
theorem dX6_lie_5 : decode cX6_lie 5 = .ok (.ifCond .ne 5, 3) := by decide +kernel
theorem dX6_lie_8 : decode cX6_lie 8 = .ok (.iconst (-1), 1) := by decide +kernel
theorem dX6_lie_9 : decode cX6_lie 9 = .ok (.ireturn, 1) := by decide +kernel
theorem dX6_lie_10 : decode cX6_lie 10 = .ok (.aload_n 0, 1) := by decide +kernel
theorem dX6_lie_11 : decode cX6_lie 11 = .ok (.getfield 10, 3) := by decide +kernel
theorem dX6_lie_14 : decode cX6_lie 14 = .ok (.getfield 99, 3) := by decide +kernel
theorem dX6_lie_17 : decode cX6_lie 17 = .ok (.iload_n 1, 1) := by decide +kernel
theorem dX6_lie_18 : decode cX6_lie 18 = .ok (.ishr, 1) := by decide +kernel
theorem dX6_lie_19 : decode cX6_lie 19 = .ok (.iconst 1, 1) := by decide +kernel
theorem dX6_lie_20 : decode cX6_lie 20 = .ok (.iand, 1) := by decide +kernel
theorem dX6_lie_21 : decode cX6_lie 21 = .ok (.istore_n 3, 1) := by decide +kernel
theorem dX6_lie_22 : decode cX6_lie 22 = .ok (.aload_n 0, 1) := by decide +kernel
theorem dX6_lie_23 : decode cX6_lie 23 = .ok (.getfield 10, 3) := by decide +kernel
theorem dX6_lie_26 : decode cX6_lie 26 = .ok (.iload_n 2, 1) := by decide +kernel
theorem dX6_lie_27 : decode cX6_lie 27 = .ok (.ifCond .eq 17, 3) := by decide +kernel
theorem dX6_lie_30 : decode cX6_lie 30 = .ok (.aload_n 0, 1) := by decide +kernel
theorem dX6_lie_31 : decode cX6_lie 31 = .ok (.getfield 10, 3) := by decide +kernel
theorem dX6_lie_34 : decode cX6_lie 34 = .ok (.getfield 99, 3) := by decide +kernel
theorem dX6_lie_37 : decode cX6_lie 37 = .ok (.iconst 1, 1) := by decide +kernel
theorem dX6_lie_38 : decode cX6_lie 38 = .ok (.iload_n 1, 1) := by decide +kernel
theorem dX6_lie_39 : decode cX6_lie 39 = .ok (.ishl, 1) := by decide +kernel
theorem dX6_lie_40 : decode cX6_lie 40 = .ok (.ior, 1) := by decide +kernel
theorem dX6_lie_41 : decode cX6_lie 41 = .ok (.goto 16, 3) := by decide +kernel
theorem dX6_lie_44 : decode cX6_lie 44 = .ok (.aload_n 0, 1) := by decide +kernel
theorem dX6_lie_45 : decode cX6_lie 45 = .ok (.getfield 10, 3) := by decide +kernel
theorem dX6_lie_48 : decode cX6_lie 48 = .ok (.getfield 99, 3) := by decide +kernel
theorem dX6_lie_51 : decode cX6_lie 51 = .ok (.iconst 1, 1) := by decide +kernel
theorem dX6_lie_52 : decode cX6_lie 52 = .ok (.iload_n 1, 1) := by decide +kernel
theorem dX6_lie_53 : decode cX6_lie 53 = .ok (.ishl, 1) := by decide +kernel
theorem dX6_lie_54 : decode cX6_lie 54 = .ok (.iconst (-1), 1) := by decide +kernel
theorem dX6_lie_55 : decode cX6_lie 55 = .ok (.ixor, 1) := by decide +kernel
theorem dX6_lie_56 : decode cX6_lie 56 = .ok (.iand, 1) := by decide +kernel
theorem dX6_lie_57 : decode cX6_lie 57 = .ok (.putfield 99, 3) := by decide +kernel
theorem dX6_lie_60 : decode cX6_lie 60 = .ok (.iload_n 3, 1) := by decide +kernel
theorem dX6_lie_61 : decode cX6_lie 61 = .ok (.ireturn, 1) := by decide +kernel
theorem dX6_cross_0 : decode cX6_cross 0 = .ok (.aload_n 0, 1) := by decide +kernel
theorem dX6_cross_1 : decode cX6_cross 1 = .ok (.iload_n 1, 1) := by decide +kernel
theorem dX6_cross_2 : decode cX6_cross 2 = .ok (.invokevirtual 105, 3) := by decide +kernel
theorem dX6_cross_5 : decode cX6_cross 5 = .ok (.ifCond .ne 5, 3) := by decide +kernel
theorem dX6_cross_8 : decode cX6_cross 8 = .ok (.iconst (-1), 1) := by decide +kernel
theorem dX6_cross_9 : decode cX6_cross 9 = .ok (.ireturn, 1) := by decide +kernel
theorem dX6_cross_10 : decode cX6_cross 10 = .ok (.aload_n 0, 1) := by decide +kernel
theorem dX6_cross_11 : decode cX6_cross 11 = .ok (.getfield 10, 3) := by decide +kernel
theorem dX6_cross_14 : decode cX6_cross 14 = .ok (.iload_n 1, 1) := by decide +kernel
theorem dX6_cross_15 : decode cX6_cross 15 = .ok (.iconst 0, 1) := by decide +kernel
theorem dX6_cross_16 : decode cX6_cross 16 = .ok (.invokevirtual 112, 3) := by decide +kernel
theorem dX6_cross_19 : decode cX6_cross 19 = .ok (.istore_n 2, 1) := by decide +kernel
theorem dX6_cross_20 : decode cX6_cross 20 = .ok (.aload_n 0, 1) := by decide +kernel
theorem dX6_cross_21 : decode cX6_cross 21 = .ok (.getfield 10, 3) := by decide +kernel
theorem dX6_cross_24 : decode cX6_cross 24 = .ok (.iload_n 1, 1) := by decide +kernel
theorem dX6_cross_25 : decode cX6_cross 25 = .ok (.iconst 0, 1) := by decide +kernel
theorem dX6_cross_26 : decode cX6_cross 26 = .ok (.iload_n 2, 1) := by decide +kernel
theorem dX6_cross_27 : decode cX6_cross 27 = .ok (.invokestatic 129, 3) := by decide +kernel
theorem dX6_cross_30 : decode cX6_cross 30 = .ok (.invokevirtual 125, 3) := by decide +kernel
theorem dX6_cross_33 : decode cX6_cross 33 = .ok (.iload_n 2, 1) := by decide +kernel
theorem dX6_cross_34 : decode cX6_cross 34 = .ok (.ireturn, 1) := by decide +kernel
theorem dX6_passes_0 : decode cX6_passes 0 = .ok (.aload_n 0, 1) := by decide +kernel
theorem dX6_passes_1 : decode cX6_passes 1 = .ok (.iload_n 1, 1) := by decide +kernel
theorem dX6_passes_2 : decode cX6_passes 2 = .ok (.invokevirtual 105, 3) := by decide +kernel
theorem dX6_passes_5 : decode cX6_passes 5 = .ok (.ifCond .ne 5, 3) := by decide +kernel
theorem dX6_passes_8 : decode cX6_passes 8 = .ok (.iconst (-1), 1) := by decide +kernel
theorem dX6_passes_9 : decode cX6_passes 9 = .ok (.ireturn, 1) := by decide +kernel
theorem dX6_passes_10 : decode cX6_passes 10 = .ok (.aload_n 0, 1) := by decide +kernel
theorem dX6_passes_11 : decode cX6_passes 11 = .ok (.aload_n 0, 1) := by decide +kernel
theorem dX6_passes_12 : decode cX6_passes 12 = .ok (.getfield 10, 3) := by decide +kernel
theorem dX6_passes_15 : decode cX6_passes 15 = .ok (.invokevirtual 132, 3) := by decide +kernel
theorem dX6_passes_18 : decode cX6_passes 18 = .ok (.aload_n 0, 1) := by decide +kernel
theorem dX6_passes_19 : decode cX6_passes 19 = .ok (.getfield 42, 3) := by decide +kernel
theorem dX6_passes_22 : decode cX6_passes 22 = .ok (.getfield 135, 3) := by decide +kernel
theorem dX6_passes_25 : decode cX6_passes 25 = .ok (.iload_n 1, 1) := by decide +kernel
theorem dX6_passes_26 : decode cX6_passes 26 = .ok (.iaload, 1) := by decide +kernel
theorem dX6_passes_27 : decode cX6_passes 27 = .ok (.ireturn, 1) := by decide +kernel
theorem dX6_through_0 : decode cX6_through 0 = .ok (.aload_n 0, 1) := by decide +kernel
theorem dX6_through_1 : decode cX6_through 1 = .ok (.iload_n 1, 1) := by decide +kernel
theorem dX6_through_2 : decode cX6_through 2 = .ok (.invokevirtual 105, 3) := by decide +kernel
theorem dX6_through_5 : decode cX6_through 5 = .ok (.ifCond .ne 5, 3) := by decide +kernel
theorem dX6_through_8 : decode cX6_through 8 = .ok (.iconst (-1), 1) := by decide +kernel
theorem dX6_through_9 : decode cX6_through 9 = .ok (.ireturn, 1) := by decide +kernel
theorem dX6_through_10 : decode cX6_through 10 = .ok (.aload_n 0, 1) := by decide +kernel
theorem dX6_through_11 : decode cX6_through 11 = .ok (.aload_n 0, 1) := by decide +kernel
theorem dX6_through_12 : decode cX6_through 12 = .ok (.getfield 10, 3) := by decide +kernel
theorem dX6_through_15 : decode cX6_through 15 = .ok (.invokevirtual 132, 3) := by decide +kernel
theorem dX6_through_18 : decode cX6_through 18 = .ok (.aload_n 0, 1) := by decide +kernel
theorem dX6_through_19 : decode cX6_through 19 = .ok (.getfield 42, 3) := by decide +kernel
theorem dX6_through_22 : decode cX6_through 22 = .ok (.getfield 138, 3) := by decide +kernel
theorem dX6_through_25 : decode cX6_through 25 = .ok (.iload_n 1, 1) := by decide +kernel
theorem dX6_through_26 : decode cX6_through 26 = .ok (.iaload, 1) := by decide +kernel
theorem dX6_through_27 : decode cX6_through 27 = .ok (.ireturn, 1) := by decide +kernel
theorem dX6_stood_0 : decode cX6_stood 0 = .ok (.aload_n 0, 1) := by decide +kernel
theorem dX6_stood_1 : decode cX6_stood 1 = .ok (.iload_n 1, 1) := by decide +kernel
theorem dX6_stood_2 : decode cX6_stood 2 = .ok (.invokevirtual 105, 3) := by decide +kernel
theorem dX6_stood_5 : decode cX6_stood 5 = .ok (.ifCond .ne 5, 3) := by decide +kernel
theorem dX6_stood_8 : decode cX6_stood 8 = .ok (.iconst (-1), 1) := by decide +kernel
theorem dX6_stood_9 : decode cX6_stood 9 = .ok (.ireturn, 1) := by decide +kernel
theorem dX6_stood_10 : decode cX6_stood 10 = .ok (.aload_n 0, 1) := by decide +kernel
theorem dX6_stood_11 : decode cX6_stood 11 = .ok (.aload_n 0, 1) := by decide +kernel
theorem dX6_stood_12 : decode cX6_stood 12 = .ok (.getfield 10, 3) := by decide +kernel
theorem dX6_stood_15 : decode cX6_stood 15 = .ok (.invokevirtual 132, 3) := by decide +kernel
theorem dX6_stood_18 : decode cX6_stood 18 = .ok (.aload_n 0, 1) := by decide +kernel
theorem dX6_stood_19 : decode cX6_stood 19 = .ok (.getfield 42, 3) := by decide +kernel
theorem dX6_stood_22 : decode cX6_stood 22 = .ok (.getfield 141, 3) := by decide +kernel
theorem dX6_stood_25 : decode cX6_stood 25 = .ok (.iload_n 1, 1) := by decide +kernel
theorem dX6_stood_26 : decode cX6_stood 26 = .ok (.iaload, 1) := by decide +kernel
theorem dX6_stood_27 : decode cX6_stood 27 = .ok (.ireturn, 1) := by decide +kernel
theorem dX6_day_0 : decode cX6_day 0 = .ok (.aload_n 0, 1) := by decide +kernel
theorem dX6_day_1 : decode cX6_day 1 = .ok (.aload_n 0, 1) := by decide +kernel
theorem dX6_day_2 : decode cX6_day 2 = .ok (.getfield 10, 3) := by decide +kernel
theorem dX6_day_5 : decode cX6_day 5 = .ok (.getfield 102, 3) := by decide +kernel
theorem dX6_day_8 : decode cX6_day 8 = .ok (.iconst 3, 1) := by decide +kernel
theorem dX6_day_9 : decode cX6_day 9 = .ok (.iaload, 1) := by decide +kernel
theorem dX6_day_10 : decode cX6_day 10 = .ok (.iload_n 1, 1) := by decide +kernel
theorem dX6_day_11 : decode cX6_day 11 = .ok (.invokevirtual 144, 3) := by decide +kernel
theorem dX6_day_14 : decode cX6_day 14 = .ok (.ireturn, 1) := by decide +kernel
theorem dX6_table_0 : decode cX6_table 0 = .ok (.iload_n 1, 1) := by decide +kernel
theorem dX6_table_1 : decode cX6_table 1 = .ok (.invokestatic 147, 3) := by decide +kernel
theorem dX6_table_4 : decode cX6_table 4 = .ok (.ifCond .eq 10, 3) := by decide +kernel
theorem dX6_table_7 : decode cX6_table 7 = .ok (.iload_n 2, 1) := by decide +kernel
theorem dX6_table_8 : decode cX6_table 8 = .ok (.invokestatic 150, 3) := by decide +kernel
theorem dX6_table_11 : decode cX6_table 11 = .ok (.ifCond .ne 5, 3) := by decide +kernel
theorem dX6_table_14 : decode cX6_table 14 = .ok (.iconst (-1), 1) := by decide +kernel
theorem dX6_table_15 : decode cX6_table 15 = .ok (.ireturn, 1) := by decide +kernel
theorem dX6_table_16 : decode cX6_table 16 = .ok (.aload_n 0, 1) := by decide +kernel
theorem dX6_table_17 : decode cX6_table 17 = .ok (.getfield 42, 3) := by decide +kernel
theorem dX6_table_20 : decode cX6_table 20 = .ok (.aload_n 0, 1) := by decide +kernel
theorem dX6_table_21 : decode cX6_table 21 = .ok (.getfield 10, 3) := by decide +kernel
theorem dX6_table_24 : decode cX6_table 24 = .ok (.iload_n 1, 1) := by decide +kernel
theorem dX6_table_25 : decode cX6_table 25 = .ok (.aload_n 0, 1) := by decide +kernel
theorem dX6_table_26 : decode cX6_table 26 = .ok (.getfield 10, 3) := by decide +kernel
theorem dX6_table_29 : decode cX6_table 29 = .ok (.getfield 99, 3) := by decide +kernel
theorem dX6_table_32 : decode cX6_table 32 = .ok (.iconst 0, 1) := by decide +kernel
theorem dX6_table_33 : decode cX6_table 33 = .ok (.invokevirtual 153, 3) := by decide +kernel
theorem dX6_table_36 : decode cX6_table 36 = .ok (.aload_n 0, 1) := by decide +kernel
theorem dX6_table_37 : decode cX6_table 37 = .ok (.getfield 42, 3) := by decide +kernel
theorem dX6_table_40 : decode cX6_table 40 = .ok (.iload_n 2, 1) := by decide +kernel
theorem dX6_table_41 : decode cX6_table 41 = .ok (.invokevirtual 157, 3) := by decide +kernel
theorem dX6_table_44 : decode cX6_table 44 = .ok (.ireturn, 1) := by decide +kernel
theorem dX6_best_0 : decode cX6_best 0 = .ok (.iload_n 1, 1) := by decide +kernel
theorem dX6_best_1 : decode cX6_best 1 = .ok (.invokestatic 150, 3) := by decide +kernel
theorem dX6_best_4 : decode cX6_best 4 = .ok (.ifCond .ne 5, 3) := by decide +kernel
theorem dX6_best_7 : decode cX6_best 7 = .ok (.iconst (-1), 1) := by decide +kernel
theorem dX6_best_8 : decode cX6_best 8 = .ok (.ireturn, 1) := by decide +kernel
theorem dX6_best_9 : decode cX6_best 9 = .ok (.iconst 0, 1) := by decide +kernel
theorem dX6_best_10 : decode cX6_best 10 = .ok (.istore_n 2, 1) := by decide +kernel
theorem dX6_best_11 : decode cX6_best 11 = .ok (.ldc 162, 2) := by decide +kernel
theorem dX6_best_13 : decode cX6_best 13 = .ok (.istore_n 3, 1) := by decide +kernel
theorem dX6_best_14 : decode cX6_best 14 = .ok (.iconst 0, 1) := by decide +kernel
theorem dX6_best_15 : decode cX6_best 15 = .ok (.istore 4, 2) := by decide +kernel
theorem dX6_best_17 : decode cX6_best 17 = .ok (.iload 4, 2) := by decide +kernel
theorem dX6_best_19 : decode cX6_best 19 = .ok (.iconst 5, 1) := by decide +kernel
theorem dX6_best_20 : decode cX6_best 20 = .ok (.if_icmp .ge 52, 3) := by decide +kernel
theorem dX6_best_23 : decode cX6_best 23 = .ok (.aload_n 0, 1) := by decide +kernel
theorem dX6_best_24 : decode cX6_best 24 = .ok (.getfield 42, 3) := by decide +kernel
theorem dX6_best_27 : decode cX6_best 27 = .ok (.aload_n 0, 1) := by decide +kernel
theorem dX6_best_28 : decode cX6_best 28 = .ok (.getfield 10, 3) := by decide +kernel
theorem dX6_best_31 : decode cX6_best 31 = .ok (.iload 4, 2) := by decide +kernel
theorem dX6_best_33 : decode cX6_best 33 = .ok (.aload_n 0, 1) := by decide +kernel
theorem dX6_best_34 : decode cX6_best 34 = .ok (.getfield 10, 3) := by decide +kernel
theorem dX6_best_37 : decode cX6_best 37 = .ok (.getfield 99, 3) := by decide +kernel
theorem dX6_best_40 : decode cX6_best 40 = .ok (.iconst 0, 1) := by decide +kernel
theorem dX6_best_41 : decode cX6_best 41 = .ok (.invokevirtual 153, 3) := by decide +kernel
theorem dX6_best_44 : decode cX6_best 44 = .ok (.aload_n 0, 1) := by decide +kernel
theorem dX6_best_45 : decode cX6_best 45 = .ok (.getfield 42, 3) := by decide +kernel
theorem dX6_best_48 : decode cX6_best 48 = .ok (.iload_n 1, 1) := by decide +kernel
theorem dX6_best_49 : decode cX6_best 49 = .ok (.invokevirtual 157, 3) := by decide +kernel
theorem dX6_best_52 : decode cX6_best 52 = .ok (.istore 5, 2) := by decide +kernel
theorem dX6_best_54 : decode cX6_best 54 = .ok (.iload 5, 2) := by decide +kernel
theorem dX6_best_56 : decode cX6_best 56 = .ok (.iload_n 3, 1) := by decide +kernel
theorem dX6_best_57 : decode cX6_best 57 = .ok (.if_icmp .ge 9, 3) := by decide +kernel
theorem dX6_best_60 : decode cX6_best 60 = .ok (.iload 5, 2) := by decide +kernel
theorem dX6_best_62 : decode cX6_best 62 = .ok (.istore_n 3, 1) := by decide +kernel
theorem dX6_best_63 : decode cX6_best 63 = .ok (.iload 4, 2) := by decide +kernel
theorem dX6_best_65 : decode cX6_best 65 = .ok (.istore_n 2, 1) := by decide +kernel
theorem dX6_best_66 : decode cX6_best 66 = .ok (.iinc 4 1, 3) := by decide +kernel
theorem dX6_best_69 : decode cX6_best 69 = .ok (.goto (-52), 3) := by decide +kernel
theorem dX6_best_72 : decode cX6_best 72 = .ok (.iload_n 2, 1) := by decide +kernel
theorem dX6_best_73 : decode cX6_best 73 = .ok (.ireturn, 1) := by decide +kernel
theorem dX6_order_0 : decode cX6_order 0 = .ok (.iload_n 1, 1) := by decide +kernel
theorem dX6_order_1 : decode cX6_order 1 = .ok (.ifCond .eq 24, 3) := by decide +kernel
theorem dX6_order_4 : decode cX6_order 4 = .ok (.iload_n 1, 1) := by decide +kernel
theorem dX6_order_5 : decode cX6_order 5 = .ok (.bipush 10, 2) := by decide +kernel
theorem dX6_order_7 : decode cX6_order 7 = .ok (.bipush 9, 2) := by decide +kernel
theorem dX6_order_9 : decode cX6_order 9 = .ok (.aload_n 0, 1) := by decide +kernel
theorem dX6_order_10 : decode cX6_order 10 = .ok (.getfield 10, 3) := by decide +kernel
theorem dX6_order_13 : decode cX6_order 13 = .ok (.getfield 96, 3) := by decide +kernel
theorem dX6_order_16 : decode cX6_order 16 = .ok (.iadd, 1) := by decide +kernel
theorem dX6_order_17 : decode cX6_order 17 = .ok (.invokestatic 67, 3) := by decide +kernel
theorem dX6_order_20 : decode cX6_order 20 = .ok (.ifCond .ne 5, 3) := by decide +kernel
theorem dX6_order_23 : decode cX6_order 23 = .ok (.iconst (-1), 1) := by decide +kernel
theorem dX6_order_24 : decode cX6_order 24 = .ok (.ireturn, 1) := by decide +kernel
theorem dX6_order_25 : decode cX6_order 25 = .ok (.aload_n 0, 1) := by decide +kernel
theorem dX6_order_26 : decode cX6_order 26 = .ok (.getfield 49, 3) := by decide +kernel
theorem dX6_order_29 : decode cX6_order 29 = .ok (.aload_n 0, 1) := by decide +kernel
theorem dX6_order_30 : decode cX6_order 30 = .ok (.getfield 10, 3) := by decide +kernel
theorem dX6_order_33 : decode cX6_order 33 = .ok (.invokevirtual 163, 3) := by decide +kernel
theorem dX6_order_36 : decode cX6_order 36 = .ok (.iload_n 1, 1) := by decide +kernel
theorem dX6_order_37 : decode cX6_order 37 = .ok (.ifCond .ne 13, 3) := by decide +kernel
theorem dX6_order_40 : decode cX6_order 40 = .ok (.aload_n 0, 1) := by decide +kernel
theorem dX6_order_41 : decode cX6_order 41 = .ok (.getfield 49, 3) := by decide +kernel
theorem dX6_order_44 : decode cX6_order 44 = .ok (.getfield 166, 3) := by decide +kernel
theorem dX6_order_47 : decode cX6_order 47 = .ok (.goto 15, 3) := by decide +kernel
theorem dX6_order_50 : decode cX6_order 50 = .ok (.aload_n 0, 1) := by decide +kernel
theorem dX6_order_51 : decode cX6_order 51 = .ok (.getfield 49, 3) := by decide +kernel
theorem dX6_order_54 : decode cX6_order 54 = .ok (.getfield 169, 3) := by decide +kernel
theorem dX6_order_57 : decode cX6_order 57 = .ok (.iload_n 1, 1) := by decide +kernel
theorem dX6_order_58 : decode cX6_order 58 = .ok (.bipush 10, 2) := by decide +kernel
theorem dX6_order_60 : decode cX6_order 60 = .ok (.isub, 1) := by decide +kernel
theorem dX6_order_61 : decode cX6_order 61 = .ok (.iaload, 1) := by decide +kernel
theorem dX6_order_62 : decode cX6_order 62 = .ok (.ireturn, 1) := by decide +kernel
theorem dX6_firsts_0 : decode cX6_firsts 0 = .ok (.aload_n 0, 1) := by decide +kernel
theorem dX6_firsts_1 : decode cX6_firsts 1 = .ok (.iload_n 1, 1) := by decide +kernel
theorem dX6_firsts_2 : decode cX6_firsts 2 = .ok (.invokevirtual 105, 3) := by decide +kernel
theorem dX6_firsts_5 : decode cX6_firsts 5 = .ok (.ifCond .ne 5, 3) := by decide +kernel
theorem dX6_firsts_8 : decode cX6_firsts 8 = .ok (.iconst (-1), 1) := by decide +kernel
theorem dX6_firsts_9 : decode cX6_firsts 9 = .ok (.ireturn, 1) := by decide +kernel
theorem dX6_firsts_10 : decode cX6_firsts 10 = .ok (.iconst 0, 1) := by decide +kernel
theorem dX6_firsts_11 : decode cX6_firsts 11 = .ok (.istore_n 2, 1) := by decide +kernel
theorem dX6_firsts_12 : decode cX6_firsts 12 = .ok (.iconst 0, 1) := by decide +kernel
theorem dX6_firsts_13 : decode cX6_firsts 13 = .ok (.istore_n 3, 1) := by decide +kernel
theorem dX6_firsts_14 : decode cX6_firsts 14 = .ok (.iload_n 3, 1) := by decide +kernel
theorem dX6_firsts_15 : decode cX6_firsts 15 = .ok (.iconst 5, 1) := by decide +kernel
theorem dX6_firsts_16 : decode cX6_firsts 16 = .ok (.if_icmp .ge 48, 3) := by decide +kernel
theorem dX6_firsts_19 : decode cX6_firsts 19 = .ok (.aload_n 0, 1) := by decide +kernel
theorem dX6_firsts_20 : decode cX6_firsts 20 = .ok (.getfield 42, 3) := by decide +kernel
theorem dX6_firsts_23 : decode cX6_firsts 23 = .ok (.aload_n 0, 1) := by decide +kernel
theorem dX6_firsts_24 : decode cX6_firsts 24 = .ok (.getfield 10, 3) := by decide +kernel
theorem dX6_firsts_27 : decode cX6_firsts 27 = .ok (.iload_n 3, 1) := by decide +kernel
theorem dX6_firsts_28 : decode cX6_firsts 28 = .ok (.aload_n 0, 1) := by decide +kernel
theorem dX6_firsts_29 : decode cX6_firsts 29 = .ok (.getfield 10, 3) := by decide +kernel
theorem dX6_firsts_32 : decode cX6_firsts 32 = .ok (.getfield 99, 3) := by decide +kernel
theorem dX6_firsts_35 : decode cX6_firsts 35 = .ok (.iconst 0, 1) := by decide +kernel
theorem dX6_firsts_36 : decode cX6_firsts 36 = .ok (.invokevirtual 153, 3) := by decide +kernel
theorem dX6_firsts_39 : decode cX6_firsts 39 = .ok (.aload_n 0, 1) := by decide +kernel
theorem dX6_firsts_40 : decode cX6_firsts 40 = .ok (.getfield 42, 3) := by decide +kernel
theorem dX6_firsts_43 : decode cX6_firsts 43 = .ok (.getfield 135, 3) := by decide +kernel
theorem dX6_firsts_46 : decode cX6_firsts 46 = .ok (.iconst 0, 1) := by decide +kernel
theorem dX6_firsts_47 : decode cX6_firsts 47 = .ok (.iaload, 1) := by decide +kernel
theorem dX6_firsts_48 : decode cX6_firsts 48 = .ok (.iload_n 1, 1) := by decide +kernel
theorem dX6_firsts_49 : decode cX6_firsts 49 = .ok (.if_icmp .ne 9, 3) := by decide +kernel
theorem dX6_firsts_52 : decode cX6_firsts 52 = .ok (.iload_n 2, 1) := by decide +kernel
theorem dX6_firsts_53 : decode cX6_firsts 53 = .ok (.iconst 1, 1) := by decide +kernel
theorem dX6_firsts_54 : decode cX6_firsts 54 = .ok (.iload_n 3, 1) := by decide +kernel
theorem dX6_firsts_55 : decode cX6_firsts 55 = .ok (.ishl, 1) := by decide +kernel
theorem dX6_firsts_56 : decode cX6_firsts 56 = .ok (.ior, 1) := by decide +kernel
theorem dX6_firsts_57 : decode cX6_firsts 57 = .ok (.istore_n 2, 1) := by decide +kernel
theorem dX6_firsts_58 : decode cX6_firsts 58 = .ok (.iinc 3 1, 3) := by decide +kernel
theorem dX6_firsts_61 : decode cX6_firsts 61 = .ok (.goto (-47), 3) := by decide +kernel
theorem dX6_firsts_64 : decode cX6_firsts 64 = .ok (.iload_n 2, 1) := by decide +kernel
theorem dX6_firsts_65 : decode cX6_firsts 65 = .ok (.ireturn, 1) := by decide +kernel
theorem dX6_gain_0 : decode cX6_gain 0 = .ok (.aload_n 0, 1) := by decide +kernel
theorem dX6_gain_1 : decode cX6_gain 1 = .ok (.iload_n 1, 1) := by decide +kernel
theorem dX6_gain_2 : decode cX6_gain 2 = .ok (.invokevirtual 105, 3) := by decide +kernel
theorem dX6_gain_5 : decode cX6_gain 5 = .ok (.ifCond .ne 5, 3) := by decide +kernel
theorem dX6_gain_8 : decode cX6_gain 8 = .ok (.iconst (-1), 1) := by decide +kernel
theorem dX6_gain_9 : decode cX6_gain 9 = .ok (.ireturn, 1) := by decide +kernel
theorem dX6_gain_10 : decode cX6_gain 10 = .ok (.sipush 1000, 3) := by decide +kernel
theorem dX6_gain_13 : decode cX6_gain 13 = .ok (.aload_n 0, 1) := by decide +kernel
theorem dX6_gain_14 : decode cX6_gain 14 = .ok (.aload_n 0, 1) := by decide +kernel
theorem dX6_gain_15 : decode cX6_gain 15 = .ok (.getfield 10, 3) := by decide +kernel
theorem dX6_gain_18 : decode cX6_gain 18 = .ok (.getfield 102, 3) := by decide +kernel
theorem dX6_gain_21 : decode cX6_gain 21 = .ok (.iconst 3, 1) := by decide +kernel
theorem dX6_gain_22 : decode cX6_gain 22 = .ok (.iaload, 1) := by decide +kernel
theorem dX6_gain_23 : decode cX6_gain 23 = .ok (.iload_n 1, 1) := by decide +kernel
theorem dX6_gain_24 : decode cX6_gain 24 = .ok (.invokevirtual 172, 3) := by decide +kernel
theorem dX6_gain_27 : decode cX6_gain 27 = .ok (.iadd, 1) := by decide +kernel
theorem dX6_gain_28 : decode cX6_gain 28 = .ok (.ireturn, 1) := by decide +kernel
theorem dX6_calm_0 : decode cX6_calm 0 = .ok (.iconst 0, 1) := by decide +kernel
theorem dX6_calm_1 : decode cX6_calm 1 = .ok (.istore_n 1, 1) := by decide +kernel
theorem dX6_calm_2 : decode cX6_calm 2 = .ok (.iconst 0, 1) := by decide +kernel
theorem dX6_calm_3 : decode cX6_calm 3 = .ok (.istore_n 2, 1) := by decide +kernel
theorem dX6_calm_4 : decode cX6_calm 4 = .ok (.iload_n 2, 1) := by decide +kernel
theorem dX6_calm_5 : decode cX6_calm 5 = .ok (.iconst 5, 1) := by decide +kernel
theorem dX6_calm_6 : decode cX6_calm 6 = .ok (.if_icmp .ge 23, 3) := by decide +kernel
theorem dX6_calm_9 : decode cX6_calm 9 = .ok (.aload_n 0, 1) := by decide +kernel
theorem dX6_calm_10 : decode cX6_calm 10 = .ok (.iload_n 2, 1) := by decide +kernel
theorem dX6_calm_11 : decode cX6_calm 11 = .ok (.invokevirtual 175, 3) := by decide +kernel
theorem dX6_calm_14 : decode cX6_calm 14 = .ok (.ifCond .eq 9, 3) := by decide +kernel
theorem dX6_calm_17 : decode cX6_calm 17 = .ok (.iload_n 1, 1) := by decide +kernel
theorem dX6_calm_18 : decode cX6_calm 18 = .ok (.iconst 1, 1) := by decide +kernel
theorem dX6_calm_19 : decode cX6_calm 19 = .ok (.iload_n 2, 1) := by decide +kernel
theorem dX6_calm_20 : decode cX6_calm 20 = .ok (.ishl, 1) := by decide +kernel
theorem dX6_calm_21 : decode cX6_calm 21 = .ok (.ior, 1) := by decide +kernel
theorem dX6_calm_22 : decode cX6_calm 22 = .ok (.istore_n 1, 1) := by decide +kernel
theorem dX6_calm_23 : decode cX6_calm 23 = .ok (.iinc 2 1, 3) := by decide +kernel
theorem dX6_calm_26 : decode cX6_calm 26 = .ok (.goto (-22), 3) := by decide +kernel
theorem dX6_calm_29 : decode cX6_calm 29 = .ok (.iload_n 1, 1) := by decide +kernel
theorem dX6_calm_30 : decode cX6_calm 30 = .ok (.ireturn, 1) := by decide +kernel
theorem dX6_rests_0 : decode cX6_rests 0 = .ok (.iload_n 1, 1) := by decide +kernel
theorem dX6_rests_1 : decode cX6_rests 1 = .ok (.iconst 0, 1) := by decide +kernel
theorem dX6_rests_2 : decode cX6_rests 2 = .ok (.iconst 1, 1) := by decide +kernel
theorem dX6_rests_3 : decode cX6_rests 3 = .ok (.invokestatic 67, 3) := by decide +kernel
theorem dX6_rests_6 : decode cX6_rests 6 = .ok (.ifCond .ne 5, 3) := by decide +kernel
theorem dX6_rests_9 : decode cX6_rests 9 = .ok (.iconst (-1), 1) := by decide +kernel
theorem dX6_rests_10 : decode cX6_rests 10 = .ok (.ireturn, 1) := by decide +kernel
theorem dX6_rests_11 : decode cX6_rests 11 = .ok (.aload_n 0, 1) := by decide +kernel
theorem dX6_rests_12 : decode cX6_rests 12 = .ok (.aload_n 0, 1) := by decide +kernel
theorem dX6_rests_13 : decode cX6_rests 13 = .ok (.getfield 10, 3) := by decide +kernel
theorem dX6_rests_16 : decode cX6_rests 16 = .ok (.getfield 102, 3) := by decide +kernel
theorem dX6_rests_19 : decode cX6_rests 19 = .ok (.iconst 3, 1) := by decide +kernel
theorem dX6_rests_20 : decode cX6_rests 20 = .ok (.iaload, 1) := by decide +kernel
theorem dX6_rests_21 : decode cX6_rests 21 = .ok (.invokevirtual 178, 3) := by decide +kernel
theorem dX6_rests_24 : decode cX6_rests 24 = .ok (.iconst 0, 1) := by decide +kernel
theorem dX6_rests_25 : decode cX6_rests 25 = .ok (.istore_n 2, 1) := by decide +kernel
theorem dX6_rests_26 : decode cX6_rests 26 = .ok (.bipush (-4), 2) := by decide +kernel
theorem dX6_rests_28 : decode cX6_rests 28 = .ok (.istore_n 3, 1) := by decide +kernel
theorem dX6_rests_29 : decode cX6_rests 29 = .ok (.iconst 0, 1) := by decide +kernel
theorem dX6_rests_30 : decode cX6_rests 30 = .ok (.istore 4, 2) := by decide +kernel
theorem dX6_rests_32 : decode cX6_rests 32 = .ok (.iload 4, 2) := by decide +kernel
theorem dX6_rests_34 : decode cX6_rests 34 = .ok (.aload_n 0, 1) := by decide +kernel
theorem dX6_rests_35 : decode cX6_rests 35 = .ok (.invokevirtual 182, 3) := by decide +kernel
theorem dX6_rests_38 : decode cX6_rests 38 = .ok (.if_icmp .ge 34, 3) := by decide +kernel
theorem dX6_rests_41 : decode cX6_rests 41 = .ok (.aload_n 0, 1) := by decide +kernel
theorem dX6_rests_42 : decode cX6_rests 42 = .ok (.iload 4, 2) := by decide +kernel
theorem dX6_rests_44 : decode cX6_rests 44 = .ok (.invokevirtual 185, 3) := by decide +kernel
theorem dX6_rests_47 : decode cX6_rests 47 = .ok (.ifCond .eq 19, 3) := by decide +kernel
theorem dX6_rests_50 : decode cX6_rests 50 = .ok (.iinc 2 1, 3) := by decide +kernel
theorem dX6_rests_53 : decode cX6_rests 53 = .ok (.iload_n 3, 1) := by decide +kernel
theorem dX6_rests_54 : decode cX6_rests 54 = .ok (.bipush (-4), 2) := by decide +kernel
theorem dX6_rests_56 : decode cX6_rests 56 = .ok (.if_icmp .ne 8, 3) := by decide +kernel
theorem dX6_rests_59 : decode cX6_rests 59 = .ok (.iload 4, 2) := by decide +kernel
theorem dX6_rests_61 : decode cX6_rests 61 = .ok (.goto 4, 3) := by decide +kernel
theorem dX6_rests_64 : decode cX6_rests 64 = .ok (.iload_n 3, 1) := by decide +kernel
theorem dX6_rests_65 : decode cX6_rests 65 = .ok (.istore_n 3, 1) := by decide +kernel
theorem dX6_rests_66 : decode cX6_rests 66 = .ok (.iinc 4 1, 3) := by decide +kernel
theorem dX6_rests_69 : decode cX6_rests 69 = .ok (.goto (-37), 3) := by decide +kernel
theorem dX6_rests_72 : decode cX6_rests 72 = .ok (.iload_n 1, 1) := by decide +kernel
theorem dX6_rests_73 : decode cX6_rests 73 = .ok (.ifCond .ne 7, 3) := by decide +kernel
theorem dX6_rests_76 : decode cX6_rests 76 = .ok (.iload_n 2, 1) := by decide +kernel
theorem dX6_rests_77 : decode cX6_rests 77 = .ok (.goto 4, 3) := by decide +kernel
theorem dX6_rests_80 : decode cX6_rests 80 = .ok (.iload_n 3, 1) := by decide +kernel
theorem dX6_rests_81 : decode cX6_rests 81 = .ok (.ireturn, 1) := by decide +kernel
theorem dX6_isCalm_0 : decode cX6_isCalm 0 = .ok (.iconst 0, 1) := by decide +kernel
theorem dX6_isCalm_1 : decode cX6_isCalm 1 = .ok (.istore_n 2, 1) := by decide +kernel
theorem dX6_isCalm_2 : decode cX6_isCalm 2 = .ok (.iload_n 2, 1) := by decide +kernel
theorem dX6_isCalm_3 : decode cX6_isCalm 3 = .ok (.aload_n 0, 1) := by decide +kernel
theorem dX6_isCalm_4 : decode cX6_isCalm 4 = .ok (.getfield 10, 3) := by decide +kernel
theorem dX6_isCalm_7 : decode cX6_isCalm 7 = .ok (.getfield 96, 3) := by decide +kernel
theorem dX6_isCalm_10 : decode cX6_isCalm 10 = .ok (.if_icmp .ge 20, 3) := by decide +kernel
theorem dX6_isCalm_13 : decode cX6_isCalm 13 = .ok (.aload_n 0, 1) := by decide +kernel
theorem dX6_isCalm_14 : decode cX6_isCalm 14 = .ok (.iload_n 1, 1) := by decide +kernel
theorem dX6_isCalm_15 : decode cX6_isCalm 15 = .ok (.iload_n 2, 1) := by decide +kernel
theorem dX6_isCalm_16 : decode cX6_isCalm 16 = .ok (.invokevirtual 172, 3) := by decide +kernel
theorem dX6_isCalm_19 : decode cX6_isCalm 19 = .ok (.ifCond .le 5, 3) := by decide +kernel
theorem dX6_isCalm_22 : decode cX6_isCalm 22 = .ok (.iconst 0, 1) := by decide +kernel
theorem dX6_isCalm_23 : decode cX6_isCalm 23 = .ok (.ireturn, 1) := by decide +kernel
theorem dX6_isCalm_24 : decode cX6_isCalm 24 = .ok (.iinc 2 1, 3) := by decide +kernel
theorem dX6_isCalm_27 : decode cX6_isCalm 27 = .ok (.goto (-25), 3) := by decide +kernel
theorem dX6_isCalm_30 : decode cX6_isCalm 30 = .ok (.iconst 1, 1) := by decide +kernel
theorem dX6_isCalm_31 : decode cX6_isCalm 31 = .ok (.ireturn, 1) := by decide +kernel
theorem dX6_gained_0 : decode cX6_gained 0 = .ok (.iload_n 1, 1) := by decide +kernel
theorem dX6_gained_1 : decode cX6_gained 1 = .ok (.invokestatic 188, 3) := by decide +kernel
theorem dX6_gained_4 : decode cX6_gained 4 = .ok (.ifCond .ne 5, 3) := by decide +kernel
theorem dX6_gained_7 : decode cX6_gained 7 = .ok (.iconst 0, 1) := by decide +kernel
theorem dX6_gained_8 : decode cX6_gained 8 = .ok (.ireturn, 1) := by decide +kernel
theorem dX6_gained_9 : decode cX6_gained 9 = .ok (.aload_n 0, 1) := by decide +kernel
theorem dX6_gained_10 : decode cX6_gained 10 = .ok (.getfield 42, 3) := by decide +kernel
theorem dX6_gained_13 : decode cX6_gained 13 = .ok (.aload_n 0, 1) := by decide +kernel
theorem dX6_gained_14 : decode cX6_gained 14 = .ok (.getfield 10, 3) := by decide +kernel
theorem dX6_gained_17 : decode cX6_gained 17 = .ok (.iload_n 1, 1) := by decide +kernel
theorem dX6_gained_18 : decode cX6_gained 18 = .ok (.aload_n 0, 1) := by decide +kernel
theorem dX6_gained_19 : decode cX6_gained 19 = .ok (.getfield 10, 3) := by decide +kernel
theorem dX6_gained_22 : decode cX6_gained 22 = .ok (.getfield 99, 3) := by decide +kernel
theorem dX6_gained_25 : decode cX6_gained 25 = .ok (.iconst 0, 1) := by decide +kernel
theorem dX6_gained_26 : decode cX6_gained 26 = .ok (.invokevirtual 153, 3) := by decide +kernel
theorem dX6_gained_29 : decode cX6_gained 29 = .ok (.aload_n 0, 1) := by decide +kernel
theorem dX6_gained_30 : decode cX6_gained 30 = .ok (.getfield 42, 3) := by decide +kernel
theorem dX6_gained_33 : decode cX6_gained 33 = .ok (.getfield 141, 3) := by decide +kernel
theorem dX6_gained_36 : decode cX6_gained 36 = .ok (.iload_n 2, 1) := by decide +kernel
theorem dX6_gained_37 : decode cX6_gained 37 = .ok (.iaload, 1) := by decide +kernel
theorem dX6_gained_38 : decode cX6_gained 38 = .ok (.istore_n 3, 1) := by decide +kernel
theorem dX6_gained_39 : decode cX6_gained 39 = .ok (.aload_n 0, 1) := by decide +kernel
theorem dX6_gained_40 : decode cX6_gained 40 = .ok (.getfield 42, 3) := by decide +kernel
theorem dX6_gained_43 : decode cX6_gained 43 = .ok (.aload_n 0, 1) := by decide +kernel
theorem dX6_gained_44 : decode cX6_gained 44 = .ok (.getfield 10, 3) := by decide +kernel
theorem dX6_gained_47 : decode cX6_gained 47 = .ok (.iload_n 1, 1) := by decide +kernel
theorem dX6_gained_48 : decode cX6_gained 48 = .ok (.aload_n 0, 1) := by decide +kernel
theorem dX6_gained_49 : decode cX6_gained 49 = .ok (.getfield 10, 3) := by decide +kernel
theorem dX6_gained_52 : decode cX6_gained 52 = .ok (.getfield 99, 3) := by decide +kernel
theorem dX6_gained_55 : decode cX6_gained 55 = .ok (.iconst 1, 1) := by decide +kernel
theorem dX6_gained_56 : decode cX6_gained 56 = .ok (.iload_n 2, 1) := by decide +kernel
theorem dX6_gained_57 : decode cX6_gained 57 = .ok (.ishl, 1) := by decide +kernel
theorem dX6_gained_58 : decode cX6_gained 58 = .ok (.ixor, 1) := by decide +kernel
theorem dX6_gained_59 : decode cX6_gained 59 = .ok (.iconst 0, 1) := by decide +kernel
theorem dX6_gained_60 : decode cX6_gained 60 = .ok (.invokevirtual 153, 3) := by decide +kernel
theorem dX6_gained_63 : decode cX6_gained 63 = .ok (.iload_n 3, 1) := by decide +kernel
theorem dX6_gained_64 : decode cX6_gained 64 = .ok (.aload_n 0, 1) := by decide +kernel
theorem dX6_gained_65 : decode cX6_gained 65 = .ok (.getfield 42, 3) := by decide +kernel
theorem dX6_gained_68 : decode cX6_gained 68 = .ok (.getfield 141, 3) := by decide +kernel
theorem dX6_gained_71 : decode cX6_gained 71 = .ok (.iload_n 2, 1) := by decide +kernel
theorem dX6_gained_72 : decode cX6_gained 72 = .ok (.iaload, 1) := by decide +kernel
theorem dX6_gained_73 : decode cX6_gained 73 = .ok (.isub, 1) := by decide +kernel
theorem dX6_gained_74 : decode cX6_gained 74 = .ok (.ireturn, 1) := by decide +kernel
theorem dX6_fillStoodBySet_0 : decode cX6_fillStoodBySet 0 = .ok (.iconst 0, 1) := by decide +kernel
theorem dX6_fillStoodBySet_1 : decode cX6_fillStoodBySet 1 = .ok (.istore_n 2, 1) := by decide +kernel
theorem dX6_fillStoodBySet_2 : decode cX6_fillStoodBySet 2 = .ok (.iload_n 2, 1) := by decide +kernel
theorem dX6_fillStoodBySet_3 : decode cX6_fillStoodBySet 3 = .ok (.aload_n 0, 1) := by decide +kernel
theorem dX6_fillStoodBySet_4 : decode cX6_fillStoodBySet 4 = .ok (.invokevirtual 182, 3) := by decide +kernel
theorem dX6_fillStoodBySet_7 : decode cX6_fillStoodBySet 7 = .ok (.if_icmp .ge 55, 3) := by decide +kernel
theorem dX6_fillStoodBySet_10 : decode cX6_fillStoodBySet 10 = .ok (.iload_n 2, 1) := by decide +kernel
theorem dX6_fillStoodBySet_11 : decode cX6_fillStoodBySet 11 = .ok (.ifCond .eq 10, 3) := by decide +kernel
theorem dX6_fillStoodBySet_14 : decode cX6_fillStoodBySet 14 = .ok (.iload_n 1, 1) := by decide +kernel
theorem dX6_fillStoodBySet_15 : decode cX6_fillStoodBySet 15 = .ok (.invokestatic 188, 3) := by decide +kernel
theorem dX6_fillStoodBySet_18 : decode cX6_fillStoodBySet 18 = .ok (.ifCond .eq 17, 3) := by decide +kernel
theorem dX6_fillStoodBySet_21 : decode cX6_fillStoodBySet 21 = .ok (.aload_n 0, 1) := by decide +kernel
theorem dX6_fillStoodBySet_22 : decode cX6_fillStoodBySet 22 = .ok (.getfield 42, 3) := by decide +kernel
theorem dX6_fillStoodBySet_25 : decode cX6_fillStoodBySet 25 = .ok (.aload_n 0, 1) := by decide +kernel
theorem dX6_fillStoodBySet_26 : decode cX6_fillStoodBySet 26 = .ok (.getfield 10, 3) := by decide +kernel
theorem dX6_fillStoodBySet_29 : decode cX6_fillStoodBySet 29 = .ok (.iload_n 1, 1) := by decide +kernel
theorem dX6_fillStoodBySet_30 : decode cX6_fillStoodBySet 30 = .ok (.iload_n 2, 1) := by decide +kernel
theorem dX6_fillStoodBySet_31 : decode cX6_fillStoodBySet 31 = .ok (.iconst 0, 1) := by decide +kernel
theorem dX6_fillStoodBySet_32 : decode cX6_fillStoodBySet 32 = .ok (.invokevirtual 153, 3) := by decide +kernel
theorem dX6_fillStoodBySet_35 : decode cX6_fillStoodBySet 35 = .ok (.aload_n 0, 1) := by decide +kernel
theorem dX6_fillStoodBySet_36 : decode cX6_fillStoodBySet 36 = .ok (.getfield 42, 3) := by decide +kernel
theorem dX6_fillStoodBySet_39 : decode cX6_fillStoodBySet 39 = .ok (.getfield 141, 3) := by decide +kernel
theorem dX6_fillStoodBySet_42 : decode cX6_fillStoodBySet 42 = .ok (.iconst 0, 1) := by decide +kernel
theorem dX6_fillStoodBySet_43 : decode cX6_fillStoodBySet 43 = .ok (.aload_n 0, 1) := by decide +kernel
theorem dX6_fillStoodBySet_44 : decode cX6_fillStoodBySet 44 = .ok (.getfield 57, 3) := by decide +kernel
theorem dX6_fillStoodBySet_47 : decode cX6_fillStoodBySet 47 = .ok (.iload_n 2, 1) := by decide +kernel
theorem dX6_fillStoodBySet_48 : decode cX6_fillStoodBySet 48 = .ok (.bipush 6, 2) := by decide +kernel
theorem dX6_fillStoodBySet_50 : decode cX6_fillStoodBySet 50 = .ok (.imul, 1) := by decide +kernel
theorem dX6_fillStoodBySet_51 : decode cX6_fillStoodBySet 51 = .ok (.bipush 6, 2) := by decide +kernel
theorem dX6_fillStoodBySet_53 : decode cX6_fillStoodBySet 53 = .ok (.invokestatic 191, 3) := by decide +kernel
theorem dX6_fillStoodBySet_56 : decode cX6_fillStoodBySet 56 = .ok (.iinc 2 1, 3) := by decide +kernel
theorem dX6_fillStoodBySet_59 : decode cX6_fillStoodBySet 59 = .ok (.goto (-57), 3) := by decide +kernel
theorem dX6_fillStoodBySet_62 : decode cX6_fillStoodBySet 62 = .ok (.return_, 1) := by decide +kernel
theorem dX6_isRest_0 : decode cX6_isRest 0 = .ok (.iconst 0, 1) := by decide +kernel
theorem dX6_isRest_1 : decode cX6_isRest 1 = .ok (.istore_n 2, 1) := by decide +kernel
theorem dX6_isRest_2 : decode cX6_isRest 2 = .ok (.iload_n 2, 1) := by decide +kernel
theorem dX6_isRest_3 : decode cX6_isRest 3 = .ok (.aload_n 0, 1) := by decide +kernel
theorem dX6_isRest_4 : decode cX6_isRest 4 = .ok (.getfield 10, 3) := by decide +kernel
theorem dX6_isRest_7 : decode cX6_isRest 7 = .ok (.getfield 96, 3) := by decide +kernel
theorem dX6_isRest_10 : decode cX6_isRest 10 = .ok (.if_icmp .ge 42, 3) := by decide +kernel
theorem dX6_isRest_13 : decode cX6_isRest 13 = .ok (.iload_n 1, 1) := by decide +kernel
theorem dX6_isRest_14 : decode cX6_isRest 14 = .ok (.iconst 1, 1) := by decide +kernel
theorem dX6_isRest_15 : decode cX6_isRest 15 = .ok (.iload_n 2, 1) := by decide +kernel
theorem dX6_isRest_16 : decode cX6_isRest 16 = .ok (.ishl, 1) := by decide +kernel
theorem dX6_isRest_17 : decode cX6_isRest 17 = .ok (.ixor, 1) := by decide +kernel
theorem dX6_isRest_18 : decode cX6_isRest 18 = .ok (.istore_n 3, 1) := by decide +kernel
theorem dX6_isRest_19 : decode cX6_isRest 19 = .ok (.aload_n 0, 1) := by decide +kernel
theorem dX6_isRest_20 : decode cX6_isRest 20 = .ok (.getfield 57, 3) := by decide +kernel
theorem dX6_isRest_23 : decode cX6_isRest 23 = .ok (.iload_n 3, 1) := by decide +kernel
theorem dX6_isRest_24 : decode cX6_isRest 24 = .ok (.bipush 6, 2) := by decide +kernel
theorem dX6_isRest_26 : decode cX6_isRest 26 = .ok (.imul, 1) := by decide +kernel
theorem dX6_isRest_27 : decode cX6_isRest 27 = .ok (.iload_n 2, 1) := by decide +kernel
theorem dX6_isRest_28 : decode cX6_isRest 28 = .ok (.iadd, 1) := by decide +kernel
theorem dX6_isRest_29 : decode cX6_isRest 29 = .ok (.iaload, 1) := by decide +kernel
theorem dX6_isRest_30 : decode cX6_isRest 30 = .ok (.aload_n 0, 1) := by decide +kernel
theorem dX6_isRest_31 : decode cX6_isRest 31 = .ok (.getfield 57, 3) := by decide +kernel
theorem dX6_isRest_34 : decode cX6_isRest 34 = .ok (.iload_n 1, 1) := by decide +kernel
theorem dX6_isRest_35 : decode cX6_isRest 35 = .ok (.bipush 6, 2) := by decide +kernel
theorem dX6_isRest_37 : decode cX6_isRest 37 = .ok (.imul, 1) := by decide +kernel
theorem dX6_isRest_38 : decode cX6_isRest 38 = .ok (.iload_n 2, 1) := by decide +kernel
theorem dX6_isRest_39 : decode cX6_isRest 39 = .ok (.iadd, 1) := by decide +kernel
theorem dX6_isRest_40 : decode cX6_isRest 40 = .ok (.iaload, 1) := by decide +kernel
theorem dX6_isRest_41 : decode cX6_isRest 41 = .ok (.if_icmp .ge 5, 3) := by decide +kernel
theorem dX6_isRest_44 : decode cX6_isRest 44 = .ok (.iconst 0, 1) := by decide +kernel
theorem dX6_isRest_45 : decode cX6_isRest 45 = .ok (.ireturn, 1) := by decide +kernel
theorem dX6_isRest_46 : decode cX6_isRest 46 = .ok (.iinc 2 1, 3) := by decide +kernel
theorem dX6_isRest_49 : decode cX6_isRest 49 = .ok (.goto (-47), 3) := by decide +kernel
theorem dX6_isRest_52 : decode cX6_isRest 52 = .ok (.iconst 1, 1) := by decide +kernel
theorem dX6_isRest_53 : decode cX6_isRest 53 = .ok (.ireturn, 1) := by decide +kernel
theorem dX6_boy_0 : decode cX6_boy 0 = .ok (.aload_n 0, 1) := by decide +kernel
theorem dX6_boy_1 : decode cX6_boy 1 = .ok (.iload_n 1, 1) := by decide +kernel
theorem dX6_boy_2 : decode cX6_boy 2 = .ok (.iload_n 2, 1) := by decide +kernel
theorem dX6_boy_3 : decode cX6_boy 3 = .ok (.invokevirtual 197, 3) := by decide +kernel
theorem dX6_boy_6 : decode cX6_boy 6 = .ok (.ifCond .ne 5, 3) := by decide +kernel
theorem dX6_boy_9 : decode cX6_boy 9 = .ok (.iconst (-1), 1) := by decide +kernel
theorem dX6_boy_10 : decode cX6_boy 10 = .ok (.ireturn, 1) := by decide +kernel
theorem dX6_boy_11 : decode cX6_boy 11 = .ok (.aload_n 0, 1) := by decide +kernel
theorem dX6_boy_12 : decode cX6_boy 12 = .ok (.getfield 16, 3) := by decide +kernel
theorem dX6_boy_15 : decode cX6_boy 15 = .ok (.aload_n 0, 1) := by decide +kernel
theorem dX6_boy_16 : decode cX6_boy 16 = .ok (.getfield 10, 3) := by decide +kernel
theorem dX6_boy_19 : decode cX6_boy 19 = .ok (.invokevirtual 86, 3) := by decide +kernel
theorem dX6_boy_22 : decode cX6_boy 22 = .ok (.iconst 0, 1) := by decide +kernel
theorem dX6_boy_23 : decode cX6_boy 23 = .ok (.istore_n 3, 1) := by decide +kernel
theorem dX6_boy_24 : decode cX6_boy 24 = .ok (.iload_n 3, 1) := by decide +kernel
theorem dX6_boy_25 : decode cX6_boy 25 = .ok (.bipush 9, 2) := by decide +kernel
theorem dX6_boy_27 : decode cX6_boy 27 = .ok (.if_icmp .gt 50, 3) := by decide +kernel
theorem dX6_boy_30 : decode cX6_boy 30 = .ok (.aload_n 0, 1) := by decide +kernel
theorem dX6_boy_31 : decode cX6_boy 31 = .ok (.getfield 16, 3) := by decide +kernel
theorem dX6_boy_34 : decode cX6_boy 34 = .ok (.iload_n 1, 1) := by decide +kernel
theorem dX6_boy_35 : decode cX6_boy 35 = .ok (.iconst 4, 1) := by decide +kernel
theorem dX6_boy_36 : decode cX6_boy 36 = .ok (.iload_n 3, 1) := by decide +kernel
theorem dX6_boy_37 : decode cX6_boy 37 = .ok (.invokevirtual 125, 3) := by decide +kernel
theorem dX6_boy_40 : decode cX6_boy 40 = .ok (.aload_n 0, 1) := by decide +kernel
theorem dX6_boy_41 : decode cX6_boy 41 = .ok (.aload_n 0, 1) := by decide +kernel
theorem dX6_boy_42 : decode cX6_boy 42 = .ok (.getfield 16, 3) := by decide +kernel
theorem dX6_boy_45 : decode cX6_boy 45 = .ok (.invokevirtual 132, 3) := by decide +kernel
theorem dX6_boy_48 : decode cX6_boy 48 = .ok (.aload_n 0, 1) := by decide +kernel
theorem dX6_boy_49 : decode cX6_boy 49 = .ok (.getfield 42, 3) := by decide +kernel
theorem dX6_boy_52 : decode cX6_boy 52 = .ok (.getfield 138, 3) := by decide +kernel
theorem dX6_boy_55 : decode cX6_boy 55 = .ok (.iload_n 1, 1) := by decide +kernel
theorem dX6_boy_56 : decode cX6_boy 56 = .ok (.iaload, 1) := by decide +kernel
theorem dX6_boy_57 : decode cX6_boy 57 = .ok (.aload_n 0, 1) := by decide +kernel
theorem dX6_boy_58 : decode cX6_boy 58 = .ok (.getfield 42, 3) := by decide +kernel
theorem dX6_boy_61 : decode cX6_boy 61 = .ok (.getfield 138, 3) := by decide +kernel
theorem dX6_boy_64 : decode cX6_boy 64 = .ok (.iload_n 2, 1) := by decide +kernel
theorem dX6_boy_65 : decode cX6_boy 65 = .ok (.iaload, 1) := by decide +kernel
theorem dX6_boy_66 : decode cX6_boy 66 = .ok (.if_icmp .ge 5, 3) := by decide +kernel
theorem dX6_boy_69 : decode cX6_boy 69 = .ok (.iload_n 3, 1) := by decide +kernel
theorem dX6_boy_70 : decode cX6_boy 70 = .ok (.ireturn, 1) := by decide +kernel
theorem dX6_boy_71 : decode cX6_boy 71 = .ok (.iinc 3 1, 3) := by decide +kernel
theorem dX6_boy_74 : decode cX6_boy 74 = .ok (.goto (-50), 3) := by decide +kernel
theorem dX6_boy_77 : decode cX6_boy 77 = .ok (.bipush (-4), 2) := by decide +kernel
theorem dX6_boy_79 : decode cX6_boy 79 = .ok (.ireturn, 1) := by decide +kernel
theorem dX6_post_0 : decode cX6_post 0 = .ok (.iload_n 1, 1) := by decide +kernel
theorem dX6_post_1 : decode cX6_post 1 = .ok (.iconst 0, 1) := by decide +kernel
theorem dX6_post_2 : decode cX6_post 2 = .ok (.iconst 1, 1) := by decide +kernel
theorem dX6_post_3 : decode cX6_post 3 = .ok (.invokestatic 67, 3) := by decide +kernel
theorem dX6_post_6 : decode cX6_post 6 = .ok (.ifCond .ne 5, 3) := by decide +kernel
theorem dX6_post_9 : decode cX6_post 9 = .ok (.iconst (-1), 1) := by decide +kernel
theorem dX6_post_10 : decode cX6_post 10 = .ok (.ireturn, 1) := by decide +kernel
theorem dX6_post_11 : decode cX6_post 11 = .ok (.aload_n 0, 1) := by decide +kernel
theorem dX6_post_12 : decode cX6_post 12 = .ok (.getfield 16, 3) := by decide +kernel
theorem dX6_post_15 : decode cX6_post 15 = .ok (.aload_n 0, 1) := by decide +kernel
theorem dX6_post_16 : decode cX6_post 16 = .ok (.getfield 10, 3) := by decide +kernel
theorem dX6_post_19 : decode cX6_post 19 = .ok (.invokevirtual 86, 3) := by decide +kernel
theorem dX6_post_22 : decode cX6_post 22 = .ok (.iconst 0, 1) := by decide +kernel
theorem dX6_post_23 : decode cX6_post 23 = .ok (.istore_n 2, 1) := by decide +kernel
theorem dX6_post_24 : decode cX6_post 24 = .ok (.ldc 162, 2) := by decide +kernel
theorem dX6_post_26 : decode cX6_post 26 = .ok (.istore_n 3, 1) := by decide +kernel
theorem dX6_post_27 : decode cX6_post 27 = .ok (.iconst 0, 1) := by decide +kernel
theorem dX6_post_28 : decode cX6_post 28 = .ok (.istore 4, 2) := by decide +kernel
theorem dX6_post_30 : decode cX6_post 30 = .ok (.iload 4, 2) := by decide +kernel
theorem dX6_post_32 : decode cX6_post 32 = .ok (.bipush 9, 2) := by decide +kernel
theorem dX6_post_34 : decode cX6_post 34 = .ok (.if_icmp .gt 50, 3) := by decide +kernel
theorem dX6_post_37 : decode cX6_post 37 = .ok (.aload_n 0, 1) := by decide +kernel
theorem dX6_post_38 : decode cX6_post 38 = .ok (.getfield 16, 3) := by decide +kernel
theorem dX6_post_41 : decode cX6_post 41 = .ok (.getfield 102, 3) := by decide +kernel
theorem dX6_post_44 : decode cX6_post 44 = .ok (.iconst 4, 1) := by decide +kernel
theorem dX6_post_45 : decode cX6_post 45 = .ok (.iload 4, 2) := by decide +kernel
theorem dX6_post_47 : decode cX6_post 47 = .ok (.iastore, 1) := by decide +kernel
theorem dX6_post_48 : decode cX6_post 48 = .ok (.aload_n 0, 1) := by decide +kernel
theorem dX6_post_49 : decode cX6_post 49 = .ok (.aload_n 0, 1) := by decide +kernel
theorem dX6_post_50 : decode cX6_post 50 = .ok (.getfield 16, 3) := by decide +kernel
theorem dX6_post_53 : decode cX6_post 53 = .ok (.invokevirtual 132, 3) := by decide +kernel
theorem dX6_post_56 : decode cX6_post 56 = .ok (.aload_n 0, 1) := by decide +kernel
theorem dX6_post_57 : decode cX6_post 57 = .ok (.getfield 42, 3) := by decide +kernel
theorem dX6_post_60 : decode cX6_post 60 = .ok (.getfield 201, 3) := by decide +kernel
theorem dX6_post_63 : decode cX6_post 63 = .ok (.iload_n 3, 1) := by decide +kernel
theorem dX6_post_64 : decode cX6_post 64 = .ok (.if_icmp .ge 14, 3) := by decide +kernel
theorem dX6_post_67 : decode cX6_post 67 = .ok (.aload_n 0, 1) := by decide +kernel
theorem dX6_post_68 : decode cX6_post 68 = .ok (.getfield 42, 3) := by decide +kernel
theorem dX6_post_71 : decode cX6_post 71 = .ok (.getfield 201, 3) := by decide +kernel
theorem dX6_post_74 : decode cX6_post 74 = .ok (.istore_n 3, 1) := by decide +kernel
theorem dX6_post_75 : decode cX6_post 75 = .ok (.iload 4, 2) := by decide +kernel
theorem dX6_post_77 : decode cX6_post 77 = .ok (.istore_n 2, 1) := by decide +kernel
theorem dX6_post_78 : decode cX6_post 78 = .ok (.iinc 4 1, 3) := by decide +kernel
theorem dX6_post_81 : decode cX6_post 81 = .ok (.goto (-51), 3) := by decide +kernel
theorem dX6_post_84 : decode cX6_post 84 = .ok (.iload_n 1, 1) := by decide +kernel
theorem dX6_post_85 : decode cX6_post 85 = .ok (.ifCond .ne 7, 3) := by decide +kernel
theorem dX6_post_88 : decode cX6_post 88 = .ok (.iload_n 2, 1) := by decide +kernel
theorem dX6_post_89 : decode cX6_post 89 = .ok (.goto 4, 3) := by decide +kernel
theorem dX6_post_92 : decode cX6_post 92 = .ok (.iload_n 3, 1) := by decide +kernel
theorem dX6_post_93 : decode cX6_post 93 = .ok (.ireturn, 1) := by decide +kernel
theorem dX6_late_0 : decode cX6_late 0 = .ok (.aload_n 0, 1) := by decide +kernel
theorem dX6_late_1 : decode cX6_late 1 = .ok (.iload_n 1, 1) := by decide +kernel
theorem dX6_late_2 : decode cX6_late 2 = .ok (.invokevirtual 105, 3) := by decide +kernel
theorem dX6_late_5 : decode cX6_late 5 = .ok (.ifCond .ne 5, 3) := by decide +kernel
theorem dX6_late_8 : decode cX6_late 8 = .ok (.iconst (-1), 1) := by decide +kernel
theorem dX6_late_9 : decode cX6_late 9 = .ok (.ireturn, 1) := by decide +kernel
theorem dX6_late_10 : decode cX6_late 10 = .ok (.aload_n 0, 1) := by decide +kernel
theorem dX6_late_11 : decode cX6_late 11 = .ok (.aload_n 0, 1) := by decide +kernel
theorem dX6_late_12 : decode cX6_late 12 = .ok (.getfield 10, 3) := by decide +kernel
theorem dX6_late_15 : decode cX6_late 15 = .ok (.invokevirtual 132, 3) := by decide +kernel
theorem dX6_late_18 : decode cX6_late 18 = .ok (.aload_n 0, 1) := by decide +kernel
theorem dX6_late_19 : decode cX6_late 19 = .ok (.getfield 42, 3) := by decide +kernel
theorem dX6_late_22 : decode cX6_late 22 = .ok (.getfield 138, 3) := by decide +kernel
theorem dX6_late_25 : decode cX6_late 25 = .ok (.iload_n 1, 1) := by decide +kernel
theorem dX6_late_26 : decode cX6_late 26 = .ok (.iaload, 1) := by decide +kernel
theorem dX6_late_27 : decode cX6_late 27 = .ok (.istore_n 2, 1) := by decide +kernel
theorem dX6_late_28 : decode cX6_late 28 = .ok (.bipush 60, 2) := by decide +kernel
theorem dX6_late_30 : decode cX6_late 30 = .ok (.aload_n 0, 1) := by decide +kernel
theorem dX6_late_31 : decode cX6_late 31 = .ok (.getfield 42, 3) := by decide +kernel
theorem dX6_late_34 : decode cX6_late 34 = .ok (.getfield 141, 3) := by decide +kernel
theorem dX6_late_37 : decode cX6_late 37 = .ok (.iload_n 1, 1) := by decide +kernel
theorem dX6_late_38 : decode cX6_late 38 = .ok (.iaload, 1) := by decide +kernel
theorem dX6_late_39 : decode cX6_late 39 = .ok (.invokestatic 202, 3) := by decide +kernel
theorem dX6_late_42 : decode cX6_late 42 = .ok (.istore_n 3, 1) := by decide +kernel
theorem dX6_late_43 : decode cX6_late 43 = .ok (.aload_n 0, 1) := by decide +kernel
theorem dX6_late_44 : decode cX6_late 44 = .ok (.getfield 10, 3) := by decide +kernel
theorem dX6_late_47 : decode cX6_late 47 = .ok (.iload_n 1, 1) := by decide +kernel
theorem dX6_late_48 : decode cX6_late 48 = .ok (.iconst 2, 1) := by decide +kernel
theorem dX6_late_49 : decode cX6_late 49 = .ok (.invokevirtual 112, 3) := by decide +kernel
theorem dX6_late_52 : decode cX6_late 52 = .ok (.istore 4, 2) := by decide +kernel
theorem dX6_late_54 : decode cX6_late 54 = .ok (.aload_n 0, 1) := by decide +kernel
theorem dX6_late_55 : decode cX6_late 55 = .ok (.getfield 16, 3) := by decide +kernel
theorem dX6_late_58 : decode cX6_late 58 = .ok (.aload_n 0, 1) := by decide +kernel
theorem dX6_late_59 : decode cX6_late 59 = .ok (.getfield 10, 3) := by decide +kernel
theorem dX6_late_62 : decode cX6_late 62 = .ok (.invokevirtual 86, 3) := by decide +kernel
theorem dX6_late_65 : decode cX6_late 65 = .ok (.iload_n 3, 1) := by decide +kernel
theorem dX6_late_66 : decode cX6_late 66 = .ok (.istore 5, 2) := by decide +kernel
theorem dX6_late_68 : decode cX6_late 68 = .ok (.iload 5, 2) := by decide +kernel
theorem dX6_late_70 : decode cX6_late 70 = .ok (.ifCond .le 47, 3) := by decide +kernel
theorem dX6_late_73 : decode cX6_late 73 = .ok (.aload_n 0, 1) := by decide +kernel
theorem dX6_late_74 : decode cX6_late 74 = .ok (.getfield 16, 3) := by decide +kernel
theorem dX6_late_77 : decode cX6_late 77 = .ok (.iload_n 1, 1) := by decide +kernel
theorem dX6_late_78 : decode cX6_late 78 = .ok (.iconst 2, 1) := by decide +kernel
theorem dX6_late_79 : decode cX6_late 79 = .ok (.iload 4, 2) := by decide +kernel
theorem dX6_late_81 : decode cX6_late 81 = .ok (.iload 5, 2) := by decide +kernel
theorem dX6_late_83 : decode cX6_late 83 = .ok (.iadd, 1) := by decide +kernel
theorem dX6_late_84 : decode cX6_late 84 = .ok (.invokevirtual 125, 3) := by decide +kernel
theorem dX6_late_87 : decode cX6_late 87 = .ok (.aload_n 0, 1) := by decide +kernel
theorem dX6_late_88 : decode cX6_late 88 = .ok (.aload_n 0, 1) := by decide +kernel
theorem dX6_late_89 : decode cX6_late 89 = .ok (.getfield 16, 3) := by decide +kernel
theorem dX6_late_92 : decode cX6_late 92 = .ok (.invokevirtual 132, 3) := by decide +kernel
theorem dX6_late_95 : decode cX6_late 95 = .ok (.aload_n 0, 1) := by decide +kernel
theorem dX6_late_96 : decode cX6_late 96 = .ok (.getfield 42, 3) := by decide +kernel
theorem dX6_late_99 : decode cX6_late 99 = .ok (.getfield 138, 3) := by decide +kernel
theorem dX6_late_102 : decode cX6_late 102 = .ok (.iload_n 1, 1) := by decide +kernel
theorem dX6_late_103 : decode cX6_late 103 = .ok (.iaload, 1) := by decide +kernel
theorem dX6_late_104 : decode cX6_late 104 = .ok (.iload_n 2, 1) := by decide +kernel
theorem dX6_late_105 : decode cX6_late 105 = .ok (.if_icmp .gt 6, 3) := by decide +kernel
theorem dX6_late_108 : decode cX6_late 108 = .ok (.iload 5, 2) := by decide +kernel
theorem dX6_late_110 : decode cX6_late 110 = .ok (.ireturn, 1) := by decide +kernel
theorem dX6_late_111 : decode cX6_late 111 = .ok (.iinc 5 (-1), 3) := by decide +kernel
theorem dX6_late_114 : decode cX6_late 114 = .ok (.goto (-46), 3) := by decide +kernel
theorem dX6_late_117 : decode cX6_late 117 = .ok (.iconst 0, 1) := by decide +kernel
theorem dX6_late_118 : decode cX6_late 118 = .ok (.ireturn, 1) := by decide +kernel
theorem dX6_deal_0 : decode cX6_deal 0 = .ok (.aload_n 0, 1) := by decide +kernel
theorem dX6_deal_1 : decode cX6_deal 1 = .ok (.iload_n 1, 1) := by decide +kernel
theorem dX6_deal_2 : decode cX6_deal 2 = .ok (.iload_n 2, 1) := by decide +kernel
theorem dX6_deal_3 : decode cX6_deal 3 = .ok (.invokevirtual 197, 3) := by decide +kernel
theorem dX6_deal_6 : decode cX6_deal 6 = .ok (.ifCond .eq 12, 3) := by decide +kernel
theorem dX6_deal_9 : decode cX6_deal 9 = .ok (.iload_n 3, 1) := by decide +kernel
theorem dX6_deal_10 : decode cX6_deal 10 = .ok (.iconst 0, 1) := by decide +kernel
theorem dX6_deal_11 : decode cX6_deal 11 = .ok (.iconst 2, 1) := by decide +kernel
theorem dX6_deal_12 : decode cX6_deal 12 = .ok (.invokestatic 67, 3) := by decide +kernel
theorem dX6_deal_15 : decode cX6_deal 15 = .ok (.ifCond .ne 5, 3) := by decide +kernel
theorem dX6_deal_18 : decode cX6_deal 18 = .ok (.iconst (-1), 1) := by decide +kernel
theorem dX6_deal_19 : decode cX6_deal 19 = .ok (.ireturn, 1) := by decide +kernel
theorem dX6_deal_20 : decode cX6_deal 20 = .ok (.iload_n 3, 1) := by decide +kernel
theorem dX6_deal_21 : decode cX6_deal 21 = .ok (.ifCond .ne 7, 3) := by decide +kernel
theorem dX6_deal_24 : decode cX6_deal 24 = .ok (.iload_n 1, 1) := by decide +kernel
theorem dX6_deal_25 : decode cX6_deal 25 = .ok (.goto 4, 3) := by decide +kernel
theorem dX6_deal_28 : decode cX6_deal 28 = .ok (.iload_n 2, 1) := by decide +kernel
theorem dX6_deal_29 : decode cX6_deal 29 = .ok (.istore 4, 2) := by decide +kernel
theorem dX6_deal_31 : decode cX6_deal 31 = .ok (.aload_n 0, 1) := by decide +kernel
theorem dX6_deal_32 : decode cX6_deal 32 = .ok (.aload_n 0, 1) := by decide +kernel
theorem dX6_deal_33 : decode cX6_deal 33 = .ok (.getfield 10, 3) := by decide +kernel
theorem dX6_deal_36 : decode cX6_deal 36 = .ok (.invokevirtual 132, 3) := by decide +kernel
theorem dX6_deal_39 : decode cX6_deal 39 = .ok (.iload_n 3, 1) := by decide +kernel
theorem dX6_deal_40 : decode cX6_deal 40 = .ok (.iconst 2, 1) := by decide +kernel
theorem dX6_deal_41 : decode cX6_deal 41 = .ok (.if_icmp .ne 13, 3) := by decide +kernel
theorem dX6_deal_44 : decode cX6_deal 44 = .ok (.aload_n 0, 1) := by decide +kernel
theorem dX6_deal_45 : decode cX6_deal 45 = .ok (.getfield 42, 3) := by decide +kernel
theorem dX6_deal_48 : decode cX6_deal 48 = .ok (.getfield 201, 3) := by decide +kernel
theorem dX6_deal_51 : decode cX6_deal 51 = .ok (.goto 16, 3) := by decide +kernel
theorem dX6_deal_54 : decode cX6_deal 54 = .ok (.aload_n 0, 1) := by decide +kernel
theorem dX6_deal_55 : decode cX6_deal 55 = .ok (.getfield 42, 3) := by decide +kernel
theorem dX6_deal_58 : decode cX6_deal 58 = .ok (.aload_n 0, 1) := by decide +kernel
theorem dX6_deal_59 : decode cX6_deal 59 = .ok (.getfield 10, 3) := by decide +kernel
theorem dX6_deal_62 : decode cX6_deal 62 = .ok (.iload 4, 2) := by decide +kernel
theorem dX6_deal_64 : decode cX6_deal 64 = .ok (.invokevirtual 207, 3) := by decide +kernel
theorem dX6_deal_67 : decode cX6_deal 67 = .ok (.istore 5, 2) := by decide +kernel
theorem dX6_deal_69 : decode cX6_deal 69 = .ok (.iconst 0, 1) := by decide +kernel
theorem dX6_deal_70 : decode cX6_deal 70 = .ok (.istore 6, 2) := by decide +kernel
theorem dX6_deal_72 : decode cX6_deal 72 = .ok (.iload 6, 2) := by decide +kernel
theorem dX6_deal_74 : decode cX6_deal 74 = .ok (.aload_n 0, 1) := by decide +kernel
theorem dX6_deal_75 : decode cX6_deal 75 = .ok (.getfield 10, 3) := by decide +kernel
theorem dX6_deal_78 : decode cX6_deal 78 = .ok (.getfield 96, 3) := by decide +kernel
theorem dX6_deal_81 : decode cX6_deal 81 = .ok (.if_icmp .ge 50, 3) := by decide +kernel
theorem dX6_deal_84 : decode cX6_deal 84 = .ok (.aload_n 0, 1) := by decide +kernel
theorem dX6_deal_85 : decode cX6_deal 85 = .ok (.getfield 42, 3) := by decide +kernel
theorem dX6_deal_88 : decode cX6_deal 88 = .ok (.getfield 135, 3) := by decide +kernel
theorem dX6_deal_91 : decode cX6_deal 91 = .ok (.iload 6, 2) := by decide +kernel
theorem dX6_deal_93 : decode cX6_deal 93 = .ok (.iaload, 1) := by decide +kernel
theorem dX6_deal_94 : decode cX6_deal 94 = .ok (.istore 7, 2) := by decide +kernel
theorem dX6_deal_96 : decode cX6_deal 96 = .ok (.aload_n 0, 1) := by decide +kernel
theorem dX6_deal_97 : decode cX6_deal 97 = .ok (.getfield 53, 3) := by decide +kernel
theorem dX6_deal_100 : decode cX6_deal 100 = .ok (.iload 6, 2) := by decide +kernel
theorem dX6_deal_102 : decode cX6_deal 102 = .ok (.iload 7, 2) := by decide +kernel
theorem dX6_deal_104 : decode cX6_deal 104 = .ok (.iload_n 1, 1) := by decide +kernel
theorem dX6_deal_105 : decode cX6_deal 105 = .ok (.if_icmp .ne 7, 3) := by decide +kernel
theorem dX6_deal_108 : decode cX6_deal 108 = .ok (.iload_n 2, 1) := by decide +kernel
theorem dX6_deal_109 : decode cX6_deal 109 = .ok (.goto 15, 3) := by decide +kernel
theorem dX6_deal_112 : decode cX6_deal 112 = .ok (.iload 7, 2) := by decide +kernel
theorem dX6_deal_114 : decode cX6_deal 114 = .ok (.iload_n 2, 1) := by decide +kernel
theorem dX6_deal_115 : decode cX6_deal 115 = .ok (.if_icmp .ne 7, 3) := by decide +kernel
theorem dX6_deal_118 : decode cX6_deal 118 = .ok (.iload_n 1, 1) := by decide +kernel
theorem dX6_deal_119 : decode cX6_deal 119 = .ok (.goto 5, 3) := by decide +kernel
theorem dX6_deal_122 : decode cX6_deal 122 = .ok (.iload 7, 2) := by decide +kernel
theorem dX6_deal_124 : decode cX6_deal 124 = .ok (.iastore, 1) := by decide +kernel
theorem dX6_deal_125 : decode cX6_deal 125 = .ok (.iinc 6 1, 3) := by decide +kernel
theorem dX6_deal_128 : decode cX6_deal 128 = .ok (.goto (-56), 3) := by decide +kernel
theorem dX6_deal_131 : decode cX6_deal 131 = .ok (.aload_n 0, 1) := by decide +kernel
theorem dX6_deal_132 : decode cX6_deal 132 = .ok (.getfield 42, 3) := by decide +kernel
theorem dX6_deal_135 : decode cX6_deal 135 = .ok (.aload_n 0, 1) := by decide +kernel
theorem dX6_deal_136 : decode cX6_deal 136 = .ok (.getfield 10, 3) := by decide +kernel
theorem dX6_deal_139 : decode cX6_deal 139 = .ok (.aload_n 0, 1) := by decide +kernel
theorem dX6_deal_140 : decode cX6_deal 140 = .ok (.getfield 53, 3) := by decide +kernel
theorem dX6_deal_143 : decode cX6_deal 143 = .ok (.invokevirtual 211, 3) := by decide +kernel
theorem dX6_deal_146 : decode cX6_deal 146 = .ok (.iload_n 3, 1) := by decide +kernel
theorem dX6_deal_147 : decode cX6_deal 147 = .ok (.iconst 2, 1) := by decide +kernel
theorem dX6_deal_148 : decode cX6_deal 148 = .ok (.if_icmp .ne 13, 3) := by decide +kernel
theorem dX6_deal_151 : decode cX6_deal 151 = .ok (.aload_n 0, 1) := by decide +kernel
theorem dX6_deal_152 : decode cX6_deal 152 = .ok (.getfield 42, 3) := by decide +kernel
theorem dX6_deal_155 : decode cX6_deal 155 = .ok (.getfield 201, 3) := by decide +kernel
theorem dX6_deal_158 : decode cX6_deal 158 = .ok (.goto 16, 3) := by decide +kernel
theorem dX6_deal_161 : decode cX6_deal 161 = .ok (.aload_n 0, 1) := by decide +kernel
theorem dX6_deal_162 : decode cX6_deal 162 = .ok (.getfield 42, 3) := by decide +kernel
theorem dX6_deal_165 : decode cX6_deal 165 = .ok (.aload_n 0, 1) := by decide +kernel
theorem dX6_deal_166 : decode cX6_deal 166 = .ok (.getfield 10, 3) := by decide +kernel
theorem dX6_deal_169 : decode cX6_deal 169 = .ok (.iload 4, 2) := by decide +kernel
theorem dX6_deal_171 : decode cX6_deal 171 = .ok (.invokevirtual 207, 3) := by decide +kernel
theorem dX6_deal_174 : decode cX6_deal 174 = .ok (.istore 6, 2) := by decide +kernel
theorem dX6_deal_176 : decode cX6_deal 176 = .ok (.sipush 10000, 3) := by decide +kernel
theorem dX6_deal_179 : decode cX6_deal 179 = .ok (.iload 5, 2) := by decide +kernel
theorem dX6_deal_181 : decode cX6_deal 181 = .ok (.iadd, 1) := by decide +kernel
theorem dX6_deal_182 : decode cX6_deal 182 = .ok (.iload 6, 2) := by decide +kernel
theorem dX6_deal_184 : decode cX6_deal 184 = .ok (.isub, 1) := by decide +kernel
theorem dX6_deal_185 : decode cX6_deal 185 = .ok (.ireturn, 1) := by decide +kernel
theorem dX6_mean_0 : decode cX6_mean 0 = .ok (.iload_n 1, 1) := by decide +kernel
theorem dX6_mean_1 : decode cX6_mean 1 = .ok (.iconst 0, 1) := by decide +kernel
theorem dX6_mean_2 : decode cX6_mean 2 = .ok (.bipush 10, 2) := by decide +kernel
theorem dX6_mean_4 : decode cX6_mean 4 = .ok (.invokestatic 67, 3) := by decide +kernel
theorem dX6_mean_7 : decode cX6_mean 7 = .ok (.ifCond .eq 20, 3) := by decide +kernel
theorem dX6_mean_10 : decode cX6_mean 10 = .ok (.aload_n 0, 1) := by decide +kernel
theorem dX6_mean_11 : decode cX6_mean 11 = .ok (.iload_n 2, 1) := by decide +kernel
theorem dX6_mean_12 : decode cX6_mean 12 = .ok (.invokevirtual 105, 3) := by decide +kernel
theorem dX6_mean_15 : decode cX6_mean 15 = .ok (.ifCond .eq 12, 3) := by decide +kernel
theorem dX6_mean_18 : decode cX6_mean 18 = .ok (.iload_n 3, 1) := by decide +kernel
theorem dX6_mean_19 : decode cX6_mean 19 = .ok (.iconst 0, 1) := by decide +kernel
theorem dX6_mean_20 : decode cX6_mean 20 = .ok (.iconst 1, 1) := by decide +kernel
theorem dX6_mean_21 : decode cX6_mean 21 = .ok (.invokestatic 67, 3) := by decide +kernel
theorem dX6_mean_24 : decode cX6_mean 24 = .ok (.ifCond .ne 7, 3) := by decide +kernel
theorem dX6_mean_27 : decode cX6_mean 27 = .ok (.ldc2_w 215, 3) := by decide +kernel
theorem dX6_mean_30 : decode cX6_mean 30 = .ok (.lreturn, 1) := by decide +kernel
theorem dX6_mean_31 : decode cX6_mean 31 = .ok (.lconst 0, 1) := by decide +kernel
theorem dX6_mean_32 : decode cX6_mean 32 = .ok (.lstore 4, 2) := by decide +kernel
theorem dX6_mean_34 : decode cX6_mean 34 = .ok (.iconst 0, 1) := by decide +kernel
theorem dX6_mean_35 : decode cX6_mean 35 = .ok (.istore 6, 2) := by decide +kernel
theorem dX6_mean_37 : decode cX6_mean 37 = .ok (.iload 6, 2) := by decide +kernel
theorem dX6_mean_39 : decode cX6_mean 39 = .ok (.aload_n 0, 1) := by decide +kernel
theorem dX6_mean_40 : decode cX6_mean 40 = .ok (.getfield 10, 3) := by decide +kernel
theorem dX6_mean_43 : decode cX6_mean 43 = .ok (.getfield 99, 3) := by decide +kernel
theorem dX6_mean_46 : decode cX6_mean 46 = .ok (.if_icmp .gt 72, 3) := by decide +kernel
theorem dX6_mean_49 : decode cX6_mean 49 = .ok (.aload_n 0, 1) := by decide +kernel
theorem dX6_mean_50 : decode cX6_mean 50 = .ok (.iload_n 1, 1) := by decide +kernel
theorem dX6_mean_51 : decode cX6_mean 51 = .ok (.iload 6, 2) := by decide +kernel
theorem dX6_mean_53 : decode cX6_mean 53 = .ok (.invokevirtual 217, 3) := by decide +kernel
theorem dX6_mean_56 : decode cX6_mean 56 = .ok (.lstore 7, 2) := by decide +kernel
theorem dX6_mean_58 : decode cX6_mean 58 = .ok (.lload 7, 2) := by decide +kernel
theorem dX6_mean_60 : decode cX6_mean 60 = .ok (.lconst 0, 1) := by decide +kernel
theorem dX6_mean_61 : decode cX6_mean 61 = .ok (.lcmp, 1) := by decide +kernel
theorem dX6_mean_62 : decode cX6_mean 62 = .ok (.ifCond .le 50, 3) := by decide +kernel
theorem dX6_mean_65 : decode cX6_mean 65 = .ok (.aload_n 0, 1) := by decide +kernel
theorem dX6_mean_66 : decode cX6_mean 66 = .ok (.getfield 42, 3) := by decide +kernel
theorem dX6_mean_69 : decode cX6_mean 69 = .ok (.aload_n 0, 1) := by decide +kernel
theorem dX6_mean_70 : decode cX6_mean 70 = .ok (.getfield 10, 3) := by decide +kernel
theorem dX6_mean_73 : decode cX6_mean 73 = .ok (.aload_n 0, 1) := by decide +kernel
theorem dX6_mean_74 : decode cX6_mean 74 = .ok (.getfield 10, 3) := by decide +kernel
theorem dX6_mean_77 : decode cX6_mean 77 = .ok (.getfield 102, 3) := by decide +kernel
theorem dX6_mean_80 : decode cX6_mean 80 = .ok (.iconst 3, 1) := by decide +kernel
theorem dX6_mean_81 : decode cX6_mean 81 = .ok (.iaload, 1) := by decide +kernel
theorem dX6_mean_82 : decode cX6_mean 82 = .ok (.aload_n 0, 1) := by decide +kernel
theorem dX6_mean_83 : decode cX6_mean 83 = .ok (.getfield 10, 3) := by decide +kernel
theorem dX6_mean_86 : decode cX6_mean 86 = .ok (.getfield 99, 3) := by decide +kernel
theorem dX6_mean_89 : decode cX6_mean 89 = .ok (.iload 6, 2) := by decide +kernel
theorem dX6_mean_91 : decode cX6_mean 91 = .ok (.invokevirtual 153, 3) := by decide +kernel
theorem dX6_mean_94 : decode cX6_mean 94 = .ok (.lload 4, 2) := by decide +kernel
theorem dX6_mean_96 : decode cX6_mean 96 = .ok (.lload 7, 2) := by decide +kernel
theorem dX6_mean_98 : decode cX6_mean 98 = .ok (.aload_n 0, 1) := by decide +kernel
theorem dX6_mean_99 : decode cX6_mean 99 = .ok (.getfield 42, 3) := by decide +kernel
theorem dX6_mean_102 : decode cX6_mean 102 = .ok (.getfield 141, 3) := by decide +kernel
theorem dX6_mean_105 : decode cX6_mean 105 = .ok (.iload_n 2, 1) := by decide +kernel
theorem dX6_mean_106 : decode cX6_mean 106 = .ok (.iaload, 1) := by decide +kernel
theorem dX6_mean_107 : decode cX6_mean 107 = .ok (.i2l, 1) := by decide +kernel
theorem dX6_mean_108 : decode cX6_mean 108 = .ok (.lmul, 1) := by decide +kernel
theorem dX6_mean_109 : decode cX6_mean 109 = .ok (.ladd, 1) := by decide +kernel
theorem dX6_mean_110 : decode cX6_mean 110 = .ok (.lstore 4, 2) := by decide +kernel
theorem dX6_mean_112 : decode cX6_mean 112 = .ok (.iinc 6 1, 3) := by decide +kernel
theorem dX6_mean_115 : decode cX6_mean 115 = .ok (.goto (-78), 3) := by decide +kernel
theorem dX6_mean_118 : decode cX6_mean 118 = .ok (.lload 4, 2) := by decide +kernel
theorem dX6_mean_120 : decode cX6_mean 120 = .ok (.aload_n 0, 1) := by decide +kernel
theorem dX6_mean_121 : decode cX6_mean 121 = .ok (.invokevirtual 221, 3) := by decide +kernel
theorem dX6_mean_124 : decode cX6_mean 124 = .ok (.iload_n 3, 1) := by decide +kernel
theorem dX6_mean_125 : decode cX6_mean 125 = .ok (.invokestatic 225, 3) := by decide +kernel
theorem dX6_mean_128 : decode cX6_mean 128 = .ok (.lreturn, 1) := by decide +kernel
theorem dX6_luck_0 : decode cX6_luck 0 = .ok (.iload_n 1, 1) := by decide +kernel
theorem dX6_luck_1 : decode cX6_luck 1 = .ok (.iconst 0, 1) := by decide +kernel
theorem dX6_luck_2 : decode cX6_luck 2 = .ok (.bipush 10, 2) := by decide +kernel
theorem dX6_luck_4 : decode cX6_luck 4 = .ok (.invokestatic 67, 3) := by decide +kernel
theorem dX6_luck_7 : decode cX6_luck 7 = .ok (.ifCond .eq 29, 3) := by decide +kernel
theorem dX6_luck_10 : decode cX6_luck 10 = .ok (.aload_n 0, 1) := by decide +kernel
theorem dX6_luck_11 : decode cX6_luck 11 = .ok (.iload_n 2, 1) := by decide +kernel
theorem dX6_luck_12 : decode cX6_luck 12 = .ok (.invokevirtual 105, 3) := by decide +kernel
theorem dX6_luck_15 : decode cX6_luck 15 = .ok (.ifCond .eq 21, 3) := by decide +kernel
theorem dX6_luck_18 : decode cX6_luck 18 = .ok (.aload_n 0, 1) := by decide +kernel
theorem dX6_luck_19 : decode cX6_luck 19 = .ok (.iload_n 3, 1) := by decide +kernel
theorem dX6_luck_20 : decode cX6_luck 20 = .ok (.invokevirtual 105, 3) := by decide +kernel
theorem dX6_luck_23 : decode cX6_luck 23 = .ok (.ifCond .eq 13, 3) := by decide +kernel
theorem dX6_luck_26 : decode cX6_luck 26 = .ok (.iload 4, 2) := by decide +kernel
theorem dX6_luck_28 : decode cX6_luck 28 = .ok (.iconst 0, 1) := by decide +kernel
theorem dX6_luck_29 : decode cX6_luck 29 = .ok (.iconst 1, 1) := by decide +kernel
theorem dX6_luck_30 : decode cX6_luck 30 = .ok (.invokestatic 67, 3) := by decide +kernel
theorem dX6_luck_33 : decode cX6_luck 33 = .ok (.ifCond .ne 7, 3) := by decide +kernel
theorem dX6_luck_36 : decode cX6_luck 36 = .ok (.ldc2_w 215, 3) := by decide +kernel
theorem dX6_luck_39 : decode cX6_luck 39 = .ok (.lreturn, 1) := by decide +kernel
theorem dX6_luck_40 : decode cX6_luck 40 = .ok (.lconst 0, 1) := by decide +kernel
theorem dX6_luck_41 : decode cX6_luck 41 = .ok (.lstore 5, 2) := by decide +kernel
theorem dX6_luck_43 : decode cX6_luck 43 = .ok (.iconst 0, 1) := by decide +kernel
theorem dX6_luck_44 : decode cX6_luck 44 = .ok (.istore 7, 2) := by decide +kernel
theorem dX6_luck_46 : decode cX6_luck 46 = .ok (.iload 7, 2) := by decide +kernel
theorem dX6_luck_48 : decode cX6_luck 48 = .ok (.aload_n 0, 1) := by decide +kernel
theorem dX6_luck_49 : decode cX6_luck 49 = .ok (.getfield 10, 3) := by decide +kernel
theorem dX6_luck_52 : decode cX6_luck 52 = .ok (.getfield 99, 3) := by decide +kernel
theorem dX6_luck_55 : decode cX6_luck 55 = .ok (.if_icmp .gt 78, 3) := by decide +kernel
theorem dX6_luck_58 : decode cX6_luck 58 = .ok (.aload_n 0, 1) := by decide +kernel
theorem dX6_luck_59 : decode cX6_luck 59 = .ok (.iload_n 1, 1) := by decide +kernel
theorem dX6_luck_60 : decode cX6_luck 60 = .ok (.iload 7, 2) := by decide +kernel
theorem dX6_luck_62 : decode cX6_luck 62 = .ok (.invokevirtual 217, 3) := by decide +kernel
theorem dX6_luck_65 : decode cX6_luck 65 = .ok (.lstore 8, 2) := by decide +kernel
theorem dX6_luck_67 : decode cX6_luck 67 = .ok (.lload 8, 2) := by decide +kernel
theorem dX6_luck_69 : decode cX6_luck 69 = .ok (.lconst 0, 1) := by decide +kernel
theorem dX6_luck_70 : decode cX6_luck 70 = .ok (.lcmp, 1) := by decide +kernel
theorem dX6_luck_71 : decode cX6_luck 71 = .ok (.ifCond .le 56, 3) := by decide +kernel
theorem dX6_luck_74 : decode cX6_luck 74 = .ok (.aload_n 0, 1) := by decide +kernel
theorem dX6_luck_75 : decode cX6_luck 75 = .ok (.getfield 42, 3) := by decide +kernel
theorem dX6_luck_78 : decode cX6_luck 78 = .ok (.aload_n 0, 1) := by decide +kernel
theorem dX6_luck_79 : decode cX6_luck 79 = .ok (.getfield 10, 3) := by decide +kernel
theorem dX6_luck_82 : decode cX6_luck 82 = .ok (.aload_n 0, 1) := by decide +kernel
theorem dX6_luck_83 : decode cX6_luck 83 = .ok (.getfield 10, 3) := by decide +kernel
theorem dX6_luck_86 : decode cX6_luck 86 = .ok (.getfield 102, 3) := by decide +kernel
theorem dX6_luck_89 : decode cX6_luck 89 = .ok (.iconst 3, 1) := by decide +kernel
theorem dX6_luck_90 : decode cX6_luck 90 = .ok (.iaload, 1) := by decide +kernel
theorem dX6_luck_91 : decode cX6_luck 91 = .ok (.aload_n 0, 1) := by decide +kernel
theorem dX6_luck_92 : decode cX6_luck 92 = .ok (.getfield 10, 3) := by decide +kernel
theorem dX6_luck_95 : decode cX6_luck 95 = .ok (.getfield 99, 3) := by decide +kernel
theorem dX6_luck_98 : decode cX6_luck 98 = .ok (.iload 7, 2) := by decide +kernel
theorem dX6_luck_100 : decode cX6_luck 100 = .ok (.invokevirtual 153, 3) := by decide +kernel
theorem dX6_luck_103 : decode cX6_luck 103 = .ok (.lload 5, 2) := by decide +kernel
theorem dX6_luck_105 : decode cX6_luck 105 = .ok (.aload_n 0, 1) := by decide +kernel
theorem dX6_luck_106 : decode cX6_luck 106 = .ok (.getfield 42, 3) := by decide +kernel
theorem dX6_luck_109 : decode cX6_luck 109 = .ok (.getfield 135, 3) := by decide +kernel
theorem dX6_luck_112 : decode cX6_luck 112 = .ok (.iload_n 3, 1) := by decide +kernel
theorem dX6_luck_113 : decode cX6_luck 113 = .ok (.iaload, 1) := by decide +kernel
theorem dX6_luck_114 : decode cX6_luck 114 = .ok (.iload_n 2, 1) := by decide +kernel
theorem dX6_luck_115 : decode cX6_luck 115 = .ok (.if_icmp .ne 8, 3) := by decide +kernel
theorem dX6_luck_118 : decode cX6_luck 118 = .ok (.lload 8, 2) := by decide +kernel
theorem dX6_luck_120 : decode cX6_luck 120 = .ok (.goto 4, 3) := by decide +kernel
theorem dX6_luck_123 : decode cX6_luck 123 = .ok (.lconst 0, 1) := by decide +kernel
theorem dX6_luck_124 : decode cX6_luck 124 = .ok (.ladd, 1) := by decide +kernel
theorem dX6_luck_125 : decode cX6_luck 125 = .ok (.lstore 5, 2) := by decide +kernel
theorem dX6_luck_127 : decode cX6_luck 127 = .ok (.iinc 7 1, 3) := by decide +kernel
theorem dX6_luck_130 : decode cX6_luck 130 = .ok (.goto (-84), 3) := by decide +kernel
theorem dX6_luck_133 : decode cX6_luck 133 = .ok (.lload 5, 2) := by decide +kernel
theorem dX6_luck_135 : decode cX6_luck 135 = .ok (.aload_n 0, 1) := by decide +kernel
theorem dX6_luck_136 : decode cX6_luck 136 = .ok (.invokevirtual 221, 3) := by decide +kernel
theorem dX6_luck_139 : decode cX6_luck 139 = .ok (.iload 4, 2) := by decide +kernel
theorem dX6_luck_141 : decode cX6_luck 141 = .ok (.invokestatic 225, 3) := by decide +kernel
theorem dX6_luck_144 : decode cX6_luck 144 = .ok (.lreturn, 1) := by decide +kernel
theorem dX6_weight_0 : decode cX6_weight 0 = .ok (.iload_n 2, 1) := by decide +kernel
theorem dX6_weight_1 : decode cX6_weight 1 = .ok (.aload_n 0, 1) := by decide +kernel
theorem dX6_weight_2 : decode cX6_weight 2 = .ok (.getfield 10, 3) := by decide +kernel
theorem dX6_weight_5 : decode cX6_weight 5 = .ok (.getfield 99, 3) := by decide +kernel
theorem dX6_weight_8 : decode cX6_weight 8 = .ok (.iconst (-1), 1) := by decide +kernel
theorem dX6_weight_9 : decode cX6_weight 9 = .ok (.ixor, 1) := by decide +kernel
theorem dX6_weight_10 : decode cX6_weight 10 = .ok (.iand, 1) := by decide +kernel
theorem dX6_weight_11 : decode cX6_weight 11 = .ok (.ifCond .eq 5, 3) := by decide +kernel
theorem dX6_weight_14 : decode cX6_weight 14 = .ok (.lconst 0, 1) := by decide +kernel
theorem dX6_weight_15 : decode cX6_weight 15 = .ok (.lreturn, 1) := by decide +kernel
theorem dX6_weight_16 : decode cX6_weight 16 = .ok (.lconst 1, 1) := by decide +kernel
theorem dX6_weight_17 : decode cX6_weight 17 = .ok (.lstore_n 3, 1) := by decide +kernel
theorem dX6_weight_18 : decode cX6_weight 18 = .ok (.iconst 0, 1) := by decide +kernel
theorem dX6_weight_19 : decode cX6_weight 19 = .ok (.istore 5, 2) := by decide +kernel
theorem dX6_weight_21 : decode cX6_weight 21 = .ok (.iload 5, 2) := by decide +kernel
theorem dX6_weight_23 : decode cX6_weight 23 = .ok (.aload_n 0, 1) := by decide +kernel
theorem dX6_weight_24 : decode cX6_weight 24 = .ok (.getfield 10, 3) := by decide +kernel
theorem dX6_weight_27 : decode cX6_weight 27 = .ok (.getfield 96, 3) := by decide +kernel
theorem dX6_weight_30 : decode cX6_weight 30 = .ok (.if_icmp .ge 48, 3) := by decide +kernel
theorem dX6_weight_33 : decode cX6_weight 33 = .ok (.aload_n 0, 1) := by decide +kernel
theorem dX6_weight_34 : decode cX6_weight 34 = .ok (.getfield 10, 3) := by decide +kernel
theorem dX6_weight_37 : decode cX6_weight 37 = .ok (.getfield 99, 3) := by decide +kernel
theorem dX6_weight_40 : decode cX6_weight 40 = .ok (.iload 5, 2) := by decide +kernel
theorem dX6_weight_42 : decode cX6_weight 42 = .ok (.ishr, 1) := by decide +kernel
theorem dX6_weight_43 : decode cX6_weight 43 = .ok (.iconst 1, 1) := by decide +kernel
theorem dX6_weight_44 : decode cX6_weight 44 = .ok (.iand, 1) := by decide +kernel
theorem dX6_weight_45 : decode cX6_weight 45 = .ok (.iconst 1, 1) := by decide +kernel
theorem dX6_weight_46 : decode cX6_weight 46 = .ok (.if_icmp .ne 26, 3) := by decide +kernel
theorem dX6_weight_49 : decode cX6_weight 49 = .ok (.lload_n 3, 1) := by decide +kernel
theorem dX6_weight_50 : decode cX6_weight 50 = .ok (.iload_n 2, 1) := by decide +kernel
theorem dX6_weight_51 : decode cX6_weight 51 = .ok (.iload 5, 2) := by decide +kernel
theorem dX6_weight_53 : decode cX6_weight 53 = .ok (.ishr, 1) := by decide +kernel
theorem dX6_weight_54 : decode cX6_weight 54 = .ok (.iconst 1, 1) := by decide +kernel
theorem dX6_weight_55 : decode cX6_weight 55 = .ok (.iand, 1) := by decide +kernel
theorem dX6_weight_56 : decode cX6_weight 56 = .ok (.iconst 1, 1) := by decide +kernel
theorem dX6_weight_57 : decode cX6_weight 57 = .ok (.if_icmp .ne 8, 3) := by decide +kernel
theorem dX6_weight_60 : decode cX6_weight 60 = .ok (.iload_n 1, 1) := by decide +kernel
theorem dX6_weight_61 : decode cX6_weight 61 = .ok (.i2l, 1) := by decide +kernel
theorem dX6_weight_62 : decode cX6_weight 62 = .ok (.goto 8, 3) := by decide +kernel
theorem dX6_weight_65 : decode cX6_weight 65 = .ok (.bipush 10, 2) := by decide +kernel
theorem dX6_weight_67 : decode cX6_weight 67 = .ok (.iload_n 1, 1) := by decide +kernel
theorem dX6_weight_68 : decode cX6_weight 68 = .ok (.isub, 1) := by decide +kernel
theorem dX6_weight_69 : decode cX6_weight 69 = .ok (.i2l, 1) := by decide +kernel
theorem dX6_weight_70 : decode cX6_weight 70 = .ok (.lmul, 1) := by decide +kernel
theorem dX6_weight_71 : decode cX6_weight 71 = .ok (.lstore_n 3, 1) := by decide +kernel
theorem dX6_weight_72 : decode cX6_weight 72 = .ok (.iinc 5 1, 3) := by decide +kernel
theorem dX6_weight_75 : decode cX6_weight 75 = .ok (.goto (-54), 3) := by decide +kernel
theorem dX6_weight_78 : decode cX6_weight 78 = .ok (.lload_n 3, 1) := by decide +kernel
theorem dX6_weight_79 : decode cX6_weight 79 = .ok (.lreturn, 1) := by decide +kernel
theorem dX6_weightOfAll_0 : decode cX6_weightOfAll 0 = .ok (.lconst 1, 1) := by decide +kernel
theorem dX6_weightOfAll_1 : decode cX6_weightOfAll 1 = .ok (.lstore_n 1, 1) := by decide +kernel
theorem dX6_weightOfAll_2 : decode cX6_weightOfAll 2 = .ok (.iconst 0, 1) := by decide +kernel
theorem dX6_weightOfAll_3 : decode cX6_weightOfAll 3 = .ok (.istore_n 3, 1) := by decide +kernel
theorem dX6_weightOfAll_4 : decode cX6_weightOfAll 4 = .ok (.iload_n 3, 1) := by decide +kernel
theorem dX6_weightOfAll_5 : decode cX6_weightOfAll 5 = .ok (.aload_n 0, 1) := by decide +kernel
theorem dX6_weightOfAll_6 : decode cX6_weightOfAll 6 = .ok (.getfield 10, 3) := by decide +kernel
theorem dX6_weightOfAll_9 : decode cX6_weightOfAll 9 = .ok (.getfield 96, 3) := by decide +kernel
theorem dX6_weightOfAll_12 : decode cX6_weightOfAll 12 = .ok (.if_icmp .ge 34, 3) := by decide +kernel
theorem dX6_weightOfAll_15 : decode cX6_weightOfAll 15 = .ok (.lload_n 1, 1) := by decide +kernel
theorem dX6_weightOfAll_16 : decode cX6_weightOfAll 16 = .ok (.aload_n 0, 1) := by decide +kernel
theorem dX6_weightOfAll_17 : decode cX6_weightOfAll 17 = .ok (.getfield 10, 3) := by decide +kernel
theorem dX6_weightOfAll_20 : decode cX6_weightOfAll 20 = .ok (.getfield 99, 3) := by decide +kernel
theorem dX6_weightOfAll_23 : decode cX6_weightOfAll 23 = .ok (.iload_n 3, 1) := by decide +kernel
theorem dX6_weightOfAll_24 : decode cX6_weightOfAll 24 = .ok (.ishr, 1) := by decide +kernel
theorem dX6_weightOfAll_25 : decode cX6_weightOfAll 25 = .ok (.iconst 1, 1) := by decide +kernel
theorem dX6_weightOfAll_26 : decode cX6_weightOfAll 26 = .ok (.iand, 1) := by decide +kernel
theorem dX6_weightOfAll_27 : decode cX6_weightOfAll 27 = .ok (.iconst 1, 1) := by decide +kernel
theorem dX6_weightOfAll_28 : decode cX6_weightOfAll 28 = .ok (.if_icmp .ne 9, 3) := by decide +kernel
theorem dX6_weightOfAll_31 : decode cX6_weightOfAll 31 = .ok (.ldc2_w 229, 3) := by decide +kernel
theorem dX6_weightOfAll_34 : decode cX6_weightOfAll 34 = .ok (.goto 4, 3) := by decide +kernel
theorem dX6_weightOfAll_37 : decode cX6_weightOfAll 37 = .ok (.lconst 1, 1) := by decide +kernel
theorem dX6_weightOfAll_38 : decode cX6_weightOfAll 38 = .ok (.lmul, 1) := by decide +kernel
theorem dX6_weightOfAll_39 : decode cX6_weightOfAll 39 = .ok (.lstore_n 1, 1) := by decide +kernel
theorem dX6_weightOfAll_40 : decode cX6_weightOfAll 40 = .ok (.iinc 3 1, 3) := by decide +kernel
theorem dX6_weightOfAll_43 : decode cX6_weightOfAll 43 = .ok (.goto (-39), 3) := by decide +kernel
theorem dX6_weightOfAll_46 : decode cX6_weightOfAll 46 = .ok (.lload_n 1, 1) := by decide +kernel
theorem dX6_weightOfAll_47 : decode cX6_weightOfAll 47 = .ok (.lreturn, 1) := by decide +kernel
theorem dX6_lowest_0 : decode cX6_lowest 0 = .ok (.lload_n 0, 1) := by decide +kernel
theorem dX6_lowest_1 : decode cX6_lowest 1 = .ok (.lload_n 2, 1) := by decide +kernel
theorem dX6_lowest_2 : decode cX6_lowest 2 = .ok (.invokestatic 231, 3) := by decide +kernel
theorem dX6_lowest_5 : decode cX6_lowest 5 = .ok (.lstore 5, 2) := by decide +kernel
theorem dX6_lowest_7 : decode cX6_lowest 7 = .ok (.lload 5, 2) := by decide +kernel
theorem dX6_lowest_9 : decode cX6_lowest 9 = .ok (.lconst 1, 1) := by decide +kernel
theorem dX6_lowest_10 : decode cX6_lowest 10 = .ok (.lcmp, 1) := by decide +kernel
theorem dX6_lowest_11 : decode cX6_lowest 11 = .ok (.ifCond .ge 5, 3) := by decide +kernel
theorem dX6_lowest_14 : decode cX6_lowest 14 = .ok (.lconst 0, 1) := by decide +kernel
theorem dX6_lowest_15 : decode cX6_lowest 15 = .ok (.lreturn, 1) := by decide +kernel
theorem dX6_lowest_16 : decode cX6_lowest 16 = .ok (.iload 4, 2) := by decide +kernel
theorem dX6_lowest_18 : decode cX6_lowest 18 = .ok (.ifCond .ne 10, 3) := by decide +kernel
theorem dX6_lowest_21 : decode cX6_lowest 21 = .ok (.lload_n 0, 1) := by decide +kernel
theorem dX6_lowest_22 : decode cX6_lowest 22 = .ok (.lload 5, 2) := by decide +kernel
theorem dX6_lowest_24 : decode cX6_lowest 24 = .ok (.ldiv, 1) := by decide +kernel
theorem dX6_lowest_25 : decode cX6_lowest 25 = .ok (.goto 7, 3) := by decide +kernel
theorem dX6_lowest_28 : decode cX6_lowest 28 = .ok (.lload_n 2, 1) := by decide +kernel
theorem dX6_lowest_29 : decode cX6_lowest 29 = .ok (.lload 5, 2) := by decide +kernel
theorem dX6_lowest_31 : decode cX6_lowest 31 = .ok (.ldiv, 1) := by decide +kernel
theorem dX6_lowest_32 : decode cX6_lowest 32 = .ok (.lreturn, 1) := by decide +kernel
theorem dX6_commonDivisor_0 : decode cX6_commonDivisor 0 = .ok (.iconst 0, 1) := by decide +kernel
theorem dX6_commonDivisor_1 : decode cX6_commonDivisor 1 = .ok (.istore 4, 2) := by decide +kernel
theorem dX6_commonDivisor_3 : decode cX6_commonDivisor 3 = .ok (.iload 4, 2) := by decide +kernel
theorem dX6_commonDivisor_5 : decode cX6_commonDivisor 5 = .ok (.sipush 200, 3) := by decide +kernel
theorem dX6_commonDivisor_8 : decode cX6_commonDivisor 8 = .ok (.if_icmp .ge 25, 3) := by decide +kernel
theorem dX6_commonDivisor_11 : decode cX6_commonDivisor 11 = .ok (.lload_n 2, 1) := by decide +kernel
theorem dX6_commonDivisor_12 : decode cX6_commonDivisor 12 = .ok (.lconst 0, 1) := by decide +kernel
theorem dX6_commonDivisor_13 : decode cX6_commonDivisor 13 = .ok (.lcmp, 1) := by decide +kernel
theorem dX6_commonDivisor_14 : decode cX6_commonDivisor 14 = .ok (.ifCond .eq 19, 3) := by decide +kernel
theorem dX6_commonDivisor_17 : decode cX6_commonDivisor 17 = .ok (.lload_n 0, 1) := by decide +kernel
theorem dX6_commonDivisor_18 : decode cX6_commonDivisor 18 = .ok (.lload_n 2, 1) := by decide +kernel
theorem dX6_commonDivisor_19 : decode cX6_commonDivisor 19 = .ok (.lrem, 1) := by decide +kernel
theorem dX6_commonDivisor_20 : decode cX6_commonDivisor 20 = .ok (.lstore 5, 2) := by decide +kernel
theorem dX6_commonDivisor_22 : decode cX6_commonDivisor 22 = .ok (.lload_n 2, 1) := by decide +kernel
theorem dX6_commonDivisor_23 : decode cX6_commonDivisor 23 = .ok (.lstore_n 0, 1) := by decide +kernel
theorem dX6_commonDivisor_24 : decode cX6_commonDivisor 24 = .ok (.lload 5, 2) := by decide +kernel
theorem dX6_commonDivisor_26 : decode cX6_commonDivisor 26 = .ok (.lstore_n 2, 1) := by decide +kernel
theorem dX6_commonDivisor_27 : decode cX6_commonDivisor 27 = .ok (.iinc 4 1, 3) := by decide +kernel
theorem dX6_commonDivisor_30 : decode cX6_commonDivisor 30 = .ok (.goto (-27), 3) := by decide +kernel
theorem dX6_commonDivisor_33 : decode cX6_commonDivisor 33 = .ok (.lload_n 0, 1) := by decide +kernel
theorem dX6_commonDivisor_34 : decode cX6_commonDivisor 34 = .ok (.lreturn, 1) := by decide +kernel
theorem dX6_see_0 : decode cX6_see 0 = .ok (.aload_n 0, 1) := by decide +kernel
theorem dX6_see_1 : decode cX6_see 1 = .ok (.iload_n 1, 1) := by decide +kernel
theorem dX6_see_2 : decode cX6_see 2 = .ok (.invokevirtual 105, 3) := by decide +kernel
theorem dX6_see_5 : decode cX6_see 5 = .ok (.ifCond .eq 11, 3) := by decide +kernel
theorem dX6_see_8 : decode cX6_see 8 = .ok (.aload_n 0, 1) := by decide +kernel
theorem dX6_see_9 : decode cX6_see 9 = .ok (.iload_n 2, 1) := by decide +kernel
theorem dX6_see_10 : decode cX6_see 10 = .ok (.invokevirtual 105, 3) := by decide +kernel
theorem dX6_see_13 : decode cX6_see 13 = .ok (.ifCond .ne 5, 3) := by decide +kernel
theorem dX6_see_16 : decode cX6_see 16 = .ok (.iconst (-1), 1) := by decide +kernel
theorem dX6_see_17 : decode cX6_see 17 = .ok (.ireturn, 1) := by decide +kernel
theorem dX6_see_18 : decode cX6_see 18 = .ok (.aload_n 0, 1) := by decide +kernel
theorem dX6_see_19 : decode cX6_see 19 = .ok (.getfield 10, 3) := by decide +kernel
theorem dX6_see_22 : decode cX6_see 22 = .ok (.iload_n 1, 1) := by decide +kernel
theorem dX6_see_23 : decode cX6_see 23 = .ok (.iload_n 2, 1) := by decide +kernel
theorem dX6_see_24 : decode cX6_see 24 = .ok (.invokevirtual 235, 3) := by decide +kernel
theorem dX6_see_27 : decode cX6_see 27 = .ok (.ifCond .eq 13, 3) := by decide +kernel
theorem dX6_see_30 : decode cX6_see 30 = .ok (.aload_n 0, 1) := by decide +kernel
theorem dX6_see_31 : decode cX6_see 31 = .ok (.getfield 10, 3) := by decide +kernel
theorem dX6_see_34 : decode cX6_see 34 = .ok (.getfield 238, 3) := by decide +kernel
theorem dX6_see_37 : decode cX6_see 37 = .ok (.goto 5, 3) := by decide +kernel
theorem dX6_see_40 : decode cX6_see 40 = .ok (.bipush (-3), 2) := by decide +kernel
theorem dX6_see_42 : decode cX6_see 42 = .ok (.ireturn, 1) := by decide +kernel
theorem dX6_forget_0 : decode cX6_forget 0 = .ok (.iload_n 1, 1) := by decide +kernel
theorem dX6_forget_1 : decode cX6_forget 1 = .ok (.iconst 0, 1) := by decide +kernel
theorem dX6_forget_2 : decode cX6_forget 2 = .ok (.aload_n 0, 1) := by decide +kernel
theorem dX6_forget_3 : decode cX6_forget 3 = .ok (.getfield 10, 3) := by decide +kernel
theorem dX6_forget_6 : decode cX6_forget 6 = .ok (.getfield 238, 3) := by decide +kernel
theorem dX6_forget_9 : decode cX6_forget 9 = .ok (.invokestatic 67, 3) := by decide +kernel
theorem dX6_forget_12 : decode cX6_forget 12 = .ok (.ifCond .ne 5, 3) := by decide +kernel
theorem dX6_forget_15 : decode cX6_forget 15 = .ok (.iconst (-1), 1) := by decide +kernel
theorem dX6_forget_16 : decode cX6_forget 16 = .ok (.ireturn, 1) := by decide +kernel
theorem dX6_forget_17 : decode cX6_forget 17 = .ok (.aload_n 0, 1) := by decide +kernel
theorem dX6_forget_18 : decode cX6_forget 18 = .ok (.getfield 10, 3) := by decide +kernel
theorem dX6_forget_21 : decode cX6_forget 21 = .ok (.getfield 238, 3) := by decide +kernel
theorem dX6_forget_24 : decode cX6_forget 24 = .ok (.istore_n 2, 1) := by decide +kernel
theorem dX6_forget_25 : decode cX6_forget 25 = .ok (.aload_n 0, 1) := by decide +kernel
theorem dX6_forget_26 : decode cX6_forget 26 = .ok (.getfield 10, 3) := by decide +kernel
theorem dX6_forget_29 : decode cX6_forget 29 = .ok (.iload_n 1, 1) := by decide +kernel
theorem dX6_forget_30 : decode cX6_forget 30 = .ok (.putfield 238, 3) := by decide +kernel
theorem dX6_forget_33 : decode cX6_forget 33 = .ok (.iload_n 2, 1) := by decide +kernel
theorem dX6_forget_34 : decode cX6_forget 34 = .ok (.ireturn, 1) := by decide +kernel
theorem dX6_fits_0 : decode cX6_fits 0 = .ok (.iload_n 1, 1) := by decide +kernel
theorem dX6_fits_1 : decode cX6_fits 1 = .ok (.iconst 0, 1) := by decide +kernel
theorem dX6_fits_2 : decode cX6_fits 2 = .ok (.iconst 3, 1) := by decide +kernel
theorem dX6_fits_3 : decode cX6_fits 3 = .ok (.invokestatic 67, 3) := by decide +kernel
theorem dX6_fits_6 : decode cX6_fits 6 = .ok (.ifCond .ne 5, 3) := by decide +kernel
theorem dX6_fits_9 : decode cX6_fits 9 = .ok (.iconst (-1), 1) := by decide +kernel
theorem dX6_fits_10 : decode cX6_fits 10 = .ok (.ireturn, 1) := by decide +kernel
theorem dX6_fits_11 : decode cX6_fits 11 = .ok (.iconst 0, 1) := by decide +kernel
theorem dX6_fits_12 : decode cX6_fits 12 = .ok (.istore_n 2, 1) := by decide +kernel
theorem dX6_fits_13 : decode cX6_fits 13 = .ok (.iconst 0, 1) := by decide +kernel
theorem dX6_fits_14 : decode cX6_fits 14 = .ok (.istore_n 3, 1) := by decide +kernel
theorem dX6_fits_15 : decode cX6_fits 15 = .ok (.aload_n 0, 1) := by decide +kernel
theorem dX6_fits_16 : decode cX6_fits 16 = .ok (.invokevirtual 182, 3) := by decide +kernel
theorem dX6_fits_19 : decode cX6_fits 19 = .ok (.iconst 1, 1) := by decide +kernel
theorem dX6_fits_20 : decode cX6_fits 20 = .ok (.isub, 1) := by decide +kernel
theorem dX6_fits_21 : decode cX6_fits 21 = .ok (.istore 4, 2) := by decide +kernel
theorem dX6_fits_23 : decode cX6_fits 23 = .ok (.aload_n 0, 1) := by decide +kernel
theorem dX6_fits_24 : decode cX6_fits 24 = .ok (.invokevirtual 182, 3) := by decide +kernel
theorem dX6_fits_27 : decode cX6_fits 27 = .ok (.iconst 1, 1) := by decide +kernel
theorem dX6_fits_28 : decode cX6_fits 28 = .ok (.isub, 1) := by decide +kernel
theorem dX6_fits_29 : decode cX6_fits 29 = .ok (.istore 5, 2) := by decide +kernel
theorem dX6_fits_31 : decode cX6_fits 31 = .ok (.iconst 0, 1) := by decide +kernel
theorem dX6_fits_32 : decode cX6_fits 32 = .ok (.istore 6, 2) := by decide +kernel
theorem dX6_fits_34 : decode cX6_fits 34 = .ok (.iload 6, 2) := by decide +kernel
theorem dX6_fits_36 : decode cX6_fits 36 = .ok (.iconst 5, 1) := by decide +kernel
theorem dX6_fits_37 : decode cX6_fits 37 = .ok (.if_icmp .ge 103, 3) := by decide +kernel
theorem dX6_fits_40 : decode cX6_fits 40 = .ok (.iconst 0, 1) := by decide +kernel
theorem dX6_fits_41 : decode cX6_fits 41 = .ok (.istore 7, 2) := by decide +kernel
theorem dX6_fits_43 : decode cX6_fits 43 = .ok (.iconst 0, 1) := by decide +kernel
theorem dX6_fits_44 : decode cX6_fits 44 = .ok (.istore 8, 2) := by decide +kernel
theorem dX6_fits_46 : decode cX6_fits 46 = .ok (.iload 8, 2) := by decide +kernel
theorem dX6_fits_48 : decode cX6_fits 48 = .ok (.aload_n 0, 1) := by decide +kernel
theorem dX6_fits_49 : decode cX6_fits 49 = .ok (.invokevirtual 182, 3) := by decide +kernel
theorem dX6_fits_52 : decode cX6_fits 52 = .ok (.if_icmp .ge 82, 3) := by decide +kernel
theorem dX6_fits_55 : decode cX6_fits 55 = .ok (.iload 8, 2) := by decide +kernel
theorem dX6_fits_57 : decode cX6_fits 57 = .ok (.ifCond .eq 11, 3) := by decide +kernel
theorem dX6_fits_60 : decode cX6_fits 60 = .ok (.iload 6, 2) := by decide +kernel
theorem dX6_fits_62 : decode cX6_fits 62 = .ok (.invokestatic 188, 3) := by decide +kernel
theorem dX6_fits_65 : decode cX6_fits 65 = .ok (.ifCond .eq 32, 3) := by decide +kernel
theorem dX6_fits_68 : decode cX6_fits 68 = .ok (.aload_n 0, 1) := by decide +kernel
theorem dX6_fits_69 : decode cX6_fits 69 = .ok (.getfield 42, 3) := by decide +kernel
theorem dX6_fits_72 : decode cX6_fits 72 = .ok (.aload_n 0, 1) := by decide +kernel
theorem dX6_fits_73 : decode cX6_fits 73 = .ok (.getfield 10, 3) := by decide +kernel
theorem dX6_fits_76 : decode cX6_fits 76 = .ok (.iload 6, 2) := by decide +kernel
theorem dX6_fits_78 : decode cX6_fits 78 = .ok (.iload 8, 2) := by decide +kernel
theorem dX6_fits_80 : decode cX6_fits 80 = .ok (.iconst 0, 1) := by decide +kernel
theorem dX6_fits_81 : decode cX6_fits 81 = .ok (.invokevirtual 153, 3) := by decide +kernel
theorem dX6_fits_84 : decode cX6_fits 84 = .ok (.aload_n 0, 1) := by decide +kernel
theorem dX6_fits_85 : decode cX6_fits 85 = .ok (.getfield 42, 3) := by decide +kernel
theorem dX6_fits_88 : decode cX6_fits 88 = .ok (.aload_n 0, 1) := by decide +kernel
theorem dX6_fits_89 : decode cX6_fits 89 = .ok (.getfield 10, 3) := by decide +kernel
theorem dX6_fits_92 : decode cX6_fits 92 = .ok (.invokevirtual 241, 3) := by decide +kernel
theorem dX6_fits_95 : decode cX6_fits 95 = .ok (.istore 7, 2) := by decide +kernel
theorem dX6_fits_97 : decode cX6_fits 97 = .ok (.iload 7, 2) := by decide +kernel
theorem dX6_fits_99 : decode cX6_fits 99 = .ok (.ifCond .eq 29, 3) := by decide +kernel
theorem dX6_fits_102 : decode cX6_fits 102 = .ok (.iinc 2 1, 3) := by decide +kernel
theorem dX6_fits_105 : decode cX6_fits 105 = .ok (.iload_n 3, 1) := by decide +kernel
theorem dX6_fits_106 : decode cX6_fits 106 = .ok (.iconst 1, 1) := by decide +kernel
theorem dX6_fits_107 : decode cX6_fits 107 = .ok (.iload 6, 2) := by decide +kernel
theorem dX6_fits_109 : decode cX6_fits 109 = .ok (.ishl, 1) := by decide +kernel
theorem dX6_fits_110 : decode cX6_fits 110 = .ok (.ior, 1) := by decide +kernel
theorem dX6_fits_111 : decode cX6_fits 111 = .ok (.istore_n 3, 1) := by decide +kernel
theorem dX6_fits_112 : decode cX6_fits 112 = .ok (.iload 4, 2) := by decide +kernel
theorem dX6_fits_114 : decode cX6_fits 114 = .ok (.iload 8, 2) := by decide +kernel
theorem dX6_fits_116 : decode cX6_fits 116 = .ok (.iand, 1) := by decide +kernel
theorem dX6_fits_117 : decode cX6_fits 117 = .ok (.istore 4, 2) := by decide +kernel
theorem dX6_fits_119 : decode cX6_fits 119 = .ok (.iload 5, 2) := by decide +kernel
theorem dX6_fits_121 : decode cX6_fits 121 = .ok (.iload 8, 2) := by decide +kernel
theorem dX6_fits_123 : decode cX6_fits 123 = .ok (.iconst (-1), 1) := by decide +kernel
theorem dX6_fits_124 : decode cX6_fits 124 = .ok (.ixor, 1) := by decide +kernel
theorem dX6_fits_125 : decode cX6_fits 125 = .ok (.iand, 1) := by decide +kernel
theorem dX6_fits_126 : decode cX6_fits 126 = .ok (.istore 5, 2) := by decide +kernel
theorem dX6_fits_128 : decode cX6_fits 128 = .ok (.iinc 8 1, 3) := by decide +kernel
theorem dX6_fits_131 : decode cX6_fits 131 = .ok (.goto (-85), 3) := by decide +kernel
theorem dX6_fits_134 : decode cX6_fits 134 = .ok (.iinc 6 1, 3) := by decide +kernel
theorem dX6_fits_137 : decode cX6_fits 137 = .ok (.goto (-103), 3) := by decide +kernel
theorem dX6_fits_140 : decode cX6_fits 140 = .ok (.iload_n 1, 1) := by decide +kernel
theorem dX6_fits_141 : decode cX6_fits 141 = .ok (.iconst 2, 1) := by decide +kernel
theorem dX6_fits_142 : decode cX6_fits 142 = .ok (.if_icmp .ge 13, 3) := by decide +kernel
theorem dX6_fits_145 : decode cX6_fits 145 = .ok (.iload_n 1, 1) := by decide +kernel
theorem dX6_fits_146 : decode cX6_fits 146 = .ok (.ifCond .ne 7, 3) := by decide +kernel
theorem dX6_fits_149 : decode cX6_fits 149 = .ok (.iload_n 2, 1) := by decide +kernel
theorem dX6_fits_150 : decode cX6_fits 150 = .ok (.goto 4, 3) := by decide +kernel
theorem dX6_fits_153 : decode cX6_fits 153 = .ok (.iload_n 3, 1) := by decide +kernel
theorem dX6_fits_154 : decode cX6_fits 154 = .ok (.ireturn, 1) := by decide +kernel
theorem dX6_fits_155 : decode cX6_fits 155 = .ok (.iload_n 2, 1) := by decide +kernel
theorem dX6_fits_156 : decode cX6_fits 156 = .ok (.ifCond .ne 6, 3) := by decide +kernel
theorem dX6_fits_159 : decode cX6_fits 159 = .ok (.bipush (-4), 2) := by decide +kernel
theorem dX6_fits_161 : decode cX6_fits 161 = .ok (.ireturn, 1) := by decide +kernel
theorem dX6_fits_162 : decode cX6_fits 162 = .ok (.iload_n 1, 1) := by decide +kernel
theorem dX6_fits_163 : decode cX6_fits 163 = .ok (.iconst 2, 1) := by decide +kernel
theorem dX6_fits_164 : decode cX6_fits 164 = .ok (.if_icmp .ne 8, 3) := by decide +kernel
theorem dX6_fits_167 : decode cX6_fits 167 = .ok (.iload 4, 2) := by decide +kernel
theorem dX6_fits_169 : decode cX6_fits 169 = .ok (.goto 5, 3) := by decide +kernel
theorem dX6_fits_172 : decode cX6_fits 172 = .ok (.iload 5, 2) := by decide +kernel
theorem dX6_fits_174 : decode cX6_fits 174 = .ok (.ireturn, 1) := by decide +kernel
theorem dX6_drift_0 : decode cX6_drift 0 = .ok (.iload_n 2, 1) := by decide +kernel
theorem dX6_drift_1 : decode cX6_drift 1 = .ok (.iconst 1, 1) := by decide +kernel
theorem dX6_drift_2 : decode cX6_drift 2 = .ok (.bipush 20, 2) := by decide +kernel
theorem dX6_drift_4 : decode cX6_drift 4 = .ok (.invokestatic 67, 3) := by decide +kernel
theorem dX6_drift_7 : decode cX6_drift 7 = .ok (.ifCond .eq 12, 3) := by decide +kernel
theorem dX6_drift_10 : decode cX6_drift 10 = .ok (.iload_n 3, 1) := by decide +kernel
theorem dX6_drift_11 : decode cX6_drift 11 = .ok (.iconst 0, 1) := by decide +kernel
theorem dX6_drift_12 : decode cX6_drift 12 = .ok (.iconst 1, 1) := by decide +kernel
theorem dX6_drift_13 : decode cX6_drift 13 = .ok (.invokestatic 67, 3) := by decide +kernel
theorem dX6_drift_16 : decode cX6_drift 16 = .ok (.ifCond .ne 5, 3) := by decide +kernel
theorem dX6_drift_19 : decode cX6_drift 19 = .ok (.iconst (-1), 1) := by decide +kernel
theorem dX6_drift_20 : decode cX6_drift 20 = .ok (.ireturn, 1) := by decide +kernel
theorem dX6_drift_21 : decode cX6_drift 21 = .ok (.aload_n 0, 1) := by decide +kernel
theorem dX6_drift_22 : decode cX6_drift 22 = .ok (.getfield 16, 3) := by decide +kernel
theorem dX6_drift_25 : decode cX6_drift 25 = .ok (.aload_n 0, 1) := by decide +kernel
theorem dX6_drift_26 : decode cX6_drift 26 = .ok (.getfield 10, 3) := by decide +kernel
theorem dX6_drift_29 : decode cX6_drift 29 = .ok (.invokevirtual 86, 3) := by decide +kernel
theorem dX6_drift_32 : decode cX6_drift 32 = .ok (.iload_n 1, 1) := by decide +kernel
theorem dX6_drift_33 : decode cX6_drift 33 = .ok (.istore 4, 2) := by decide +kernel
theorem dX6_drift_35 : decode cX6_drift 35 = .ok (.iconst 0, 1) := by decide +kernel
theorem dX6_drift_36 : decode cX6_drift 36 = .ok (.istore 5, 2) := by decide +kernel
theorem dX6_drift_38 : decode cX6_drift 38 = .ok (.iconst 0, 1) := by decide +kernel
theorem dX6_drift_39 : decode cX6_drift 39 = .ok (.istore 6, 2) := by decide +kernel
theorem dX6_drift_41 : decode cX6_drift 41 = .ok (.iload 6, 2) := by decide +kernel
theorem dX6_drift_43 : decode cX6_drift 43 = .ok (.iload_n 2, 1) := by decide +kernel
theorem dX6_drift_44 : decode cX6_drift 44 = .ok (.if_icmp .ge 92, 3) := by decide +kernel
theorem dX6_drift_47 : decode cX6_drift 47 = .ok (.iconst 0, 1) := by decide +kernel
theorem dX6_drift_48 : decode cX6_drift 48 = .ok (.istore 7, 2) := by decide +kernel
theorem dX6_drift_50 : decode cX6_drift 50 = .ok (.iload 7, 2) := by decide +kernel
theorem dX6_drift_52 : decode cX6_drift 52 = .ok (.aload_n 0, 1) := by decide +kernel
theorem dX6_drift_53 : decode cX6_drift 53 = .ok (.getfield 16, 3) := by decide +kernel
theorem dX6_drift_56 : decode cX6_drift 56 = .ok (.getfield 96, 3) := by decide +kernel
theorem dX6_drift_59 : decode cX6_drift 59 = .ok (.if_icmp .ge 42, 3) := by decide +kernel
theorem dX6_drift_62 : decode cX6_drift 62 = .ok (.iload 4, 2) := by decide +kernel
theorem dX6_drift_64 : decode cX6_drift 64 = .ok (.ldc 245, 2) := by decide +kernel
theorem dX6_drift_66 : decode cX6_drift 66 = .ok (.imul, 1) := by decide +kernel
theorem dX6_drift_67 : decode cX6_drift 67 = .ok (.sipush 12345, 3) := by decide +kernel
theorem dX6_drift_70 : decode cX6_drift 70 = .ok (.iadd, 1) := by decide +kernel
theorem dX6_drift_71 : decode cX6_drift 71 = .ok (.istore 4, 2) := by decide +kernel
theorem dX6_drift_73 : decode cX6_drift 73 = .ok (.aload_n 0, 1) := by decide +kernel
theorem dX6_drift_74 : decode cX6_drift 74 = .ok (.getfield 16, 3) := by decide +kernel
theorem dX6_drift_77 : decode cX6_drift 77 = .ok (.iload 7, 2) := by decide +kernel
theorem dX6_drift_79 : decode cX6_drift 79 = .ok (.iconst 2, 1) := by decide +kernel
theorem dX6_drift_80 : decode cX6_drift 80 = .ok (.iload 4, 2) := by decide +kernel
theorem dX6_drift_82 : decode cX6_drift 82 = .ok (.bipush 16, 2) := by decide +kernel
theorem dX6_drift_84 : decode cX6_drift 84 = .ok (.ishr, 1) := by decide +kernel
theorem dX6_drift_85 : decode cX6_drift 85 = .ok (.sipush 32767, 3) := by decide +kernel
theorem dX6_drift_88 : decode cX6_drift 88 = .ok (.iand, 1) := by decide +kernel
theorem dX6_drift_89 : decode cX6_drift 89 = .ok (.bipush 40, 2) := by decide +kernel
theorem dX6_drift_91 : decode cX6_drift 91 = .ok (.irem, 1) := by decide +kernel
theorem dX6_drift_92 : decode cX6_drift 92 = .ok (.invokevirtual 125, 3) := by decide +kernel
theorem dX6_drift_95 : decode cX6_drift 95 = .ok (.iinc 7 1, 3) := by decide +kernel
theorem dX6_drift_98 : decode cX6_drift 98 = .ok (.goto (-48), 3) := by decide +kernel
theorem dX6_drift_101 : decode cX6_drift 101 = .ok (.aload_n 0, 1) := by decide +kernel
theorem dX6_drift_102 : decode cX6_drift 102 = .ok (.aload_n 0, 1) := by decide +kernel
theorem dX6_drift_103 : decode cX6_drift 103 = .ok (.getfield 16, 3) := by decide +kernel
theorem dX6_drift_106 : decode cX6_drift 106 = .ok (.invokevirtual 132, 3) := by decide +kernel
theorem dX6_drift_109 : decode cX6_drift 109 = .ok (.iload 5, 2) := by decide +kernel
theorem dX6_drift_111 : decode cX6_drift 111 = .ok (.aload_n 0, 1) := by decide +kernel
theorem dX6_drift_112 : decode cX6_drift 112 = .ok (.getfield 42, 3) := by decide +kernel
theorem dX6_drift_115 : decode cX6_drift 115 = .ok (.iload_n 3, 1) := by decide +kernel
theorem dX6_drift_116 : decode cX6_drift 116 = .ok (.ifCond .ne 7, 3) := by decide +kernel
theorem dX6_drift_119 : decode cX6_drift 119 = .ok (.iconst 0, 1) := by decide +kernel
theorem dX6_drift_120 : decode cX6_drift 120 = .ok (.goto 4, 3) := by decide +kernel
theorem dX6_drift_123 : decode cX6_drift 123 = .ok (.iconst 2, 1) := by decide +kernel
theorem dX6_drift_124 : decode cX6_drift 124 = .ok (.invokevirtual 157, 3) := by decide +kernel
theorem dX6_drift_127 : decode cX6_drift 127 = .ok (.iadd, 1) := by decide +kernel
theorem dX6_drift_128 : decode cX6_drift 128 = .ok (.istore 5, 2) := by decide +kernel
theorem dX6_drift_130 : decode cX6_drift 130 = .ok (.iinc 6 1, 3) := by decide +kernel
theorem dX6_drift_133 : decode cX6_drift 133 = .ok (.goto (-92), 3) := by decide +kernel
theorem dX6_drift_136 : decode cX6_drift 136 = .ok (.iload 5, 2) := by decide +kernel
theorem dX6_drift_138 : decode cX6_drift 138 = .ok (.ireturn, 1) := by decide +kernel
theorem dX6_keep_0 : decode cX6_keep 0 = .ok (.iload_n 1, 1) := by decide +kernel
theorem dX6_keep_1 : decode cX6_keep 1 = .ok (.iconst 0, 1) := by decide +kernel
theorem dX6_keep_2 : decode cX6_keep 2 = .ok (.iconst 1, 1) := by decide +kernel
theorem dX6_keep_3 : decode cX6_keep 3 = .ok (.invokestatic 67, 3) := by decide +kernel
theorem dX6_keep_6 : decode cX6_keep 6 = .ok (.ifCond .ne 5, 3) := by decide +kernel
theorem dX6_keep_9 : decode cX6_keep 9 = .ok (.iconst (-1), 1) := by decide +kernel
theorem dX6_keep_10 : decode cX6_keep 10 = .ok (.ireturn, 1) := by decide +kernel
theorem dX6_keep_11 : decode cX6_keep 11 = .ok (.aload_n 0, 1) := by decide +kernel
theorem dX6_keep_12 : decode cX6_keep 12 = .ok (.getfield 90, 3) := by decide +kernel
theorem dX6_keep_15 : decode cX6_keep 15 = .ok (.iload_n 1, 1) := by decide +kernel
theorem dX6_keep_16 : decode cX6_keep 16 = .ok (.ishr, 1) := by decide +kernel
theorem dX6_keep_17 : decode cX6_keep 17 = .ok (.iconst 1, 1) := by decide +kernel
theorem dX6_keep_18 : decode cX6_keep 18 = .ok (.iand, 1) := by decide +kernel
theorem dX6_keep_19 : decode cX6_keep 19 = .ok (.istore_n 2, 1) := by decide +kernel
theorem dX6_keep_20 : decode cX6_keep 20 = .ok (.aload_n 0, 1) := by decide +kernel
theorem dX6_keep_21 : decode cX6_keep 21 = .ok (.getfield 19, 3) := by decide +kernel
theorem dX6_keep_24 : decode cX6_keep 24 = .ok (.iload_n 1, 1) := by decide +kernel
theorem dX6_keep_25 : decode cX6_keep 25 = .ok (.aaload, 1) := by decide +kernel
theorem dX6_keep_26 : decode cX6_keep 26 = .ok (.aload_n 0, 1) := by decide +kernel
theorem dX6_keep_27 : decode cX6_keep 27 = .ok (.getfield 10, 3) := by decide +kernel
theorem dX6_keep_30 : decode cX6_keep 30 = .ok (.invokevirtual 86, 3) := by decide +kernel
theorem dX6_keep_33 : decode cX6_keep 33 = .ok (.aload_n 0, 1) := by decide +kernel
theorem dX6_keep_34 : decode cX6_keep 34 = .ok (.dup, 1) := by decide +kernel
theorem dX6_keep_35 : decode cX6_keep 35 = .ok (.getfield 90, 3) := by decide +kernel
theorem dX6_keep_38 : decode cX6_keep 38 = .ok (.iconst 1, 1) := by decide +kernel
theorem dX6_keep_39 : decode cX6_keep 39 = .ok (.iload_n 1, 1) := by decide +kernel
theorem dX6_keep_40 : decode cX6_keep 40 = .ok (.ishl, 1) := by decide +kernel
theorem dX6_keep_41 : decode cX6_keep 41 = .ok (.ior, 1) := by decide +kernel
theorem dX6_keep_42 : decode cX6_keep 42 = .ok (.putfield 90, 3) := by decide +kernel
theorem dX6_keep_45 : decode cX6_keep 45 = .ok (.iload_n 2, 1) := by decide +kernel
theorem dX6_keep_46 : decode cX6_keep 46 = .ok (.ireturn, 1) := by decide +kernel
theorem dX6_back_0 : decode cX6_back 0 = .ok (.iload_n 1, 1) := by decide +kernel
theorem dX6_back_1 : decode cX6_back 1 = .ok (.iconst 0, 1) := by decide +kernel
theorem dX6_back_2 : decode cX6_back 2 = .ok (.iconst 1, 1) := by decide +kernel
theorem dX6_back_3 : decode cX6_back 3 = .ok (.invokestatic 67, 3) := by decide +kernel
theorem dX6_back_6 : decode cX6_back 6 = .ok (.ifCond .ne 5, 3) := by decide +kernel
theorem dX6_back_9 : decode cX6_back 9 = .ok (.iconst (-1), 1) := by decide +kernel
theorem dX6_back_10 : decode cX6_back 10 = .ok (.ireturn, 1) := by decide +kernel
theorem dX6_back_11 : decode cX6_back 11 = .ok (.aload_n 0, 1) := by decide +kernel
theorem dX6_back_12 : decode cX6_back 12 = .ok (.getfield 90, 3) := by decide +kernel
theorem dX6_back_15 : decode cX6_back 15 = .ok (.iload_n 1, 1) := by decide +kernel
theorem dX6_back_16 : decode cX6_back 16 = .ok (.ishr, 1) := by decide +kernel
theorem dX6_back_17 : decode cX6_back 17 = .ok (.iconst 1, 1) := by decide +kernel
theorem dX6_back_18 : decode cX6_back 18 = .ok (.iand, 1) := by decide +kernel
theorem dX6_back_19 : decode cX6_back 19 = .ok (.ifCond .ne 6, 3) := by decide +kernel
theorem dX6_back_22 : decode cX6_back 22 = .ok (.bipush (-2), 2) := by decide +kernel
theorem dX6_back_24 : decode cX6_back 24 = .ok (.ireturn, 1) := by decide +kernel
theorem dX6_back_25 : decode cX6_back 25 = .ok (.aload_n 0, 1) := by decide +kernel
theorem dX6_back_26 : decode cX6_back 26 = .ok (.getfield 10, 3) := by decide +kernel
theorem dX6_back_29 : decode cX6_back 29 = .ok (.aload_n 0, 1) := by decide +kernel
theorem dX6_back_30 : decode cX6_back 30 = .ok (.getfield 19, 3) := by decide +kernel
theorem dX6_back_33 : decode cX6_back 33 = .ok (.iload_n 1, 1) := by decide +kernel
theorem dX6_back_34 : decode cX6_back 34 = .ok (.aaload, 1) := by decide +kernel
theorem dX6_back_35 : decode cX6_back 35 = .ok (.invokevirtual 86, 3) := by decide +kernel
theorem dX6_back_38 : decode cX6_back 38 = .ok (.aload_n 0, 1) := by decide +kernel
theorem dX6_back_39 : decode cX6_back 39 = .ok (.iconst 3, 1) := by decide +kernel
theorem dX6_back_40 : decode cX6_back 40 = .ok (.invokevirtual 246, 3) := by decide +kernel
theorem dX6_back_43 : decode cX6_back 43 = .ok (.ireturn, 1) := by decide +kernel
theorem dX6_sheet_0 : decode cX6_sheet 0 = .ok (.iload_n 1, 1) := by decide +kernel
theorem dX6_sheet_1 : decode cX6_sheet 1 = .ok (.invokestatic 249, 3) := by decide +kernel
theorem dX6_sheet_4 : decode cX6_sheet 4 = .ok (.ifCond .eq 16, 3) := by decide +kernel
theorem dX6_sheet_7 : decode cX6_sheet 7 = .ok (.iload_n 2, 1) := by decide +kernel
theorem dX6_sheet_8 : decode cX6_sheet 8 = .ok (.invokestatic 252, 3) := by decide +kernel
theorem dX6_sheet_11 : decode cX6_sheet 11 = .ok (.ifCond .eq 9, 3) := by decide +kernel
theorem dX6_sheet_14 : decode cX6_sheet 14 = .ok (.iload_n 3, 1) := by decide +kernel
theorem dX6_sheet_15 : decode cX6_sheet 15 = .ok (.bipush 40, 2) := by decide +kernel
theorem dX6_sheet_17 : decode cX6_sheet 17 = .ok (.if_icmp .le 5, 3) := by decide +kernel
theorem dX6_sheet_20 : decode cX6_sheet 20 = .ok (.iconst (-1), 1) := by decide +kernel
theorem dX6_sheet_21 : decode cX6_sheet 21 = .ok (.ireturn, 1) := by decide +kernel
theorem dX6_sheet_22 : decode cX6_sheet 22 = .ok (.iload_n 3, 1) := by decide +kernel
theorem dX6_sheet_23 : decode cX6_sheet 23 = .ok (.ifCond .ge 6, 3) := by decide +kernel
theorem dX6_sheet_26 : decode cX6_sheet 26 = .ok (.bipush (-14), 2) := by decide +kernel
theorem dX6_sheet_28 : decode cX6_sheet 28 = .ok (.ireturn, 1) := by decide +kernel
theorem dX6_sheet_29 : decode cX6_sheet 29 = .ok (.aload_n 0, 1) := by decide +kernel
theorem dX6_sheet_30 : decode cX6_sheet 30 = .ok (.getfield 62, 3) := by decide +kernel
theorem dX6_sheet_33 : decode cX6_sheet 33 = .ok (.iload_n 1, 1) := by decide +kernel
theorem dX6_sheet_34 : decode cX6_sheet 34 = .ok (.aaload, 1) := by decide +kernel
theorem dX6_sheet_35 : decode cX6_sheet 35 = .ok (.iload_n 2, 1) := by decide +kernel
theorem dX6_sheet_36 : decode cX6_sheet 36 = .ok (.iload_n 3, 1) := by decide +kernel
theorem dX6_sheet_37 : decode cX6_sheet 37 = .ok (.invokevirtual 255, 3) := by decide +kernel
theorem dX6_sheet_40 : decode cX6_sheet 40 = .ok (.iconst 1, 1) := by decide +kernel
theorem dX6_sheet_41 : decode cX6_sheet 41 = .ok (.ireturn, 1) := by decide +kernel
theorem dX6_lay_0 : decode cX6_lay 0 = .ok (.iload_n 1, 1) := by decide +kernel
theorem dX6_lay_1 : decode cX6_lay 1 = .ok (.invokestatic 249, 3) := by decide +kernel
theorem dX6_lay_4 : decode cX6_lay 4 = .ok (.ifCond .ne 5, 3) := by decide +kernel
theorem dX6_lay_7 : decode cX6_lay 7 = .ok (.iconst (-1), 1) := by decide +kernel
theorem dX6_lay_8 : decode cX6_lay 8 = .ok (.ireturn, 1) := by decide +kernel
theorem dX6_lay_9 : decode cX6_lay 9 = .ok (.aload_n 0, 1) := by decide +kernel
theorem dX6_lay_10 : decode cX6_lay 10 = .ok (.getfield 62, 3) := by decide +kernel
theorem dX6_lay_13 : decode cX6_lay 13 = .ok (.iload_n 1, 1) := by decide +kernel
theorem dX6_lay_14 : decode cX6_lay 14 = .ok (.aaload, 1) := by decide +kernel
theorem dX6_lay_15 : decode cX6_lay 15 = .ok (.iload_n 2, 1) := by decide +kernel
theorem dX6_lay_16 : decode cX6_lay 16 = .ok (.invokevirtual 259, 3) := by decide +kernel
theorem dX6_lay_19 : decode cX6_lay 19 = .ok (.istore 4, 2) := by decide +kernel
theorem dX6_lay_21 : decode cX6_lay 21 = .ok (.iload 4, 2) := by decide +kernel
theorem dX6_lay_23 : decode cX6_lay 23 = .ok (.ifCond .eq 9, 3) := by decide +kernel
theorem dX6_lay_26 : decode cX6_lay 26 = .ok (.bipush (-10), 2) := by decide +kernel
theorem dX6_lay_28 : decode cX6_lay 28 = .ok (.iload 4, 2) := by decide +kernel
theorem dX6_lay_30 : decode cX6_lay 30 = .ok (.isub, 1) := by decide +kernel
theorem dX6_lay_31 : decode cX6_lay 31 = .ok (.ireturn, 1) := by decide +kernel
theorem dX6_lay_32 : decode cX6_lay 32 = .ok (.aload_n 0, 1) := by decide +kernel
theorem dX6_lay_33 : decode cX6_lay 33 = .ok (.getfield 62, 3) := by decide +kernel
theorem dX6_lay_36 : decode cX6_lay 36 = .ok (.iload_n 1, 1) := by decide +kernel
theorem dX6_lay_37 : decode cX6_lay 37 = .ok (.aaload, 1) := by decide +kernel
theorem dX6_lay_38 : decode cX6_lay 38 = .ok (.iload_n 2, 1) := by decide +kernel
theorem dX6_lay_39 : decode cX6_lay 39 = .ok (.iload_n 3, 1) := by decide +kernel
theorem dX6_lay_40 : decode cX6_lay 40 = .ok (.invokevirtual 262, 3) := by decide +kernel
theorem dX6_lay_43 : decode cX6_lay 43 = .ok (.iconst 1, 1) := by decide +kernel
theorem dX6_lay_44 : decode cX6_lay 44 = .ok (.ireturn, 1) := by decide +kernel
theorem dX6_read_0 : decode cX6_read 0 = .ok (.iload_n 1, 1) := by decide +kernel
theorem dX6_read_1 : decode cX6_read 1 = .ok (.invokestatic 249, 3) := by decide +kernel
theorem dX6_read_4 : decode cX6_read 4 = .ok (.ifCond .eq 21, 3) := by decide +kernel
theorem dX6_read_7 : decode cX6_read 7 = .ok (.iload_n 2, 1) := by decide +kernel
theorem dX6_read_8 : decode cX6_read 8 = .ok (.invokestatic 252, 3) := by decide +kernel
theorem dX6_read_11 : decode cX6_read 11 = .ok (.ifCond .eq 14, 3) := by decide +kernel
theorem dX6_read_14 : decode cX6_read 14 = .ok (.iload 4, 2) := by decide +kernel
theorem dX6_read_16 : decode cX6_read 16 = .ok (.iconst 0, 1) := by decide +kernel
theorem dX6_read_17 : decode cX6_read 17 = .ok (.bipush 20, 2) := by decide +kernel
theorem dX6_read_19 : decode cX6_read 19 = .ok (.invokestatic 67, 3) := by decide +kernel
theorem dX6_read_22 : decode cX6_read 22 = .ok (.ifCond .ne 5, 3) := by decide +kernel
theorem dX6_read_25 : decode cX6_read 25 = .ok (.iconst (-1), 1) := by decide +kernel
theorem dX6_read_26 : decode cX6_read 26 = .ok (.ireturn, 1) := by decide +kernel
theorem dX6_read_27 : decode cX6_read 27 = .ok (.aload_n 0, 1) := by decide +kernel
theorem dX6_read_28 : decode cX6_read 28 = .ok (.getfield 62, 3) := by decide +kernel
theorem dX6_read_31 : decode cX6_read 31 = .ok (.iload_n 1, 1) := by decide +kernel
theorem dX6_read_32 : decode cX6_read 32 = .ok (.aaload, 1) := by decide +kernel
theorem dX6_read_33 : decode cX6_read 33 = .ok (.astore 5, 2) := by decide +kernel
theorem dX6_read_35 : decode cX6_read 35 = .ok (.iconst 0, 1) := by decide +kernel
theorem dX6_read_36 : decode cX6_read 36 = .ok (.istore 6, 2) := by decide +kernel
theorem dX6_read_38 : decode cX6_read 38 = .ok (.iconst 0, 1) := by decide +kernel
theorem dX6_read_39 : decode cX6_read 39 = .ok (.istore 7, 2) := by decide +kernel
theorem dX6_read_41 : decode cX6_read 41 = .ok (.iconst 0, 1) := by decide +kernel
theorem dX6_read_42 : decode cX6_read 42 = .ok (.istore 8, 2) := by decide +kernel
theorem dX6_read_44 : decode cX6_read 44 = .ok (.iload 8, 2) := by decide +kernel
theorem dX6_read_46 : decode cX6_read 46 = .ok (.iload 4, 2) := by decide +kernel
theorem dX6_read_48 : decode cX6_read 48 = .ok (.if_icmp .ge 57, 3) := by decide +kernel
theorem dX6_read_51 : decode cX6_read 51 = .ok (.iload 6, 2) := by decide +kernel
theorem dX6_read_53 : decode cX6_read 53 = .ok (.ifCond .ne 52, 3) := by decide +kernel
theorem dX6_read_56 : decode cX6_read 56 = .ok (.aload 5, 2) := by decide +kernel
theorem dX6_read_58 : decode cX6_read 58 = .ok (.iload_n 2, 1) := by decide +kernel
theorem dX6_read_59 : decode cX6_read 59 = .ok (.iload_n 3, 1) := by decide +kernel
theorem dX6_read_60 : decode cX6_read 60 = .ok (.iconst 2, 1) := by decide +kernel
theorem dX6_read_61 : decode cX6_read 61 = .ok (.iload 8, 2) := by decide +kernel
theorem dX6_read_63 : decode cX6_read 63 = .ok (.imul, 1) := by decide +kernel
theorem dX6_read_64 : decode cX6_read 64 = .ok (.iadd, 1) := by decide +kernel
theorem dX6_read_65 : decode cX6_read 65 = .ok (.invokevirtual 265, 3) := by decide +kernel
theorem dX6_read_68 : decode cX6_read 68 = .ok (.istore 6, 2) := by decide +kernel
theorem dX6_read_70 : decode cX6_read 70 = .ok (.iload 6, 2) := by decide +kernel
theorem dX6_read_72 : decode cX6_read 72 = .ok (.ifCond .ne 27, 3) := by decide +kernel
theorem dX6_read_75 : decode cX6_read 75 = .ok (.aload_n 0, 1) := by decide +kernel
theorem dX6_read_76 : decode cX6_read 76 = .ok (.aload 5, 2) := by decide +kernel
theorem dX6_read_78 : decode cX6_read 78 = .ok (.iload_n 3, 1) := by decide +kernel
theorem dX6_read_79 : decode cX6_read 79 = .ok (.iconst 2, 1) := by decide +kernel
theorem dX6_read_80 : decode cX6_read 80 = .ok (.iload 8, 2) := by decide +kernel
theorem dX6_read_82 : decode cX6_read 82 = .ok (.imul, 1) := by decide +kernel
theorem dX6_read_83 : decode cX6_read 83 = .ok (.iadd, 1) := by decide +kernel
theorem dX6_read_84 : decode cX6_read 84 = .ok (.invokevirtual 268, 3) := by decide +kernel
theorem dX6_read_87 : decode cX6_read 87 = .ok (.ifCond .ne 9, 3) := by decide +kernel
theorem dX6_read_90 : decode cX6_read 90 = .ok (.bipush (-20), 2) := by decide +kernel
theorem dX6_read_92 : decode cX6_read 92 = .ok (.iload 8, 2) := by decide +kernel
theorem dX6_read_94 : decode cX6_read 94 = .ok (.isub, 1) := by decide +kernel
theorem dX6_read_95 : decode cX6_read 95 = .ok (.ireturn, 1) := by decide +kernel
theorem dX6_read_96 : decode cX6_read 96 = .ok (.iinc 7 1, 3) := by decide +kernel
theorem dX6_read_99 : decode cX6_read 99 = .ok (.iinc 8 1, 3) := by decide +kernel
theorem dX6_read_102 : decode cX6_read 102 = .ok (.goto (-58), 3) := by decide +kernel
theorem dX6_read_105 : decode cX6_read 105 = .ok (.iconst 0, 1) := by decide +kernel
theorem dX6_read_106 : decode cX6_read 106 = .ok (.istore 8, 2) := by decide +kernel
theorem dX6_read_108 : decode cX6_read 108 = .ok (.iload 8, 2) := by decide +kernel
theorem dX6_read_110 : decode cX6_read 110 = .ok (.iload 7, 2) := by decide +kernel
theorem dX6_read_112 : decode cX6_read 112 = .ok (.if_icmp .ge 39, 3) := by decide +kernel
theorem dX6_read_115 : decode cX6_read 115 = .ok (.aload_n 0, 1) := by decide +kernel
theorem dX6_read_116 : decode cX6_read 116 = .ok (.aload 5, 2) := by decide +kernel
theorem dX6_read_118 : decode cX6_read 118 = .ok (.iload_n 3, 1) := by decide +kernel
theorem dX6_read_119 : decode cX6_read 119 = .ok (.iconst 2, 1) := by decide +kernel
theorem dX6_read_120 : decode cX6_read 120 = .ok (.iload 8, 2) := by decide +kernel
theorem dX6_read_122 : decode cX6_read 122 = .ok (.imul, 1) := by decide +kernel
theorem dX6_read_123 : decode cX6_read 123 = .ok (.iadd, 1) := by decide +kernel
theorem dX6_read_124 : decode cX6_read 124 = .ok (.invokevirtual 272, 3) := by decide +kernel
theorem dX6_read_127 : decode cX6_read 127 = .ok (.iconst 2, 1) := by decide +kernel
theorem dX6_read_128 : decode cX6_read 128 = .ok (.aload 5, 2) := by decide +kernel
theorem dX6_read_130 : decode cX6_read 130 = .ok (.iload_n 3, 1) := by decide +kernel
theorem dX6_read_131 : decode cX6_read 131 = .ok (.iconst 2, 1) := by decide +kernel
theorem dX6_read_132 : decode cX6_read 132 = .ok (.iload 8, 2) := by decide +kernel
theorem dX6_read_134 : decode cX6_read 134 = .ok (.imul, 1) := by decide +kernel
theorem dX6_read_135 : decode cX6_read 135 = .ok (.iadd, 1) := by decide +kernel
theorem dX6_read_136 : decode cX6_read 136 = .ok (.iconst 1, 1) := by decide +kernel
theorem dX6_read_137 : decode cX6_read 137 = .ok (.iadd, 1) := by decide +kernel
theorem dX6_read_138 : decode cX6_read 138 = .ok (.invokevirtual 272, 3) := by decide +kernel
theorem dX6_read_141 : decode cX6_read 141 = .ok (.invokevirtual 275, 3) := by decide +kernel
theorem dX6_read_144 : decode cX6_read 144 = .ok (.pop, 1) := by decide +kernel
theorem dX6_read_145 : decode cX6_read 145 = .ok (.iinc 8 1, 3) := by decide +kernel
theorem dX6_read_148 : decode cX6_read 148 = .ok (.goto (-40), 3) := by decide +kernel
theorem dX6_read_151 : decode cX6_read 151 = .ok (.aload_n 0, 1) := by decide +kernel
theorem dX6_read_152 : decode cX6_read 152 = .ok (.iload 6, 2) := by decide +kernel
theorem dX6_read_154 : decode cX6_read 154 = .ok (.putfield 279, 3) := by decide +kernel
theorem dX6_read_157 : decode cX6_read 157 = .ok (.iload 7, 2) := by decide +kernel
theorem dX6_read_159 : decode cX6_read 159 = .ok (.ireturn, 1) := by decide +kernel
theorem dX6_torn_0 : decode cX6_torn 0 = .ok (.aload_n 0, 1) := by decide +kernel
theorem dX6_torn_1 : decode cX6_torn 1 = .ok (.getfield 279, 3) := by decide +kernel
theorem dX6_torn_4 : decode cX6_torn 4 = .ok (.ireturn, 1) := by decide +kernel
theorem dX6_count_0 : decode cX6_count 0 = .ok (.iload_n 1, 1) := by decide +kernel
theorem dX6_count_1 : decode cX6_count 1 = .ok (.tableswitch 110 0 5 #[39, 48, 56, 64, 72, 99], 39) := by decide +kernel
theorem dX6_count_40 : decode cX6_count 40 = .ok (.aload_n 0, 1) := by decide +kernel
theorem dX6_count_41 : decode cX6_count 41 = .ok (.getfield 10, 3) := by decide +kernel
theorem dX6_count_44 : decode cX6_count 44 = .ok (.iconst 0, 1) := by decide +kernel
theorem dX6_count_45 : decode cX6_count 45 = .ok (.invokevirtual 282, 3) := by decide +kernel
theorem dX6_count_48 : decode cX6_count 48 = .ok (.ireturn, 1) := by decide +kernel
theorem dX6_count_49 : decode cX6_count 49 = .ok (.aload_n 0, 1) := by decide +kernel
theorem dX6_count_50 : decode cX6_count 50 = .ok (.getfield 10, 3) := by decide +kernel
theorem dX6_count_53 : decode cX6_count 53 = .ok (.getfield 238, 3) := by decide +kernel
theorem dX6_count_56 : decode cX6_count 56 = .ok (.ireturn, 1) := by decide +kernel
theorem dX6_count_57 : decode cX6_count 57 = .ok (.aload_n 0, 1) := by decide +kernel
theorem dX6_count_58 : decode cX6_count 58 = .ok (.getfield 90, 3) := by decide +kernel
theorem dX6_count_61 : decode cX6_count 61 = .ok (.invokestatic 285, 3) := by decide +kernel
theorem dX6_count_64 : decode cX6_count 64 = .ok (.ireturn, 1) := by decide +kernel
theorem dX6_count_65 : decode cX6_count 65 = .ok (.aload_n 0, 1) := by decide +kernel
theorem dX6_count_66 : decode cX6_count 66 = .ok (.getfield 26, 3) := by decide +kernel
theorem dX6_count_69 : decode cX6_count 69 = .ok (.getfield 75, 3) := by decide +kernel
theorem dX6_count_72 : decode cX6_count 72 = .ok (.ireturn, 1) := by decide +kernel
theorem dX6_count_73 : decode cX6_count 73 = .ok (.aload_n 0, 1) := by decide +kernel
theorem dX6_count_74 : decode cX6_count 74 = .ok (.getfield 62, 3) := by decide +kernel
theorem dX6_count_77 : decode cX6_count 77 = .ok (.iconst 0, 1) := by decide +kernel
theorem dX6_count_78 : decode cX6_count 78 = .ok (.aaload, 1) := by decide +kernel
theorem dX6_count_79 : decode cX6_count 79 = .ok (.invokevirtual 288, 3) := by decide +kernel
theorem dX6_count_82 : decode cX6_count 82 = .ok (.ifCond .eq 8, 3) := by decide +kernel
theorem dX6_count_85 : decode cX6_count 85 = .ok (.bipush (-4), 2) := by decide +kernel
theorem dX6_count_87 : decode cX6_count 87 = .ok (.goto 12, 3) := by decide +kernel
theorem dX6_count_90 : decode cX6_count 90 = .ok (.aload_n 0, 1) := by decide +kernel
theorem dX6_count_91 : decode cX6_count 91 = .ok (.getfield 62, 3) := by decide +kernel
theorem dX6_count_94 : decode cX6_count 94 = .ok (.iconst 0, 1) := by decide +kernel
theorem dX6_count_95 : decode cX6_count 95 = .ok (.aaload, 1) := by decide +kernel
theorem dX6_count_96 : decode cX6_count 96 = .ok (.getfield 292, 3) := by decide +kernel
theorem dX6_count_99 : decode cX6_count 99 = .ok (.ireturn, 1) := by decide +kernel
theorem dX6_count_100 : decode cX6_count 100 = .ok (.aload_n 0, 1) := by decide +kernel
theorem dX6_count_101 : decode cX6_count 101 = .ok (.getfield 10, 3) := by decide +kernel
theorem dX6_count_104 : decode cX6_count 104 = .ok (.getfield 99, 3) := by decide +kernel
theorem dX6_count_107 : decode cX6_count 107 = .ok (.invokestatic 285, 3) := by decide +kernel
theorem dX6_count_110 : decode cX6_count 110 = .ok (.ireturn, 1) := by decide +kernel
theorem dX6_count_111 : decode cX6_count 111 = .ok (.iconst (-1), 1) := by decide +kernel
theorem dX6_count_112 : decode cX6_count 112 = .ok (.ireturn, 1) := by decide +kernel
theorem dX6_isComing_0 : decode cX6_isComing 0 = .ok (.aload_n 0, 1) := by decide +kernel
theorem dX6_isComing_1 : decode cX6_isComing 1 = .ok (.aload_n 1, 1) := by decide +kernel
theorem dX6_isComing_2 : decode cX6_isComing 2 = .ok (.iload_n 2, 1) := by decide +kernel
theorem dX6_isComing_3 : decode cX6_isComing 3 = .ok (.invokevirtual 272, 3) := by decide +kernel
theorem dX6_isComing_6 : decode cX6_isComing 6 = .ok (.invokevirtual 105, 3) := by decide +kernel
theorem dX6_isComing_9 : decode cX6_isComing 9 = .ok (.ifCond .eq 26, 3) := by decide +kernel
theorem dX6_isComing_12 : decode cX6_isComing 12 = .ok (.aload_n 1, 1) := by decide +kernel
theorem dX6_isComing_13 : decode cX6_isComing 13 = .ok (.iload_n 2, 1) := by decide +kernel
theorem dX6_isComing_14 : decode cX6_isComing 14 = .ok (.iconst 1, 1) := by decide +kernel
theorem dX6_isComing_15 : decode cX6_isComing 15 = .ok (.iadd, 1) := by decide +kernel
theorem dX6_isComing_16 : decode cX6_isComing 16 = .ok (.invokevirtual 272, 3) := by decide +kernel
theorem dX6_isComing_19 : decode cX6_isComing 19 = .ok (.iconst 0, 1) := by decide +kernel
theorem dX6_isComing_20 : decode cX6_isComing 20 = .ok (.getstatic 122, 3) := by decide +kernel
theorem dX6_isComing_23 : decode cX6_isComing 23 = .ok (.iconst 2, 1) := by decide +kernel
theorem dX6_isComing_24 : decode cX6_isComing 24 = .ok (.iaload, 1) := by decide +kernel
theorem dX6_isComing_25 : decode cX6_isComing 25 = .ok (.invokestatic 67, 3) := by decide +kernel
theorem dX6_isComing_28 : decode cX6_isComing 28 = .ok (.ifCond .eq 7, 3) := by decide +kernel
theorem dX6_isComing_31 : decode cX6_isComing 31 = .ok (.iconst 1, 1) := by decide +kernel
theorem dX6_isComing_32 : decode cX6_isComing 32 = .ok (.goto 4, 3) := by decide +kernel
theorem dX6_isComing_35 : decode cX6_isComing 35 = .ok (.iconst 0, 1) := by decide +kernel
theorem dX6_isComing_36 : decode cX6_isComing 36 = .ok (.ireturn, 1) := by decide +kernel
theorem dX6_runAsTold_0 : decode cX6_runAsTold 0 = .ok (.aload_n 0, 1) := by decide +kernel
theorem dX6_runAsTold_1 : decode cX6_runAsTold 1 = .ok (.getfield 42, 3) := by decide +kernel
theorem dX6_runAsTold_4 : decode cX6_runAsTold 4 = .ok (.aload_n 1, 1) := by decide +kernel
theorem dX6_runAsTold_5 : decode cX6_runAsTold 5 = .ok (.aload_n 1, 1) := by decide +kernel
theorem dX6_runAsTold_6 : decode cX6_runAsTold 6 = .ok (.getfield 102, 3) := by decide +kernel
theorem dX6_runAsTold_9 : decode cX6_runAsTold 9 = .ok (.iconst 3, 1) := by decide +kernel
theorem dX6_runAsTold_10 : decode cX6_runAsTold 10 = .ok (.iaload, 1) := by decide +kernel
theorem dX6_runAsTold_11 : decode cX6_runAsTold 11 = .ok (.aload_n 1, 1) := by decide +kernel
theorem dX6_runAsTold_12 : decode cX6_runAsTold 12 = .ok (.getfield 99, 3) := by decide +kernel
theorem dX6_runAsTold_15 : decode cX6_runAsTold 15 = .ok (.iconst 0, 1) := by decide +kernel
theorem dX6_runAsTold_16 : decode cX6_runAsTold 16 = .ok (.invokevirtual 153, 3) := by decide +kernel
theorem dX6_runAsTold_19 : decode cX6_runAsTold 19 = .ok (.return_, 1) := by decide +kernel
theorem dX6_isBoat_0 : decode cX6_isBoat 0 = .ok (.iload_n 1, 1) := by decide +kernel
theorem dX6_isBoat_1 : decode cX6_isBoat 1 = .ok (.iconst 0, 1) := by decide +kernel
theorem dX6_isBoat_2 : decode cX6_isBoat 2 = .ok (.aload_n 0, 1) := by decide +kernel
theorem dX6_isBoat_3 : decode cX6_isBoat 3 = .ok (.getfield 10, 3) := by decide +kernel
theorem dX6_isBoat_6 : decode cX6_isBoat 6 = .ok (.getfield 96, 3) := by decide +kernel
theorem dX6_isBoat_9 : decode cX6_isBoat 9 = .ok (.iconst 1, 1) := by decide +kernel
theorem dX6_isBoat_10 : decode cX6_isBoat 10 = .ok (.isub, 1) := by decide +kernel
theorem dX6_isBoat_11 : decode cX6_isBoat 11 = .ok (.invokestatic 67, 3) := by decide +kernel
theorem dX6_isBoat_14 : decode cX6_isBoat 14 = .ok (.ireturn, 1) := by decide +kernel
theorem dX6_isPair_0 : decode cX6_isPair 0 = .ok (.aload_n 0, 1) := by decide +kernel
theorem dX6_isPair_1 : decode cX6_isPair 1 = .ok (.iload_n 1, 1) := by decide +kernel
theorem dX6_isPair_2 : decode cX6_isPair 2 = .ok (.invokevirtual 105, 3) := by decide +kernel
theorem dX6_isPair_5 : decode cX6_isPair 5 = .ok (.ifCond .eq 20, 3) := by decide +kernel
theorem dX6_isPair_8 : decode cX6_isPair 8 = .ok (.aload_n 0, 1) := by decide +kernel
theorem dX6_isPair_9 : decode cX6_isPair 9 = .ok (.iload_n 2, 1) := by decide +kernel
theorem dX6_isPair_10 : decode cX6_isPair 10 = .ok (.invokevirtual 105, 3) := by decide +kernel
theorem dX6_isPair_13 : decode cX6_isPair 13 = .ok (.ifCond .eq 12, 3) := by decide +kernel
theorem dX6_isPair_16 : decode cX6_isPair 16 = .ok (.iload_n 1, 1) := by decide +kernel
theorem dX6_isPair_17 : decode cX6_isPair 17 = .ok (.iload_n 2, 1) := by decide +kernel
theorem dX6_isPair_18 : decode cX6_isPair 18 = .ok (.if_icmp .eq 7, 3) := by decide +kernel
theorem dX6_isPair_21 : decode cX6_isPair 21 = .ok (.iconst 1, 1) := by decide +kernel
theorem dX6_isPair_22 : decode cX6_isPair 22 = .ok (.goto 4, 3) := by decide +kernel
theorem dX6_isPair_25 : decode cX6_isPair 25 = .ok (.iconst 0, 1) := by decide +kernel
theorem dX6_isPair_26 : decode cX6_isPair 26 = .ok (.ireturn, 1) := by decide +kernel
theorem dX6_liarSets_0 : decode cX6_liarSets 0 = .ok (.iconst 1, 1) := by decide +kernel
theorem dX6_liarSets_1 : decode cX6_liarSets 1 = .ok (.aload_n 0, 1) := by decide +kernel
theorem dX6_liarSets_2 : decode cX6_liarSets 2 = .ok (.getfield 10, 3) := by decide +kernel
theorem dX6_liarSets_5 : decode cX6_liarSets 5 = .ok (.getfield 96, 3) := by decide +kernel
theorem dX6_liarSets_8 : decode cX6_liarSets 8 = .ok (.ishl, 1) := by decide +kernel
theorem dX6_liarSets_9 : decode cX6_liarSets 9 = .ok (.ireturn, 1) := by decide +kernel
theorem dX6_isLaw_0 : decode cX6_isLaw 0 = .ok (.iload_n 0, 1) := by decide +kernel
theorem dX6_isLaw_1 : decode cX6_isLaw 1 = .ok (.iconst 0, 1) := by decide +kernel
theorem dX6_isLaw_2 : decode cX6_isLaw 2 = .ok (.iconst 4, 1) := by decide +kernel
theorem dX6_isLaw_3 : decode cX6_isLaw 3 = .ok (.invokestatic 67, 3) := by decide +kernel
theorem dX6_isLaw_6 : decode cX6_isLaw 6 = .ok (.ireturn, 1) := by decide +kernel
theorem dX6_isMeasure_0 : decode cX6_isMeasure 0 = .ok (.iload_n 0, 1) := by decide +kernel
theorem dX6_isMeasure_1 : decode cX6_isMeasure 1 = .ok (.iconst 0, 1) := by decide +kernel
theorem dX6_isMeasure_2 : decode cX6_isMeasure 2 = .ok (.iconst 4, 1) := by decide +kernel
theorem dX6_isMeasure_3 : decode cX6_isMeasure 3 = .ok (.invokestatic 67, 3) := by decide +kernel
theorem dX6_isMeasure_6 : decode cX6_isMeasure 6 = .ok (.ireturn, 1) := by decide +kernel
theorem dX6_isSheet_0 : decode cX6_isSheet 0 = .ok (.iload_n 0, 1) := by decide +kernel
theorem dX6_isSheet_1 : decode cX6_isSheet 1 = .ok (.iconst 0, 1) := by decide +kernel
theorem dX6_isSheet_2 : decode cX6_isSheet 2 = .ok (.iconst 3, 1) := by decide +kernel
theorem dX6_isSheet_3 : decode cX6_isSheet 3 = .ok (.invokestatic 67, 3) := by decide +kernel
theorem dX6_isSheet_6 : decode cX6_isSheet 6 = .ok (.ireturn, 1) := by decide +kernel
theorem dX6_hearsLies_0 : decode cX6_hearsLies 0 = .ok (.iload_n 0, 1) := by decide +kernel
theorem dX6_hearsLies_1 : decode cX6_hearsLies 1 = .ok (.iconst 3, 1) := by decide +kernel
theorem dX6_hearsLies_2 : decode cX6_hearsLies 2 = .ok (.if_icmp .ne 7, 3) := by decide +kernel
theorem dX6_hearsLies_5 : decode cX6_hearsLies 5 = .ok (.iconst 1, 1) := by decide +kernel
theorem dX6_hearsLies_6 : decode cX6_hearsLies 6 = .ok (.goto 4, 3) := by decide +kernel
theorem dX6_hearsLies_9 : decode cX6_hearsLies 9 = .ok (.iconst 0, 1) := by decide +kernel
theorem dX6_hearsLies_10 : decode cX6_hearsLies 10 = .ok (.ireturn, 1) := by decide +kernel
theorem dX6_otherSide_0 : decode cX6_otherSide 0 = .ok (.iload_n 0, 1) := by decide +kernel
theorem dX6_otherSide_1 : decode cX6_otherSide 1 = .ok (.ifCond .ne 7, 3) := by decide +kernel
theorem dX6_otherSide_4 : decode cX6_otherSide 4 = .ok (.iconst 1, 1) := by decide +kernel
theorem dX6_otherSide_5 : decode cX6_otherSide 5 = .ok (.goto 4, 3) := by decide +kernel
theorem dX6_otherSide_8 : decode cX6_otherSide 8 = .ok (.iconst 0, 1) := by decide +kernel
theorem dX6_otherSide_9 : decode cX6_otherSide 9 = .ok (.ireturn, 1) := by decide +kernel
theorem dX6_within_0 : decode cX6_within 0 = .ok (.iload_n 1, 1) := by decide +kernel
theorem dX6_within_1 : decode cX6_within 1 = .ok (.iload_n 0, 1) := by decide +kernel
theorem dX6_within_2 : decode cX6_within 2 = .ok (.if_icmp .gt 12, 3) := by decide +kernel
theorem dX6_within_5 : decode cX6_within 5 = .ok (.iload_n 0, 1) := by decide +kernel
theorem dX6_within_6 : decode cX6_within 6 = .ok (.iload_n 2, 1) := by decide +kernel
theorem dX6_within_7 : decode cX6_within 7 = .ok (.if_icmp .gt 7, 3) := by decide +kernel
theorem dX6_within_10 : decode cX6_within 10 = .ok (.iconst 1, 1) := by decide +kernel
theorem dX6_within_11 : decode cX6_within 11 = .ok (.goto 4, 3) := by decide +kernel
theorem dX6_within_14 : decode cX6_within 14 = .ok (.iconst 0, 1) := by decide +kernel
theorem dX6_within_15 : decode cX6_within 15 = .ok (.ireturn, 1) := by decide +kernel
end
section
theorem dX7_init_0 : decode cX7_init 0 = .ok (.aload_n 0, 1) := by decide +kernel
theorem dX7_init_1 : decode cX7_init 1 = .ok (.invokespecial 1, 3) := by decide +kernel
theorem dX7_init_4 : decode cX7_init 4 = .ok (.aload_n 0, 1) := by decide +kernel
theorem dX7_init_5 : decode cX7_init 5 = .ok (.sipush 165, 3) := by decide +kernel
theorem dX7_init_8 : decode cX7_init 8 = .ok (.newarray .int, 2) := by decide +kernel
theorem dX7_init_10 : decode cX7_init 10 = .ok (.putfield 7, 3) := by decide +kernel
theorem dX7_init_13 : decode cX7_init 13 = .ok (.aload_n 0, 1) := by decide +kernel
theorem dX7_init_14 : decode cX7_init 14 = .ok (.bipush 55, 2) := by decide +kernel
theorem dX7_init_16 : decode cX7_init 16 = .ok (.newarray .int, 2) := by decide +kernel
theorem dX7_init_18 : decode cX7_init 18 = .ok (.putfield 13, 3) := by decide +kernel
theorem dX7_init_21 : decode cX7_init 21 = .ok (.aload_n 0, 1) := by decide +kernel
theorem dX7_init_22 : decode cX7_init 22 = .ok (.iconst 2, 1) := by decide +kernel
theorem dX7_init_23 : decode cX7_init 23 = .ok (.newarray .boolean, 2) := by decide +kernel
theorem dX7_init_25 : decode cX7_init 25 = .ok (.putfield 16, 3) := by decide +kernel
theorem dX7_init_28 : decode cX7_init 28 = .ok (.aload_n 0, 1) := by decide +kernel
theorem dX7_init_29 : decode cX7_init 29 = .ok (.bipush 55, 2) := by decide +kernel
theorem dX7_init_31 : decode cX7_init 31 = .ok (.newarray .int, 2) := by decide +kernel
theorem dX7_init_33 : decode cX7_init 33 = .ok (.putfield 20, 3) := by decide +kernel
theorem dX7_init_36 : decode cX7_init 36 = .ok (.aload_n 0, 1) := by decide +kernel
theorem dX7_init_37 : decode cX7_init 37 = .ok (.sipush 160, 3) := by decide +kernel
theorem dX7_init_40 : decode cX7_init 40 = .ok (.newarray .int, 2) := by decide +kernel
theorem dX7_init_42 : decode cX7_init 42 = .ok (.putfield 23, 3) := by decide +kernel
theorem dX7_init_45 : decode cX7_init 45 = .ok (.aload_n 0, 1) := by decide +kernel
theorem dX7_init_46 : decode cX7_init 46 = .ok (.bipush 6, 2) := by decide +kernel
theorem dX7_init_48 : decode cX7_init 48 = .ok (.newarray .int, 2) := by decide +kernel
theorem dX7_init_50 : decode cX7_init 50 = .ok (.putfield 26, 3) := by decide +kernel
theorem dX7_init_53 : decode cX7_init 53 = .ok (.aload_n 0, 1) := by decide +kernel
theorem dX7_init_54 : decode cX7_init 54 = .ok (.bipush 6, 2) := by decide +kernel
theorem dX7_init_56 : decode cX7_init 56 = .ok (.newarray .int, 2) := by decide +kernel
theorem dX7_init_58 : decode cX7_init 58 = .ok (.putfield 29, 3) := by decide +kernel
theorem dX7_init_61 : decode cX7_init 61 = .ok (.aload_n 0, 1) := by decide +kernel
theorem dX7_init_62 : decode cX7_init 62 = .ok (.bipush 6, 2) := by decide +kernel
theorem dX7_init_64 : decode cX7_init 64 = .ok (.newarray .int, 2) := by decide +kernel
theorem dX7_init_66 : decode cX7_init 66 = .ok (.putfield 32, 3) := by decide +kernel
theorem dX7_init_69 : decode cX7_init 69 = .ok (.aload_n 0, 1) := by decide +kernel
theorem dX7_init_70 : decode cX7_init 70 = .ok (.bipush 6, 2) := by decide +kernel
theorem dX7_init_72 : decode cX7_init 72 = .ok (.newarray .int, 2) := by decide +kernel
theorem dX7_init_74 : decode cX7_init 74 = .ok (.putfield 35, 3) := by decide +kernel
theorem dX7_init_77 : decode cX7_init 77 = .ok (.aload_n 0, 1) := by decide +kernel
theorem dX7_init_78 : decode cX7_init 78 = .ok (.iconst 4, 1) := by decide +kernel
theorem dX7_init_79 : decode cX7_init 79 = .ok (.newarray .int, 2) := by decide +kernel
theorem dX7_init_81 : decode cX7_init 81 = .ok (.putfield 38, 3) := by decide +kernel
theorem dX7_init_84 : decode cX7_init 84 = .ok (.aload_n 0, 1) := by decide +kernel
theorem dX7_init_85 : decode cX7_init 85 = .ok (.iconst 4, 1) := by decide +kernel
theorem dX7_init_86 : decode cX7_init 86 = .ok (.newarray .int, 2) := by decide +kernel
theorem dX7_init_88 : decode cX7_init 88 = .ok (.putfield 41, 3) := by decide +kernel
theorem dX7_init_91 : decode cX7_init 91 = .ok (.aload_n 0, 1) := by decide +kernel
theorem dX7_init_92 : decode cX7_init 92 = .ok (.sipush 160, 3) := by decide +kernel
theorem dX7_init_95 : decode cX7_init 95 = .ok (.newarray .int, 2) := by decide +kernel
theorem dX7_init_97 : decode cX7_init 97 = .ok (.putfield 44, 3) := by decide +kernel
theorem dX7_init_100 : decode cX7_init 100 = .ok (.aload_n 0, 1) := by decide +kernel
theorem dX7_init_101 : decode cX7_init 101 = .ok (.bipush 55, 2) := by decide +kernel
theorem dX7_init_103 : decode cX7_init 103 = .ok (.newarray .int, 2) := by decide +kernel
theorem dX7_init_105 : decode cX7_init 105 = .ok (.putfield 47, 3) := by decide +kernel
theorem dX7_init_108 : decode cX7_init 108 = .ok (.iconst 0, 1) := by decide +kernel
theorem dX7_init_109 : decode cX7_init 109 = .ok (.istore_n 1, 1) := by decide +kernel
theorem dX7_init_110 : decode cX7_init 110 = .ok (.iload_n 1, 1) := by decide +kernel
theorem dX7_init_111 : decode cX7_init 111 = .ok (.iconst 4, 1) := by decide +kernel
theorem dX7_init_112 : decode cX7_init 112 = .ok (.if_icmp .ge 17, 3) := by decide +kernel
theorem dX7_init_115 : decode cX7_init 115 = .ok (.aload_n 0, 1) := by decide +kernel
theorem dX7_init_116 : decode cX7_init 116 = .ok (.getfield 38, 3) := by decide +kernel
theorem dX7_init_119 : decode cX7_init 119 = .ok (.iload_n 1, 1) := by decide +kernel
theorem dX7_init_120 : decode cX7_init 120 = .ok (.bipush (-4), 2) := by decide +kernel
theorem dX7_init_122 : decode cX7_init 122 = .ok (.iastore, 1) := by decide +kernel
theorem dX7_init_123 : decode cX7_init 123 = .ok (.iinc 1 1, 3) := by decide +kernel
theorem dX7_init_126 : decode cX7_init 126 = .ok (.goto (-16), 3) := by decide +kernel
theorem dX7_init_129 : decode cX7_init 129 = .ok (.aload_n 0, 1) := by decide +kernel
theorem dX7_init_130 : decode cX7_init 130 = .ok (.invokevirtual 50, 3) := by decide +kernel
theorem dX7_init_133 : decode cX7_init 133 = .ok (.aload_n 0, 1) := by decide +kernel
theorem dX7_init_134 : decode cX7_init 134 = .ok (.invokevirtual 53, 3) := by decide +kernel
theorem dX7_init_137 : decode cX7_init 137 = .ok (.return_, 1) := by decide +kernel
theorem dX7_in_0 : decode cX7_in 0 = .ok (.lload_n 0, 1) := by decide +kernel
theorem dX7_in_1 : decode cX7_in 1 = .ok (.lload_n 2, 1) := by decide +kernel
theorem dX7_in_2 : decode cX7_in 2 = .ok (.lcmp, 1) := by decide +kernel
theorem dX7_in_3 : decode cX7_in 3 = .ok (.ifCond .lt 14, 3) := by decide +kernel
theorem dX7_in_6 : decode cX7_in 6 = .ok (.lload_n 0, 1) := by decide +kernel
theorem dX7_in_7 : decode cX7_in 7 = .ok (.lload 4, 2) := by decide +kernel
theorem dX7_in_9 : decode cX7_in 9 = .ok (.lcmp, 1) := by decide +kernel
theorem dX7_in_10 : decode cX7_in 10 = .ok (.ifCond .gt 7, 3) := by decide +kernel
theorem dX7_in_13 : decode cX7_in 13 = .ok (.iconst 1, 1) := by decide +kernel
theorem dX7_in_14 : decode cX7_in 14 = .ok (.goto 4, 3) := by decide +kernel
theorem dX7_in_17 : decode cX7_in 17 = .ok (.iconst 0, 1) := by decide +kernel
theorem dX7_in_18 : decode cX7_in 18 = .ok (.ireturn, 1) := by decide +kernel
theorem dX7_flag_0 : decode cX7_flag 0 = .ok (.iload_n 0, 1) := by decide +kernel
theorem dX7_flag_1 : decode cX7_flag 1 = .ok (.ifCond .eq 7, 3) := by decide +kernel
theorem dX7_flag_4 : decode cX7_flag 4 = .ok (.iconst 1, 1) := by decide +kernel
theorem dX7_flag_5 : decode cX7_flag 5 = .ok (.goto 4, 3) := by decide +kernel
theorem dX7_flag_8 : decode cX7_flag 8 = .ok (.iconst 0, 1) := by decide +kernel
theorem dX7_flag_9 : decode cX7_flag 9 = .ok (.ireturn, 1) := by decide +kernel
theorem dX7_firstDraft_0 : decode cX7_firstDraft 0 = .ok (.iconst 0, 1) := by decide +kernel
theorem dX7_firstDraft_1 : decode cX7_firstDraft 1 = .ok (.istore_n 1, 1) := by decide +kernel
theorem dX7_firstDraft_2 : decode cX7_firstDraft 2 = .ok (.iload_n 1, 1) := by decide +kernel
theorem dX7_firstDraft_3 : decode cX7_firstDraft 3 = .ok (.bipush 55, 2) := by decide +kernel
theorem dX7_firstDraft_5 : decode cX7_firstDraft 5 = .ok (.if_icmp .ge 16, 3) := by decide +kernel
theorem dX7_firstDraft_8 : decode cX7_firstDraft 8 = .ok (.aload_n 0, 1) := by decide +kernel
theorem dX7_firstDraft_9 : decode cX7_firstDraft 9 = .ok (.getfield 20, 3) := by decide +kernel
theorem dX7_firstDraft_12 : decode cX7_firstDraft 12 = .ok (.iload_n 1, 1) := by decide +kernel
theorem dX7_firstDraft_13 : decode cX7_firstDraft 13 = .ok (.iconst 0, 1) := by decide +kernel
theorem dX7_firstDraft_14 : decode cX7_firstDraft 14 = .ok (.iastore, 1) := by decide +kernel
theorem dX7_firstDraft_15 : decode cX7_firstDraft 15 = .ok (.iinc 1 1, 3) := by decide +kernel
theorem dX7_firstDraft_18 : decode cX7_firstDraft 18 = .ok (.goto (-16), 3) := by decide +kernel
theorem dX7_firstDraft_21 : decode cX7_firstDraft 21 = .ok (.aload_n 0, 1) := by decide +kernel
theorem dX7_firstDraft_22 : decode cX7_firstDraft 22 = .ok (.getfield 20, 3) := by decide +kernel
theorem dX7_firstDraft_25 : decode cX7_firstDraft 25 = .ok (.iconst 0, 1) := by decide +kernel
theorem dX7_firstDraft_26 : decode cX7_firstDraft 26 = .ok (.iconst 5, 1) := by decide +kernel
theorem dX7_firstDraft_27 : decode cX7_firstDraft 27 = .ok (.iastore, 1) := by decide +kernel
theorem dX7_firstDraft_28 : decode cX7_firstDraft 28 = .ok (.aload_n 0, 1) := by decide +kernel
theorem dX7_firstDraft_29 : decode cX7_firstDraft 29 = .ok (.getfield 20, 3) := by decide +kernel
theorem dX7_firstDraft_32 : decode cX7_firstDraft 32 = .ok (.iconst 1, 1) := by decide +kernel
theorem dX7_firstDraft_33 : decode cX7_firstDraft 33 = .ok (.iconst 2, 1) := by decide +kernel
theorem dX7_firstDraft_34 : decode cX7_firstDraft 34 = .ok (.iastore, 1) := by decide +kernel
theorem dX7_firstDraft_35 : decode cX7_firstDraft 35 = .ok (.aload_n 0, 1) := by decide +kernel
theorem dX7_firstDraft_36 : decode cX7_firstDraft 36 = .ok (.iconst 0, 1) := by decide +kernel
theorem dX7_firstDraft_37 : decode cX7_firstDraft 37 = .ok (.putfield 56, 3) := by decide +kernel
theorem dX7_firstDraft_40 : decode cX7_firstDraft 40 = .ok (.aload_n 0, 1) := by decide +kernel
theorem dX7_firstDraft_41 : decode cX7_firstDraft 41 = .ok (.iconst 0, 1) := by decide +kernel
theorem dX7_firstDraft_42 : decode cX7_firstDraft 42 = .ok (.putfield 60, 3) := by decide +kernel
theorem dX7_firstDraft_45 : decode cX7_firstDraft 45 = .ok (.aload_n 0, 1) := by decide +kernel
theorem dX7_firstDraft_46 : decode cX7_firstDraft 46 = .ok (.iconst 0, 1) := by decide +kernel
theorem dX7_firstDraft_47 : decode cX7_firstDraft 47 = .ok (.putfield 63, 3) := by decide +kernel
theorem dX7_firstDraft_50 : decode cX7_firstDraft 50 = .ok (.aload_n 0, 1) := by decide +kernel
theorem dX7_firstDraft_51 : decode cX7_firstDraft 51 = .ok (.bipush (-4), 2) := by decide +kernel
theorem dX7_firstDraft_53 : decode cX7_firstDraft 53 = .ok (.putfield 66, 3) := by decide +kernel
theorem dX7_firstDraft_56 : decode cX7_firstDraft 56 = .ok (.return_, 1) := by decide +kernel
theorem dX7_keepDraft_0 : decode cX7_keepDraft 0 = .ok (.iconst 0, 1) := by decide +kernel
theorem dX7_keepDraft_1 : decode cX7_keepDraft 1 = .ok (.istore_n 1, 1) := by decide +kernel
theorem dX7_keepDraft_2 : decode cX7_keepDraft 2 = .ok (.iload_n 1, 1) := by decide +kernel
theorem dX7_keepDraft_3 : decode cX7_keepDraft 3 = .ok (.bipush 55, 2) := by decide +kernel
theorem dX7_keepDraft_5 : decode cX7_keepDraft 5 = .ok (.if_icmp .ge 21, 3) := by decide +kernel
theorem dX7_keepDraft_8 : decode cX7_keepDraft 8 = .ok (.aload_n 0, 1) := by decide +kernel
theorem dX7_keepDraft_9 : decode cX7_keepDraft 9 = .ok (.getfield 7, 3) := by decide +kernel
theorem dX7_keepDraft_12 : decode cX7_keepDraft 12 = .ok (.iload_n 1, 1) := by decide +kernel
theorem dX7_keepDraft_13 : decode cX7_keepDraft 13 = .ok (.aload_n 0, 1) := by decide +kernel
theorem dX7_keepDraft_14 : decode cX7_keepDraft 14 = .ok (.getfield 20, 3) := by decide +kernel
theorem dX7_keepDraft_17 : decode cX7_keepDraft 17 = .ok (.iload_n 1, 1) := by decide +kernel
theorem dX7_keepDraft_18 : decode cX7_keepDraft 18 = .ok (.iaload, 1) := by decide +kernel
theorem dX7_keepDraft_19 : decode cX7_keepDraft 19 = .ok (.iastore, 1) := by decide +kernel
theorem dX7_keepDraft_20 : decode cX7_keepDraft 20 = .ok (.iinc 1 1, 3) := by decide +kernel
theorem dX7_keepDraft_23 : decode cX7_keepDraft 23 = .ok (.goto (-21), 3) := by decide +kernel
theorem dX7_keepDraft_26 : decode cX7_keepDraft 26 = .ok (.aload_n 0, 1) := by decide +kernel
theorem dX7_keepDraft_27 : decode cX7_keepDraft 27 = .ok (.aload_n 0, 1) := by decide +kernel
theorem dX7_keepDraft_28 : decode cX7_keepDraft 28 = .ok (.getfield 56, 3) := by decide +kernel
theorem dX7_keepDraft_31 : decode cX7_keepDraft 31 = .ok (.putfield 69, 3) := by decide +kernel
theorem dX7_keepDraft_34 : decode cX7_keepDraft 34 = .ok (.iconst 0, 1) := by decide +kernel
theorem dX7_keepDraft_35 : decode cX7_keepDraft 35 = .ok (.istore_n 1, 1) := by decide +kernel
theorem dX7_keepDraft_36 : decode cX7_keepDraft 36 = .ok (.iload_n 1, 1) := by decide +kernel
theorem dX7_keepDraft_37 : decode cX7_keepDraft 37 = .ok (.bipush 6, 2) := by decide +kernel
theorem dX7_keepDraft_39 : decode cX7_keepDraft 39 = .ok (.if_icmp .ge 43, 3) := by decide +kernel
theorem dX7_keepDraft_42 : decode cX7_keepDraft 42 = .ok (.aload_n 0, 1) := by decide +kernel
theorem dX7_keepDraft_43 : decode cX7_keepDraft 43 = .ok (.getfield 7, 3) := by decide +kernel
theorem dX7_keepDraft_46 : decode cX7_keepDraft 46 = .ok (.bipush 6, 2) := by decide +kernel
theorem dX7_keepDraft_48 : decode cX7_keepDraft 48 = .ok (.bipush 6, 2) := by decide +kernel
theorem dX7_keepDraft_50 : decode cX7_keepDraft 50 = .ok (.iload_n 1, 1) := by decide +kernel
theorem dX7_keepDraft_51 : decode cX7_keepDraft 51 = .ok (.imul, 1) := by decide +kernel
theorem dX7_keepDraft_52 : decode cX7_keepDraft 52 = .ok (.iadd, 1) := by decide +kernel
theorem dX7_keepDraft_53 : decode cX7_keepDraft 53 = .ok (.iconst 5, 1) := by decide +kernel
theorem dX7_keepDraft_54 : decode cX7_keepDraft 54 = .ok (.iadd, 1) := by decide +kernel
theorem dX7_keepDraft_55 : decode cX7_keepDraft 55 = .ok (.iload_n 1, 1) := by decide +kernel
theorem dX7_keepDraft_56 : decode cX7_keepDraft 56 = .ok (.aload_n 0, 1) := by decide +kernel
theorem dX7_keepDraft_57 : decode cX7_keepDraft 57 = .ok (.getfield 69, 3) := by decide +kernel
theorem dX7_keepDraft_60 : decode cX7_keepDraft 60 = .ok (.if_icmp .ge 14, 3) := by decide +kernel
theorem dX7_keepDraft_63 : decode cX7_keepDraft 63 = .ok (.aload_n 0, 1) := by decide +kernel
theorem dX7_keepDraft_64 : decode cX7_keepDraft 64 = .ok (.getfield 63, 3) := by decide +kernel
theorem dX7_keepDraft_67 : decode cX7_keepDraft 67 = .ok (.iload_n 1, 1) := by decide +kernel
theorem dX7_keepDraft_68 : decode cX7_keepDraft 68 = .ok (.ishr, 1) := by decide +kernel
theorem dX7_keepDraft_69 : decode cX7_keepDraft 69 = .ok (.iconst 1, 1) := by decide +kernel
theorem dX7_keepDraft_70 : decode cX7_keepDraft 70 = .ok (.iand, 1) := by decide +kernel
theorem dX7_keepDraft_71 : decode cX7_keepDraft 71 = .ok (.goto 4, 3) := by decide +kernel
theorem dX7_keepDraft_74 : decode cX7_keepDraft 74 = .ok (.iconst 0, 1) := by decide +kernel
theorem dX7_keepDraft_75 : decode cX7_keepDraft 75 = .ok (.iastore, 1) := by decide +kernel
theorem dX7_keepDraft_76 : decode cX7_keepDraft 76 = .ok (.iinc 1 1, 3) := by decide +kernel
theorem dX7_keepDraft_79 : decode cX7_keepDraft 79 = .ok (.goto (-43), 3) := by decide +kernel
theorem dX7_keepDraft_82 : decode cX7_keepDraft 82 = .ok (.aload_n 0, 1) := by decide +kernel
theorem dX7_keepDraft_83 : decode cX7_keepDraft 83 = .ok (.getfield 16, 3) := by decide +kernel
theorem dX7_keepDraft_86 : decode cX7_keepDraft 86 = .ok (.iconst 0, 1) := by decide +kernel
theorem dX7_keepDraft_87 : decode cX7_keepDraft 87 = .ok (.iconst 0, 1) := by decide +kernel
theorem dX7_keepDraft_88 : decode cX7_keepDraft 88 = .ok (.bastore, 1) := by decide +kernel
theorem dX7_keepDraft_89 : decode cX7_keepDraft 89 = .ok (.aload_n 0, 1) := by decide +kernel
theorem dX7_keepDraft_90 : decode cX7_keepDraft 90 = .ok (.getfield 16, 3) := by decide +kernel
theorem dX7_keepDraft_93 : decode cX7_keepDraft 93 = .ok (.iconst 1, 1) := by decide +kernel
theorem dX7_keepDraft_94 : decode cX7_keepDraft 94 = .ok (.iconst 0, 1) := by decide +kernel
theorem dX7_keepDraft_95 : decode cX7_keepDraft 95 = .ok (.bastore, 1) := by decide +kernel
theorem dX7_keepDraft_96 : decode cX7_keepDraft 96 = .ok (.return_, 1) := by decide +kernel
theorem dX7_feed_0 : decode cX7_feed 0 = .ok (.iload_n 1, 1) := by decide +kernel
theorem dX7_feed_1 : decode cX7_feed 1 = .ok (.i2l, 1) := by decide +kernel
theorem dX7_feed_2 : decode cX7_feed 2 = .ok (.lconst 0, 1) := by decide +kernel
theorem dX7_feed_3 : decode cX7_feed 3 = .ok (.ldc2_w 72, 3) := by decide +kernel
theorem dX7_feed_6 : decode cX7_feed 6 = .ok (.invokestatic 74, 3) := by decide +kernel
theorem dX7_feed_9 : decode cX7_feed 9 = .ok (.ifCond .ne 5, 3) := by decide +kernel
theorem dX7_feed_12 : decode cX7_feed 12 = .ok (.iconst (-1), 1) := by decide +kernel
theorem dX7_feed_13 : decode cX7_feed 13 = .ok (.ireturn, 1) := by decide +kernel
theorem dX7_feed_14 : decode cX7_feed 14 = .ok (.aload_n 0, 1) := by decide +kernel
theorem dX7_feed_15 : decode cX7_feed 15 = .ok (.getfield 78, 3) := by decide +kernel
theorem dX7_feed_18 : decode cX7_feed 18 = .ok (.sipush 160, 3) := by decide +kernel
theorem dX7_feed_21 : decode cX7_feed 21 = .ok (.if_icmp .ne 6, 3) := by decide +kernel
theorem dX7_feed_24 : decode cX7_feed 24 = .ok (.bipush (-3), 2) := by decide +kernel
theorem dX7_feed_26 : decode cX7_feed 26 = .ok (.ireturn, 1) := by decide +kernel
theorem dX7_feed_27 : decode cX7_feed 27 = .ok (.aload_n 0, 1) := by decide +kernel
theorem dX7_feed_28 : decode cX7_feed 28 = .ok (.getfield 23, 3) := by decide +kernel
theorem dX7_feed_31 : decode cX7_feed 31 = .ok (.aload_n 0, 1) := by decide +kernel
theorem dX7_feed_32 : decode cX7_feed 32 = .ok (.getfield 78, 3) := by decide +kernel
theorem dX7_feed_35 : decode cX7_feed 35 = .ok (.iload_n 1, 1) := by decide +kernel
theorem dX7_feed_36 : decode cX7_feed 36 = .ok (.iastore, 1) := by decide +kernel
theorem dX7_feed_37 : decode cX7_feed 37 = .ok (.aload_n 0, 1) := by decide +kernel
theorem dX7_feed_38 : decode cX7_feed 38 = .ok (.dup, 1) := by decide +kernel
theorem dX7_feed_39 : decode cX7_feed 39 = .ok (.getfield 78, 3) := by decide +kernel
theorem dX7_feed_42 : decode cX7_feed 42 = .ok (.iconst 1, 1) := by decide +kernel
theorem dX7_feed_43 : decode cX7_feed 43 = .ok (.iadd, 1) := by decide +kernel
theorem dX7_feed_44 : decode cX7_feed 44 = .ok (.putfield 78, 3) := by decide +kernel
theorem dX7_feed_47 : decode cX7_feed 47 = .ok (.aload_n 0, 1) := by decide +kernel
theorem dX7_feed_48 : decode cX7_feed 48 = .ok (.getfield 78, 3) := by decide +kernel
theorem dX7_feed_51 : decode cX7_feed 51 = .ok (.ireturn, 1) := by decide +kernel
theorem dX7_end_0 : decode cX7_end 0 = .ok (.iload_n 1, 1) := by decide +kernel
theorem dX7_end_1 : decode cX7_end 1 = .ok (.i2l, 1) := by decide +kernel
theorem dX7_end_2 : decode cX7_end 2 = .ok (.lconst 0, 1) := by decide +kernel
theorem dX7_end_3 : decode cX7_end 3 = .ok (.aload_n 0, 1) := by decide +kernel
theorem dX7_end_4 : decode cX7_end 4 = .ok (.getfield 78, 3) := by decide +kernel
theorem dX7_end_7 : decode cX7_end 7 = .ok (.i2l, 1) := by decide +kernel
theorem dX7_end_8 : decode cX7_end 8 = .ok (.invokestatic 74, 3) := by decide +kernel
theorem dX7_end_11 : decode cX7_end 11 = .ok (.ifCond .ne 5, 3) := by decide +kernel
theorem dX7_end_14 : decode cX7_end 14 = .ok (.iconst (-1), 1) := by decide +kernel
theorem dX7_end_15 : decode cX7_end 15 = .ok (.ireturn, 1) := by decide +kernel
theorem dX7_end_16 : decode cX7_end 16 = .ok (.aload_n 0, 1) := by decide +kernel
theorem dX7_end_17 : decode cX7_end 17 = .ok (.getfield 78, 3) := by decide +kernel
theorem dX7_end_20 : decode cX7_end 20 = .ok (.istore_n 2, 1) := by decide +kernel
theorem dX7_end_21 : decode cX7_end 21 = .ok (.aload_n 0, 1) := by decide +kernel
theorem dX7_end_22 : decode cX7_end 22 = .ok (.iload_n 1, 1) := by decide +kernel
theorem dX7_end_23 : decode cX7_end 23 = .ok (.putfield 78, 3) := by decide +kernel
theorem dX7_end_26 : decode cX7_end 26 = .ok (.iload_n 2, 1) := by decide +kernel
theorem dX7_end_27 : decode cX7_end 27 = .ok (.ireturn, 1) := by decide +kernel
theorem dX7_needs_0 : decode cX7_needs 0 = .ok (.iload_n 1, 1) := by decide +kernel
theorem dX7_needs_1 : decode cX7_needs 1 = .ok (.ifCond .ne 23, 3) := by decide +kernel
theorem dX7_needs_4 : decode cX7_needs 4 = .ok (.aload_n 0, 1) := by decide +kernel
theorem dX7_needs_5 : decode cX7_needs 5 = .ok (.getfield 81, 3) := by decide +kernel
theorem dX7_needs_8 : decode cX7_needs 8 = .ok (.ifCond .ne 16, 3) := by decide +kernel
theorem dX7_needs_11 : decode cX7_needs 11 = .ok (.aload_n 0, 1) := by decide +kernel
theorem dX7_needs_12 : decode cX7_needs 12 = .ok (.iload_n 2, 1) := by decide +kernel
theorem dX7_needs_13 : decode cX7_needs 13 = .ok (.putfield 81, 3) := by decide +kernel
theorem dX7_needs_16 : decode cX7_needs 16 = .ok (.aload_n 0, 1) := by decide +kernel
theorem dX7_needs_17 : decode cX7_needs 17 = .ok (.aload_n 0, 1) := by decide +kernel
theorem dX7_needs_18 : decode cX7_needs 18 = .ok (.getfield 84, 3) := by decide +kernel
theorem dX7_needs_21 : decode cX7_needs 21 = .ok (.putfield 87, 3) := by decide +kernel
theorem dX7_needs_24 : decode cX7_needs 24 = .ok (.return_, 1) := by decide +kernel
theorem dX7_byteAt_0 : decode cX7_byteAt 0 = .ok (.iload_n 1, 1) := by decide +kernel
theorem dX7_byteAt_1 : decode cX7_byteAt 1 = .ok (.aload_n 0, 1) := by decide +kernel
theorem dX7_byteAt_2 : decode cX7_byteAt 2 = .ok (.getfield 78, 3) := by decide +kernel
theorem dX7_byteAt_5 : decode cX7_byteAt 5 = .ok (.if_icmp .ge 12, 3) := by decide +kernel
theorem dX7_byteAt_8 : decode cX7_byteAt 8 = .ok (.aload_n 0, 1) := by decide +kernel
theorem dX7_byteAt_9 : decode cX7_byteAt 9 = .ok (.getfield 23, 3) := by decide +kernel
theorem dX7_byteAt_12 : decode cX7_byteAt 12 = .ok (.iload_n 1, 1) := by decide +kernel
theorem dX7_byteAt_13 : decode cX7_byteAt 13 = .ok (.iaload, 1) := by decide +kernel
theorem dX7_byteAt_14 : decode cX7_byteAt 14 = .ok (.goto 4, 3) := by decide +kernel
theorem dX7_byteAt_17 : decode cX7_byteAt 17 = .ok (.iconst (-1), 1) := by decide +kernel
theorem dX7_byteAt_18 : decode cX7_byteAt 18 = .ok (.ireturn, 1) := by decide +kernel
theorem dX7_is_0 : decode cX7_is 0 = .ok (.aload_n 0, 1) := by decide +kernel
theorem dX7_is_1 : decode cX7_is 1 = .ok (.getfield 90, 3) := by decide +kernel
theorem dX7_is_4 : decode cX7_is 4 = .ok (.aload_n 0, 1) := by decide +kernel
theorem dX7_is_5 : decode cX7_is 5 = .ok (.getfield 84, 3) := by decide +kernel
theorem dX7_is_8 : decode cX7_is 8 = .ok (.isub, 1) := by decide +kernel
theorem dX7_is_9 : decode cX7_is 9 = .ok (.iload_n 1, 1) := by decide +kernel
theorem dX7_is_10 : decode cX7_is 10 = .ok (.if_icmp .ne 68, 3) := by decide +kernel
theorem dX7_is_13 : decode cX7_is 13 = .ok (.aload_n 0, 1) := by decide +kernel
theorem dX7_is_14 : decode cX7_is 14 = .ok (.aload_n 0, 1) := by decide +kernel
theorem dX7_is_15 : decode cX7_is 15 = .ok (.getfield 84, 3) := by decide +kernel
theorem dX7_is_18 : decode cX7_is 18 = .ok (.invokevirtual 93, 3) := by decide +kernel
theorem dX7_is_21 : decode cX7_is 21 = .ok (.iload_n 2, 1) := by decide +kernel
theorem dX7_is_22 : decode cX7_is 22 = .ok (.if_icmp .ne 56, 3) := by decide +kernel
theorem dX7_is_25 : decode cX7_is 25 = .ok (.aload_n 0, 1) := by decide +kernel
theorem dX7_is_26 : decode cX7_is 26 = .ok (.aload_n 0, 1) := by decide +kernel
theorem dX7_is_27 : decode cX7_is 27 = .ok (.getfield 84, 3) := by decide +kernel
theorem dX7_is_30 : decode cX7_is 30 = .ok (.iconst 1, 1) := by decide +kernel
theorem dX7_is_31 : decode cX7_is 31 = .ok (.iadd, 1) := by decide +kernel
theorem dX7_is_32 : decode cX7_is 32 = .ok (.invokevirtual 93, 3) := by decide +kernel
theorem dX7_is_35 : decode cX7_is 35 = .ok (.iload_n 3, 1) := by decide +kernel
theorem dX7_is_36 : decode cX7_is 36 = .ok (.if_icmp .ne 42, 3) := by decide +kernel
theorem dX7_is_39 : decode cX7_is 39 = .ok (.aload_n 0, 1) := by decide +kernel
theorem dX7_is_40 : decode cX7_is 40 = .ok (.aload_n 0, 1) := by decide +kernel
theorem dX7_is_41 : decode cX7_is 41 = .ok (.getfield 84, 3) := by decide +kernel
theorem dX7_is_44 : decode cX7_is 44 = .ok (.iconst 2, 1) := by decide +kernel
theorem dX7_is_45 : decode cX7_is 45 = .ok (.iadd, 1) := by decide +kernel
theorem dX7_is_46 : decode cX7_is 46 = .ok (.invokevirtual 93, 3) := by decide +kernel
theorem dX7_is_49 : decode cX7_is 49 = .ok (.iload 4, 2) := by decide +kernel
theorem dX7_is_51 : decode cX7_is 51 = .ok (.if_icmp .ne 27, 3) := by decide +kernel
theorem dX7_is_54 : decode cX7_is 54 = .ok (.iload 5, 2) := by decide +kernel
theorem dX7_is_56 : decode cX7_is 56 = .ok (.ifCond .eq 18, 3) := by decide +kernel
theorem dX7_is_59 : decode cX7_is 59 = .ok (.aload_n 0, 1) := by decide +kernel
theorem dX7_is_60 : decode cX7_is 60 = .ok (.aload_n 0, 1) := by decide +kernel
theorem dX7_is_61 : decode cX7_is 61 = .ok (.getfield 84, 3) := by decide +kernel
theorem dX7_is_64 : decode cX7_is 64 = .ok (.iconst 3, 1) := by decide +kernel
theorem dX7_is_65 : decode cX7_is 65 = .ok (.iadd, 1) := by decide +kernel
theorem dX7_is_66 : decode cX7_is 66 = .ok (.invokevirtual 93, 3) := by decide +kernel
theorem dX7_is_69 : decode cX7_is 69 = .ok (.iload 5, 2) := by decide +kernel
theorem dX7_is_71 : decode cX7_is 71 = .ok (.if_icmp .ne 7, 3) := by decide +kernel
theorem dX7_is_74 : decode cX7_is 74 = .ok (.iconst 1, 1) := by decide +kernel
theorem dX7_is_75 : decode cX7_is 75 = .ok (.goto 4, 3) := by decide +kernel
theorem dX7_is_78 : decode cX7_is 78 = .ok (.iconst 0, 1) := by decide +kernel
theorem dX7_is_79 : decode cX7_is 79 = .ok (.ireturn, 1) := by decide +kernel
theorem dX7_endsWith_0 : decode cX7_endsWith 0 = .ok (.aload_n 0, 1) := by decide +kernel
theorem dX7_endsWith_1 : decode cX7_endsWith 1 = .ok (.aload_n 0, 1) := by decide +kernel
theorem dX7_endsWith_2 : decode cX7_endsWith 2 = .ok (.getfield 84, 3) := by decide +kernel
theorem dX7_endsWith_5 : decode cX7_endsWith 5 = .ok (.iconst 4, 1) := by decide +kernel
theorem dX7_endsWith_6 : decode cX7_endsWith 6 = .ok (.iadd, 1) := by decide +kernel
theorem dX7_endsWith_7 : decode cX7_endsWith 7 = .ok (.invokevirtual 93, 3) := by decide +kernel
theorem dX7_endsWith_10 : decode cX7_endsWith 10 = .ok (.iload_n 1, 1) := by decide +kernel
theorem dX7_endsWith_11 : decode cX7_endsWith 11 = .ok (.if_icmp .ne 7, 3) := by decide +kernel
theorem dX7_endsWith_14 : decode cX7_endsWith 14 = .ok (.iconst 1, 1) := by decide +kernel
theorem dX7_endsWith_15 : decode cX7_endsWith 15 = .ok (.goto 4, 3) := by decide +kernel
theorem dX7_endsWith_18 : decode cX7_endsWith 18 = .ok (.iconst 0, 1) := by decide +kernel
theorem dX7_endsWith_19 : decode cX7_endsWith 19 = .ok (.ireturn, 1) := by decide +kernel
theorem dX7_lineNow_0 : decode cX7_lineNow 0 = .ok (.aload_n 0, 1) := by decide +kernel
theorem dX7_lineNow_1 : decode cX7_lineNow 1 = .ok (.iconst 5, 1) := by decide +kernel
theorem dX7_lineNow_2 : decode cX7_lineNow 2 = .ok (.bipush 97, 2) := by decide +kernel
theorem dX7_lineNow_4 : decode cX7_lineNow 4 = .ok (.bipush 98, 2) := by decide +kernel
theorem dX7_lineNow_6 : decode cX7_lineNow 6 = .ok (.bipush 111, 2) := by decide +kernel
theorem dX7_lineNow_8 : decode cX7_lineNow 8 = .ok (.bipush 118, 2) := by decide +kernel
theorem dX7_lineNow_10 : decode cX7_lineNow 10 = .ok (.invokevirtual 97, 3) := by decide +kernel
theorem dX7_lineNow_13 : decode cX7_lineNow 13 = .ok (.ifCond .eq 14, 3) := by decide +kernel
theorem dX7_lineNow_16 : decode cX7_lineNow 16 = .ok (.aload_n 0, 1) := by decide +kernel
theorem dX7_lineNow_17 : decode cX7_lineNow 17 = .ok (.bipush 101, 2) := by decide +kernel
theorem dX7_lineNow_19 : decode cX7_lineNow 19 = .ok (.invokevirtual 101, 3) := by decide +kernel
theorem dX7_lineNow_22 : decode cX7_lineNow 22 = .ok (.ifCond .eq 5, 3) := by decide +kernel
theorem dX7_lineNow_25 : decode cX7_lineNow 25 = .ok (.iconst 0, 1) := by decide +kernel
theorem dX7_lineNow_26 : decode cX7_lineNow 26 = .ok (.ireturn, 1) := by decide +kernel
theorem dX7_lineNow_27 : decode cX7_lineNow 27 = .ok (.aload_n 0, 1) := by decide +kernel
theorem dX7_lineNow_28 : decode cX7_lineNow 28 = .ok (.iconst 5, 1) := by decide +kernel
theorem dX7_lineNow_29 : decode cX7_lineNow 29 = .ok (.bipush 98, 2) := by decide +kernel
theorem dX7_lineNow_31 : decode cX7_lineNow 31 = .ok (.bipush 101, 2) := by decide +kernel
theorem dX7_lineNow_33 : decode cX7_lineNow 33 = .ok (.bipush 108, 2) := by decide +kernel
theorem dX7_lineNow_35 : decode cX7_lineNow 35 = .ok (.bipush 111, 2) := by decide +kernel
theorem dX7_lineNow_37 : decode cX7_lineNow 37 = .ok (.invokevirtual 97, 3) := by decide +kernel
theorem dX7_lineNow_40 : decode cX7_lineNow 40 = .ok (.ifCond .eq 14, 3) := by decide +kernel
theorem dX7_lineNow_43 : decode cX7_lineNow 43 = .ok (.aload_n 0, 1) := by decide +kernel
theorem dX7_lineNow_44 : decode cX7_lineNow 44 = .ok (.bipush 119, 2) := by decide +kernel
theorem dX7_lineNow_46 : decode cX7_lineNow 46 = .ok (.invokevirtual 101, 3) := by decide +kernel
theorem dX7_lineNow_49 : decode cX7_lineNow 49 = .ok (.ifCond .eq 5, 3) := by decide +kernel
theorem dX7_lineNow_52 : decode cX7_lineNow 52 = .ok (.iconst 1, 1) := by decide +kernel
theorem dX7_lineNow_53 : decode cX7_lineNow 53 = .ok (.ireturn, 1) := by decide +kernel
theorem dX7_lineNow_54 : decode cX7_lineNow 54 = .ok (.aload_n 0, 1) := by decide +kernel
theorem dX7_lineNow_55 : decode cX7_lineNow 55 = .ok (.iconst 4, 1) := by decide +kernel
theorem dX7_lineNow_56 : decode cX7_lineNow 56 = .ok (.bipush 108, 2) := by decide +kernel
theorem dX7_lineNow_58 : decode cX7_lineNow 58 = .ok (.bipush 111, 2) := by decide +kernel
theorem dX7_lineNow_60 : decode cX7_lineNow 60 = .ok (.bipush 99, 2) := by decide +kernel
theorem dX7_lineNow_62 : decode cX7_lineNow 62 = .ok (.bipush 107, 2) := by decide +kernel
theorem dX7_lineNow_64 : decode cX7_lineNow 64 = .ok (.invokevirtual 97, 3) := by decide +kernel
theorem dX7_lineNow_67 : decode cX7_lineNow 67 = .ok (.ifCond .eq 5, 3) := by decide +kernel
theorem dX7_lineNow_70 : decode cX7_lineNow 70 = .ok (.iconst 2, 1) := by decide +kernel
theorem dX7_lineNow_71 : decode cX7_lineNow 71 = .ok (.ireturn, 1) := by decide +kernel
theorem dX7_lineNow_72 : decode cX7_lineNow 72 = .ok (.aload_n 0, 1) := by decide +kernel
theorem dX7_lineNow_73 : decode cX7_lineNow 73 = .ok (.iconst 3, 1) := by decide +kernel
theorem dX7_lineNow_74 : decode cX7_lineNow 74 = .ok (.bipush 108, 2) := by decide +kernel
theorem dX7_lineNow_76 : decode cX7_lineNow 76 = .ok (.bipush 97, 2) := by decide +kernel
theorem dX7_lineNow_78 : decode cX7_lineNow 78 = .ok (.bipush 119, 2) := by decide +kernel
theorem dX7_lineNow_80 : decode cX7_lineNow 80 = .ok (.iconst 0, 1) := by decide +kernel
theorem dX7_lineNow_81 : decode cX7_lineNow 81 = .ok (.invokevirtual 97, 3) := by decide +kernel
theorem dX7_lineNow_84 : decode cX7_lineNow 84 = .ok (.ifCond .eq 5, 3) := by decide +kernel
theorem dX7_lineNow_87 : decode cX7_lineNow 87 = .ok (.iconst 3, 1) := by decide +kernel
theorem dX7_lineNow_88 : decode cX7_lineNow 88 = .ok (.ireturn, 1) := by decide +kernel
theorem dX7_lineNow_89 : decode cX7_lineNow 89 = .ok (.aload_n 0, 1) := by decide +kernel
theorem dX7_lineNow_90 : decode cX7_lineNow 90 = .ok (.iconst 4, 1) := by decide +kernel
theorem dX7_lineNow_91 : decode cX7_lineNow 91 = .ok (.bipush 112, 2) := by decide +kernel
theorem dX7_lineNow_93 : decode cX7_lineNow 93 = .ok (.bipush 111, 2) := by decide +kernel
theorem dX7_lineNow_95 : decode cX7_lineNow 95 = .ok (.bipush 115, 2) := by decide +kernel
theorem dX7_lineNow_97 : decode cX7_lineNow 97 = .ok (.bipush 116, 2) := by decide +kernel
theorem dX7_lineNow_99 : decode cX7_lineNow 99 = .ok (.invokevirtual 97, 3) := by decide +kernel
theorem dX7_lineNow_102 : decode cX7_lineNow 102 = .ok (.ifCond .eq 5, 3) := by decide +kernel
theorem dX7_lineNow_105 : decode cX7_lineNow 105 = .ok (.iconst 4, 1) := by decide +kernel
theorem dX7_lineNow_106 : decode cX7_lineNow 106 = .ok (.ireturn, 1) := by decide +kernel
theorem dX7_lineNow_107 : decode cX7_lineNow 107 = .ok (.aload_n 0, 1) := by decide +kernel
theorem dX7_lineNow_108 : decode cX7_lineNow 108 = .ok (.iconst 4, 1) := by decide +kernel
theorem dX7_lineNow_109 : decode cX7_lineNow 109 = .ok (.bipush 104, 2) := by decide +kernel
theorem dX7_lineNow_111 : decode cX7_lineNow 111 = .ok (.bipush 97, 2) := by decide +kernel
theorem dX7_lineNow_113 : decode cX7_lineNow 113 = .ok (.bipush 110, 2) := by decide +kernel
theorem dX7_lineNow_115 : decode cX7_lineNow 115 = .ok (.bipush 100, 2) := by decide +kernel
theorem dX7_lineNow_117 : decode cX7_lineNow 117 = .ok (.invokevirtual 97, 3) := by decide +kernel
theorem dX7_lineNow_120 : decode cX7_lineNow 120 = .ok (.ifCond .eq 7, 3) := by decide +kernel
theorem dX7_lineNow_123 : decode cX7_lineNow 123 = .ok (.iconst 5, 1) := by decide +kernel
theorem dX7_lineNow_124 : decode cX7_lineNow 124 = .ok (.goto 26, 3) := by decide +kernel
theorem dX7_lineNow_127 : decode cX7_lineNow 127 = .ok (.aload_n 0, 1) := by decide +kernel
theorem dX7_lineNow_128 : decode cX7_lineNow 128 = .ok (.iconst 4, 1) := by decide +kernel
theorem dX7_lineNow_129 : decode cX7_lineNow 129 = .ok (.bipush 108, 2) := by decide +kernel
theorem dX7_lineNow_131 : decode cX7_lineNow 131 = .ok (.bipush 105, 2) := by decide +kernel
theorem dX7_lineNow_133 : decode cX7_lineNow 133 = .ok (.bipush 97, 2) := by decide +kernel
theorem dX7_lineNow_135 : decode cX7_lineNow 135 = .ok (.bipush 114, 2) := by decide +kernel
theorem dX7_lineNow_137 : decode cX7_lineNow 137 = .ok (.invokevirtual 97, 3) := by decide +kernel
theorem dX7_lineNow_140 : decode cX7_lineNow 140 = .ok (.ifCond .eq 8, 3) := by decide +kernel
theorem dX7_lineNow_143 : decode cX7_lineNow 143 = .ok (.bipush 6, 2) := by decide +kernel
theorem dX7_lineNow_145 : decode cX7_lineNow 145 = .ok (.goto 5, 3) := by decide +kernel
theorem dX7_lineNow_148 : decode cX7_lineNow 148 = .ok (.bipush (-4), 2) := by decide +kernel
theorem dX7_lineNow_150 : decode cX7_lineNow 150 = .ok (.ireturn, 1) := by decide +kernel
theorem dX7_cargoNow_0 : decode cX7_cargoNow 0 = .ok (.aload_n 0, 1) := by decide +kernel
theorem dX7_cargoNow_1 : decode cX7_cargoNow 1 = .ok (.iconst 4, 1) := by decide +kernel
theorem dX7_cargoNow_2 : decode cX7_cargoNow 2 = .ok (.bipush 109, 2) := by decide +kernel
theorem dX7_cargoNow_4 : decode cX7_cargoNow 4 = .ok (.bipush 97, 2) := by decide +kernel
theorem dX7_cargoNow_6 : decode cX7_cargoNow 6 = .ok (.bipush 105, 2) := by decide +kernel
theorem dX7_cargoNow_8 : decode cX7_cargoNow 8 = .ok (.bipush 108, 2) := by decide +kernel
theorem dX7_cargoNow_10 : decode cX7_cargoNow 10 = .ok (.invokevirtual 97, 3) := by decide +kernel
theorem dX7_cargoNow_13 : decode cX7_cargoNow 13 = .ok (.ifCond .eq 5, 3) := by decide +kernel
theorem dX7_cargoNow_16 : decode cX7_cargoNow 16 = .ok (.iconst 0, 1) := by decide +kernel
theorem dX7_cargoNow_17 : decode cX7_cargoNow 17 = .ok (.ireturn, 1) := by decide +kernel
theorem dX7_cargoNow_18 : decode cX7_cargoNow 18 = .ok (.aload_n 0, 1) := by decide +kernel
theorem dX7_cargoNow_19 : decode cX7_cargoNow 19 = .ok (.iconst 4, 1) := by decide +kernel
theorem dX7_cargoNow_20 : decode cX7_cargoNow 20 = .ok (.bipush 102, 2) := by decide +kernel
theorem dX7_cargoNow_22 : decode cX7_cargoNow 22 = .ok (.bipush 105, 2) := by decide +kernel
theorem dX7_cargoNow_24 : decode cX7_cargoNow 24 = .ok (.bipush 115, 2) := by decide +kernel
theorem dX7_cargoNow_26 : decode cX7_cargoNow 26 = .ok (.bipush 104, 2) := by decide +kernel
theorem dX7_cargoNow_28 : decode cX7_cargoNow 28 = .ok (.invokevirtual 97, 3) := by decide +kernel
theorem dX7_cargoNow_31 : decode cX7_cargoNow 31 = .ok (.ifCond .eq 7, 3) := by decide +kernel
theorem dX7_cargoNow_34 : decode cX7_cargoNow 34 = .ok (.iconst 1, 1) := by decide +kernel
theorem dX7_cargoNow_35 : decode cX7_cargoNow 35 = .ok (.goto 45, 3) := by decide +kernel
theorem dX7_cargoNow_38 : decode cX7_cargoNow 38 = .ok (.aload_n 0, 1) := by decide +kernel
theorem dX7_cargoNow_39 : decode cX7_cargoNow 39 = .ok (.iconst 4, 1) := by decide +kernel
theorem dX7_cargoNow_40 : decode cX7_cargoNow 40 = .ok (.bipush 98, 2) := by decide +kernel
theorem dX7_cargoNow_42 : decode cX7_cargoNow 42 = .ok (.bipush 101, 2) := by decide +kernel
theorem dX7_cargoNow_44 : decode cX7_cargoNow 44 = .ok (.bipush 101, 2) := by decide +kernel
theorem dX7_cargoNow_46 : decode cX7_cargoNow 46 = .ok (.bipush 114, 2) := by decide +kernel
theorem dX7_cargoNow_48 : decode cX7_cargoNow 48 = .ok (.invokevirtual 97, 3) := by decide +kernel
theorem dX7_cargoNow_51 : decode cX7_cargoNow 51 = .ok (.ifCond .eq 7, 3) := by decide +kernel
theorem dX7_cargoNow_54 : decode cX7_cargoNow 54 = .ok (.iconst 2, 1) := by decide +kernel
theorem dX7_cargoNow_55 : decode cX7_cargoNow 55 = .ok (.goto 25, 3) := by decide +kernel
theorem dX7_cargoNow_58 : decode cX7_cargoNow 58 = .ok (.aload_n 0, 1) := by decide +kernel
theorem dX7_cargoNow_59 : decode cX7_cargoNow 59 = .ok (.iconst 4, 1) := by decide +kernel
theorem dX7_cargoNow_60 : decode cX7_cargoNow 60 = .ok (.bipush 99, 2) := by decide +kernel
theorem dX7_cargoNow_62 : decode cX7_cargoNow 62 = .ok (.bipush 111, 2) := by decide +kernel
theorem dX7_cargoNow_64 : decode cX7_cargoNow 64 = .ok (.bipush 97, 2) := by decide +kernel
theorem dX7_cargoNow_66 : decode cX7_cargoNow 66 = .ok (.bipush 108, 2) := by decide +kernel
theorem dX7_cargoNow_68 : decode cX7_cargoNow 68 = .ok (.invokevirtual 97, 3) := by decide +kernel
theorem dX7_cargoNow_71 : decode cX7_cargoNow 71 = .ok (.ifCond .eq 7, 3) := by decide +kernel
theorem dX7_cargoNow_74 : decode cX7_cargoNow 74 = .ok (.iconst 3, 1) := by decide +kernel
theorem dX7_cargoNow_75 : decode cX7_cargoNow 75 = .ok (.goto 5, 3) := by decide +kernel
theorem dX7_cargoNow_78 : decode cX7_cargoNow 78 = .ok (.bipush (-4), 2) := by decide +kernel
theorem dX7_cargoNow_80 : decode cX7_cargoNow 80 = .ok (.ireturn, 1) := by decide +kernel
theorem dX7_lawNow_0 : decode cX7_lawNow 0 = .ok (.aload_n 0, 1) := by decide +kernel
theorem dX7_lawNow_1 : decode cX7_lawNow 1 = .ok (.iconst 4, 1) := by decide +kernel
theorem dX7_lawNow_2 : decode cX7_lawNow 2 = .ok (.bipush 103, 2) := by decide +kernel
theorem dX7_lawNow_4 : decode cX7_lawNow 4 = .ok (.bipush 97, 2) := by decide +kernel
theorem dX7_lawNow_6 : decode cX7_lawNow 6 = .ok (.bipush 116, 2) := by decide +kernel
theorem dX7_lawNow_8 : decode cX7_lawNow 8 = .ok (.bipush 101, 2) := by decide +kernel
theorem dX7_lawNow_10 : decode cX7_lawNow 10 = .ok (.invokevirtual 97, 3) := by decide +kernel
theorem dX7_lawNow_13 : decode cX7_lawNow 13 = .ok (.ifCond .eq 5, 3) := by decide +kernel
theorem dX7_lawNow_16 : decode cX7_lawNow 16 = .ok (.iconst 0, 1) := by decide +kernel
theorem dX7_lawNow_17 : decode cX7_lawNow 17 = .ok (.ireturn, 1) := by decide +kernel
theorem dX7_lawNow_18 : decode cX7_lawNow 18 = .ok (.aload_n 0, 1) := by decide +kernel
theorem dX7_lawNow_19 : decode cX7_lawNow 19 = .ok (.iconst 5, 1) := by decide +kernel
theorem dX7_lawNow_20 : decode cX7_lawNow 20 = .ok (.bipush 114, 2) := by decide +kernel
theorem dX7_lawNow_22 : decode cX7_lawNow 22 = .ok (.bipush 101, 2) := by decide +kernel
theorem dX7_lawNow_24 : decode cX7_lawNow 24 = .ok (.bipush 97, 2) := by decide +kernel
theorem dX7_lawNow_26 : decode cX7_lawNow 26 = .ok (.bipush 100, 2) := by decide +kernel
theorem dX7_lawNow_28 : decode cX7_lawNow 28 = .ok (.invokevirtual 97, 3) := by decide +kernel
theorem dX7_lawNow_31 : decode cX7_lawNow 31 = .ok (.ifCond .eq 14, 3) := by decide +kernel
theorem dX7_lawNow_34 : decode cX7_lawNow 34 = .ok (.aload_n 0, 1) := by decide +kernel
theorem dX7_lawNow_35 : decode cX7_lawNow 35 = .ok (.bipush 121, 2) := by decide +kernel
theorem dX7_lawNow_37 : decode cX7_lawNow 37 = .ok (.invokevirtual 101, 3) := by decide +kernel
theorem dX7_lawNow_40 : decode cX7_lawNow 40 = .ok (.ifCond .eq 5, 3) := by decide +kernel
theorem dX7_lawNow_43 : decode cX7_lawNow 43 = .ok (.iconst 1, 1) := by decide +kernel
theorem dX7_lawNow_44 : decode cX7_lawNow 44 = .ok (.ireturn, 1) := by decide +kernel
theorem dX7_lawNow_45 : decode cX7_lawNow 45 = .ok (.aload_n 0, 1) := by decide +kernel
theorem dX7_lawNow_46 : decode cX7_lawNow 46 = .ok (.iconst 4, 1) := by decide +kernel
theorem dX7_lawNow_47 : decode cX7_lawNow 47 = .ok (.bipush 116, 2) := by decide +kernel
theorem dX7_lawNow_49 : decode cX7_lawNow 49 = .ok (.bipush 119, 2) := by decide +kernel
theorem dX7_lawNow_51 : decode cX7_lawNow 51 = .ok (.bipush 111, 2) := by decide +kernel
theorem dX7_lawNow_53 : decode cX7_lawNow 53 = .ok (.bipush 115, 2) := by decide +kernel
theorem dX7_lawNow_55 : decode cX7_lawNow 55 = .ok (.invokevirtual 97, 3) := by decide +kernel
theorem dX7_lawNow_58 : decode cX7_lawNow 58 = .ok (.ifCond .eq 5, 3) := by decide +kernel
theorem dX7_lawNow_61 : decode cX7_lawNow 61 = .ok (.iconst 2, 1) := by decide +kernel
theorem dX7_lawNow_62 : decode cX7_lawNow 62 = .ok (.ireturn, 1) := by decide +kernel
theorem dX7_lawNow_63 : decode cX7_lawNow 63 = .ok (.aload_n 0, 1) := by decide +kernel
theorem dX7_lawNow_64 : decode cX7_lawNow 64 = .ok (.iconst 5, 1) := by decide +kernel
theorem dX7_lawNow_65 : decode cX7_lawNow 65 = .ok (.bipush 99, 2) := by decide +kernel
theorem dX7_lawNow_67 : decode cX7_lawNow 67 = .ok (.bipush 97, 2) := by decide +kernel
theorem dX7_lawNow_69 : decode cX7_lawNow 69 = .ok (.bipush 114, 2) := by decide +kernel
theorem dX7_lawNow_71 : decode cX7_lawNow 71 = .ok (.bipush 103, 2) := by decide +kernel
theorem dX7_lawNow_73 : decode cX7_lawNow 73 = .ok (.invokevirtual 97, 3) := by decide +kernel
theorem dX7_lawNow_76 : decode cX7_lawNow 76 = .ok (.ifCond .eq 16, 3) := by decide +kernel
theorem dX7_lawNow_79 : decode cX7_lawNow 79 = .ok (.aload_n 0, 1) := by decide +kernel
theorem dX7_lawNow_80 : decode cX7_lawNow 80 = .ok (.bipush 111, 2) := by decide +kernel
theorem dX7_lawNow_82 : decode cX7_lawNow 82 = .ok (.invokevirtual 101, 3) := by decide +kernel
theorem dX7_lawNow_85 : decode cX7_lawNow 85 = .ok (.ifCond .eq 7, 3) := by decide +kernel
theorem dX7_lawNow_88 : decode cX7_lawNow 88 = .ok (.iconst 3, 1) := by decide +kernel
theorem dX7_lawNow_89 : decode cX7_lawNow 89 = .ok (.goto 34, 3) := by decide +kernel
theorem dX7_lawNow_92 : decode cX7_lawNow 92 = .ok (.aload_n 0, 1) := by decide +kernel
theorem dX7_lawNow_93 : decode cX7_lawNow 93 = .ok (.iconst 5, 1) := by decide +kernel
theorem dX7_lawNow_94 : decode cX7_lawNow 94 = .ok (.bipush 113, 2) := by decide +kernel
theorem dX7_lawNow_96 : decode cX7_lawNow 96 = .ok (.bipush 117, 2) := by decide +kernel
theorem dX7_lawNow_98 : decode cX7_lawNow 98 = .ok (.bipush 101, 2) := by decide +kernel
theorem dX7_lawNow_100 : decode cX7_lawNow 100 = .ok (.bipush 117, 2) := by decide +kernel
theorem dX7_lawNow_102 : decode cX7_lawNow 102 = .ok (.invokevirtual 97, 3) := by decide +kernel
theorem dX7_lawNow_105 : decode cX7_lawNow 105 = .ok (.ifCond .eq 16, 3) := by decide +kernel
theorem dX7_lawNow_108 : decode cX7_lawNow 108 = .ok (.aload_n 0, 1) := by decide +kernel
theorem dX7_lawNow_109 : decode cX7_lawNow 109 = .ok (.bipush 101, 2) := by decide +kernel
theorem dX7_lawNow_111 : decode cX7_lawNow 111 = .ok (.invokevirtual 101, 3) := by decide +kernel
theorem dX7_lawNow_114 : decode cX7_lawNow 114 = .ok (.ifCond .eq 7, 3) := by decide +kernel
theorem dX7_lawNow_117 : decode cX7_lawNow 117 = .ok (.iconst 4, 1) := by decide +kernel
theorem dX7_lawNow_118 : decode cX7_lawNow 118 = .ok (.goto 5, 3) := by decide +kernel
theorem dX7_lawNow_121 : decode cX7_lawNow 121 = .ok (.bipush (-4), 2) := by decide +kernel
theorem dX7_lawNow_123 : decode cX7_lawNow 123 = .ok (.ireturn, 1) := by decide +kernel
theorem dX7_next_0 : decode cX7_next 0 = .ok (.aload_n 0, 1) := by decide +kernel
theorem dX7_next_1 : decode cX7_next 1 = .ok (.getfield 81, 3) := by decide +kernel
theorem dX7_next_4 : decode cX7_next 4 = .ok (.ifCond .le 4, 3) := by decide +kernel
theorem dX7_next_7 : decode cX7_next 7 = .ok (.return_, 1) := by decide +kernel
theorem dX7_next_8 : decode cX7_next 8 = .ok (.aload_n 0, 1) := by decide +kernel
theorem dX7_next_9 : decode cX7_next 9 = .ok (.aload_n 0, 1) := by decide +kernel
theorem dX7_next_10 : decode cX7_next 10 = .ok (.getfield 90, 3) := by decide +kernel
theorem dX7_next_13 : decode cX7_next 13 = .ok (.invokevirtual 93, 3) := by decide +kernel
theorem dX7_next_16 : decode cX7_next 16 = .ok (.bipush 32, 2) := by decide +kernel
theorem dX7_next_18 : decode cX7_next 18 = .ok (.if_icmp .ne 16, 3) := by decide +kernel
theorem dX7_next_21 : decode cX7_next 21 = .ok (.aload_n 0, 1) := by decide +kernel
theorem dX7_next_22 : decode cX7_next 22 = .ok (.dup, 1) := by decide +kernel
theorem dX7_next_23 : decode cX7_next 23 = .ok (.getfield 90, 3) := by decide +kernel
theorem dX7_next_26 : decode cX7_next 26 = .ok (.iconst 1, 1) := by decide +kernel
theorem dX7_next_27 : decode cX7_next 27 = .ok (.iadd, 1) := by decide +kernel
theorem dX7_next_28 : decode cX7_next 28 = .ok (.putfield 90, 3) := by decide +kernel
theorem dX7_next_31 : decode cX7_next 31 = .ok (.goto (-23), 3) := by decide +kernel
theorem dX7_next_34 : decode cX7_next 34 = .ok (.aload_n 0, 1) := by decide +kernel
theorem dX7_next_35 : decode cX7_next 35 = .ok (.aload_n 0, 1) := by decide +kernel
theorem dX7_next_36 : decode cX7_next 36 = .ok (.getfield 90, 3) := by decide +kernel
theorem dX7_next_39 : decode cX7_next 39 = .ok (.putfield 84, 3) := by decide +kernel
theorem dX7_next_42 : decode cX7_next 42 = .ok (.aload_n 0, 1) := by decide +kernel
theorem dX7_next_43 : decode cX7_next 43 = .ok (.aload_n 0, 1) := by decide +kernel
theorem dX7_next_44 : decode cX7_next 44 = .ok (.getfield 90, 3) := by decide +kernel
theorem dX7_next_47 : decode cX7_next 47 = .ok (.invokevirtual 93, 3) := by decide +kernel
theorem dX7_next_50 : decode cX7_next 50 = .ok (.istore_n 1, 1) := by decide +kernel
theorem dX7_next_51 : decode cX7_next 51 = .ok (.iload_n 1, 1) := by decide +kernel
theorem dX7_next_52 : decode cX7_next 52 = .ok (.ifCond .ge 11, 3) := by decide +kernel
theorem dX7_next_55 : decode cX7_next 55 = .ok (.aload_n 0, 1) := by decide +kernel
theorem dX7_next_56 : decode cX7_next 56 = .ok (.iconst 0, 1) := by decide +kernel
theorem dX7_next_57 : decode cX7_next 57 = .ok (.putfield 105, 3) := by decide +kernel
theorem dX7_next_60 : decode cX7_next 60 = .ok (.goto 214, 3) := by decide +kernel
theorem dX7_next_63 : decode cX7_next 63 = .ok (.iload_n 1, 1) := by decide +kernel
theorem dX7_next_64 : decode cX7_next 64 = .ok (.i2l, 1) := by decide +kernel
theorem dX7_next_65 : decode cX7_next 65 = .ok (.ldc2_w 108, 3) := by decide +kernel
theorem dX7_next_68 : decode cX7_next 68 = .ok (.ldc2_w 110, 3) := by decide +kernel
theorem dX7_next_71 : decode cX7_next 71 = .ok (.invokestatic 74, 3) := by decide +kernel
theorem dX7_next_74 : decode cX7_next 74 = .ok (.ifCond .eq 42, 3) := by decide +kernel
theorem dX7_next_77 : decode cX7_next 77 = .ok (.aload_n 0, 1) := by decide +kernel
theorem dX7_next_78 : decode cX7_next 78 = .ok (.iconst 1, 1) := by decide +kernel
theorem dX7_next_79 : decode cX7_next 79 = .ok (.putfield 105, 3) := by decide +kernel
theorem dX7_next_82 : decode cX7_next 82 = .ok (.aload_n 0, 1) := by decide +kernel
theorem dX7_next_83 : decode cX7_next 83 = .ok (.aload_n 0, 1) := by decide +kernel
theorem dX7_next_84 : decode cX7_next 84 = .ok (.getfield 90, 3) := by decide +kernel
theorem dX7_next_87 : decode cX7_next 87 = .ok (.invokevirtual 93, 3) := by decide +kernel
theorem dX7_next_90 : decode cX7_next 90 = .ok (.i2l, 1) := by decide +kernel
theorem dX7_next_91 : decode cX7_next 91 = .ok (.ldc2_w 108, 3) := by decide +kernel
theorem dX7_next_94 : decode cX7_next 94 = .ok (.ldc2_w 110, 3) := by decide +kernel
theorem dX7_next_97 : decode cX7_next 97 = .ok (.invokestatic 74, 3) := by decide +kernel
theorem dX7_next_100 : decode cX7_next 100 = .ok (.ifCond .eq 174, 3) := by decide +kernel
theorem dX7_next_103 : decode cX7_next 103 = .ok (.aload_n 0, 1) := by decide +kernel
theorem dX7_next_104 : decode cX7_next 104 = .ok (.dup, 1) := by decide +kernel
theorem dX7_next_105 : decode cX7_next 105 = .ok (.getfield 90, 3) := by decide +kernel
theorem dX7_next_108 : decode cX7_next 108 = .ok (.iconst 1, 1) := by decide +kernel
theorem dX7_next_109 : decode cX7_next 109 = .ok (.iadd, 1) := by decide +kernel
theorem dX7_next_110 : decode cX7_next 110 = .ok (.putfield 90, 3) := by decide +kernel
theorem dX7_next_113 : decode cX7_next 113 = .ok (.goto (-31), 3) := by decide +kernel
theorem dX7_next_116 : decode cX7_next 116 = .ok (.iload_n 1, 1) := by decide +kernel
theorem dX7_next_117 : decode cX7_next 117 = .ok (.i2l, 1) := by decide +kernel
theorem dX7_next_118 : decode cX7_next 118 = .ok (.ldc2_w 112, 3) := by decide +kernel
theorem dX7_next_121 : decode cX7_next 121 = .ok (.ldc2_w 114, 3) := by decide +kernel
theorem dX7_next_124 : decode cX7_next 124 = .ok (.invokestatic 74, 3) := by decide +kernel
theorem dX7_next_127 : decode cX7_next 127 = .ok (.ifCond .eq 116, 3) := by decide +kernel
theorem dX7_next_130 : decode cX7_next 130 = .ok (.aload_n 0, 1) := by decide +kernel
theorem dX7_next_131 : decode cX7_next 131 = .ok (.iconst 2, 1) := by decide +kernel
theorem dX7_next_132 : decode cX7_next 132 = .ok (.putfield 105, 3) := by decide +kernel
theorem dX7_next_135 : decode cX7_next 135 = .ok (.aload_n 0, 1) := by decide +kernel
theorem dX7_next_136 : decode cX7_next 136 = .ok (.iconst 0, 1) := by decide +kernel
theorem dX7_next_137 : decode cX7_next 137 = .ok (.putfield 116, 3) := by decide +kernel
theorem dX7_next_140 : decode cX7_next 140 = .ok (.aload_n 0, 1) := by decide +kernel
theorem dX7_next_141 : decode cX7_next 141 = .ok (.aload_n 0, 1) := by decide +kernel
theorem dX7_next_142 : decode cX7_next 142 = .ok (.getfield 90, 3) := by decide +kernel
theorem dX7_next_145 : decode cX7_next 145 = .ok (.invokevirtual 93, 3) := by decide +kernel
theorem dX7_next_148 : decode cX7_next 148 = .ok (.i2l, 1) := by decide +kernel
theorem dX7_next_149 : decode cX7_next 149 = .ok (.ldc2_w 112, 3) := by decide +kernel
theorem dX7_next_152 : decode cX7_next 152 = .ok (.ldc2_w 114, 3) := by decide +kernel
theorem dX7_next_155 : decode cX7_next 155 = .ok (.invokestatic 74, 3) := by decide +kernel
theorem dX7_next_158 : decode cX7_next 158 = .ok (.ifCond .eq 59, 3) := by decide +kernel
theorem dX7_next_161 : decode cX7_next 161 = .ok (.aload_n 0, 1) := by decide +kernel
theorem dX7_next_162 : decode cX7_next 162 = .ok (.aload_n 0, 1) := by decide +kernel
theorem dX7_next_163 : decode cX7_next 163 = .ok (.getfield 90, 3) := by decide +kernel
theorem dX7_next_166 : decode cX7_next 166 = .ok (.aload_n 0, 1) := by decide +kernel
theorem dX7_next_167 : decode cX7_next 167 = .ok (.getfield 84, 3) := by decide +kernel
theorem dX7_next_170 : decode cX7_next 170 = .ok (.isub, 1) := by decide +kernel
theorem dX7_next_171 : decode cX7_next 171 = .ok (.iconst 2, 1) := by decide +kernel
theorem dX7_next_172 : decode cX7_next 172 = .ok (.if_icmp .ge 25, 3) := by decide +kernel
theorem dX7_next_175 : decode cX7_next 175 = .ok (.bipush 10, 2) := by decide +kernel
theorem dX7_next_177 : decode cX7_next 177 = .ok (.aload_n 0, 1) := by decide +kernel
theorem dX7_next_178 : decode cX7_next 178 = .ok (.getfield 116, 3) := by decide +kernel
theorem dX7_next_181 : decode cX7_next 181 = .ok (.imul, 1) := by decide +kernel
theorem dX7_next_182 : decode cX7_next 182 = .ok (.aload_n 0, 1) := by decide +kernel
theorem dX7_next_183 : decode cX7_next 183 = .ok (.aload_n 0, 1) := by decide +kernel
theorem dX7_next_184 : decode cX7_next 184 = .ok (.getfield 90, 3) := by decide +kernel
theorem dX7_next_187 : decode cX7_next 187 = .ok (.invokevirtual 93, 3) := by decide +kernel
theorem dX7_next_190 : decode cX7_next 190 = .ok (.iadd, 1) := by decide +kernel
theorem dX7_next_191 : decode cX7_next 191 = .ok (.bipush 48, 2) := by decide +kernel
theorem dX7_next_193 : decode cX7_next 193 = .ok (.isub, 1) := by decide +kernel
theorem dX7_next_194 : decode cX7_next 194 = .ok (.goto 7, 3) := by decide +kernel
theorem dX7_next_197 : decode cX7_next 197 = .ok (.aload_n 0, 1) := by decide +kernel
theorem dX7_next_198 : decode cX7_next 198 = .ok (.getfield 116, 3) := by decide +kernel
theorem dX7_next_201 : decode cX7_next 201 = .ok (.putfield 116, 3) := by decide +kernel
theorem dX7_next_204 : decode cX7_next 204 = .ok (.aload_n 0, 1) := by decide +kernel
theorem dX7_next_205 : decode cX7_next 205 = .ok (.dup, 1) := by decide +kernel
theorem dX7_next_206 : decode cX7_next 206 = .ok (.getfield 90, 3) := by decide +kernel
theorem dX7_next_209 : decode cX7_next 209 = .ok (.iconst 1, 1) := by decide +kernel
theorem dX7_next_210 : decode cX7_next 210 = .ok (.iadd, 1) := by decide +kernel
theorem dX7_next_211 : decode cX7_next 211 = .ok (.putfield 90, 3) := by decide +kernel
theorem dX7_next_214 : decode cX7_next 214 = .ok (.goto (-74), 3) := by decide +kernel
theorem dX7_next_217 : decode cX7_next 217 = .ok (.aload_n 0, 1) := by decide +kernel
theorem dX7_next_218 : decode cX7_next 218 = .ok (.aload_n 0, 1) := by decide +kernel
theorem dX7_next_219 : decode cX7_next 219 = .ok (.getfield 90, 3) := by decide +kernel
theorem dX7_next_222 : decode cX7_next 222 = .ok (.aload_n 0, 1) := by decide +kernel
theorem dX7_next_223 : decode cX7_next 223 = .ok (.getfield 84, 3) := by decide +kernel
theorem dX7_next_226 : decode cX7_next 226 = .ok (.isub, 1) := by decide +kernel
theorem dX7_next_227 : decode cX7_next 227 = .ok (.iconst 2, 1) := by decide +kernel
theorem dX7_next_228 : decode cX7_next 228 = .ok (.if_icmp .gt 7, 3) := by decide +kernel
theorem dX7_next_231 : decode cX7_next 231 = .ok (.iconst 1, 1) := by decide +kernel
theorem dX7_next_232 : decode cX7_next 232 = .ok (.goto 4, 3) := by decide +kernel
theorem dX7_next_235 : decode cX7_next 235 = .ok (.iconst 0, 1) := by decide +kernel
theorem dX7_next_236 : decode cX7_next 236 = .ok (.iconst 1, 1) := by decide +kernel
theorem dX7_next_237 : decode cX7_next 237 = .ok (.invokevirtual 119, 3) := by decide +kernel
theorem dX7_next_240 : decode cX7_next 240 = .ok (.goto 34, 3) := by decide +kernel
theorem dX7_next_243 : decode cX7_next 243 = .ok (.aload_n 0, 1) := by decide +kernel
theorem dX7_next_244 : decode cX7_next 244 = .ok (.iconst 3, 1) := by decide +kernel
theorem dX7_next_245 : decode cX7_next 245 = .ok (.putfield 105, 3) := by decide +kernel
theorem dX7_next_248 : decode cX7_next 248 = .ok (.aload_n 0, 1) := by decide +kernel
theorem dX7_next_249 : decode cX7_next 249 = .ok (.iload_n 1, 1) := by decide +kernel
theorem dX7_next_250 : decode cX7_next 250 = .ok (.bipush 59, 2) := by decide +kernel
theorem dX7_next_252 : decode cX7_next 252 = .ok (.if_icmp .ne 7, 3) := by decide +kernel
theorem dX7_next_255 : decode cX7_next 255 = .ok (.iconst 1, 1) := by decide +kernel
theorem dX7_next_256 : decode cX7_next 256 = .ok (.goto 4, 3) := by decide +kernel
theorem dX7_next_259 : decode cX7_next 259 = .ok (.iconst 0, 1) := by decide +kernel
theorem dX7_next_260 : decode cX7_next 260 = .ok (.iconst 1, 1) := by decide +kernel
theorem dX7_next_261 : decode cX7_next 261 = .ok (.invokevirtual 119, 3) := by decide +kernel
theorem dX7_next_264 : decode cX7_next 264 = .ok (.aload_n 0, 1) := by decide +kernel
theorem dX7_next_265 : decode cX7_next 265 = .ok (.dup, 1) := by decide +kernel
theorem dX7_next_266 : decode cX7_next 266 = .ok (.getfield 90, 3) := by decide +kernel
theorem dX7_next_269 : decode cX7_next 269 = .ok (.iconst 1, 1) := by decide +kernel
theorem dX7_next_270 : decode cX7_next 270 = .ok (.iadd, 1) := by decide +kernel
theorem dX7_next_271 : decode cX7_next 271 = .ok (.putfield 90, 3) := by decide +kernel
theorem dX7_next_274 : decode cX7_next 274 = .ok (.return_, 1) := by decide +kernel
theorem dX7_looked_0 : decode cX7_looked 0 = .ok (.aload_n 0, 1) := by decide +kernel
theorem dX7_looked_1 : decode cX7_looked 1 = .ok (.getfield 81, 3) := by decide +kernel
theorem dX7_looked_4 : decode cX7_looked 4 = .ok (.ifCond .ne 21, 3) := by decide +kernel
theorem dX7_looked_7 : decode cX7_looked 7 = .ok (.aload_n 0, 1) := by decide +kernel
theorem dX7_looked_8 : decode cX7_looked 8 = .ok (.aload_n 0, 1) := by decide +kernel
theorem dX7_looked_9 : decode cX7_looked 9 = .ok (.getfield 105, 3) := by decide +kernel
theorem dX7_looked_12 : decode cX7_looked 12 = .ok (.iconst 2, 1) := by decide +kernel
theorem dX7_looked_13 : decode cX7_looked 13 = .ok (.if_icmp .ne 7, 3) := by decide +kernel
theorem dX7_looked_16 : decode cX7_looked 16 = .ok (.iconst 1, 1) := by decide +kernel
theorem dX7_looked_17 : decode cX7_looked 17 = .ok (.goto 4, 3) := by decide +kernel
theorem dX7_looked_20 : decode cX7_looked 20 = .ok (.iconst 0, 1) := by decide +kernel
theorem dX7_looked_21 : decode cX7_looked 21 = .ok (.iconst 2, 1) := by decide +kernel
theorem dX7_looked_22 : decode cX7_looked 22 = .ok (.invokevirtual 119, 3) := by decide +kernel
theorem dX7_looked_25 : decode cX7_looked 25 = .ok (.aload_n 0, 1) := by decide +kernel
theorem dX7_looked_26 : decode cX7_looked 26 = .ok (.getfield 81, 3) := by decide +kernel
theorem dX7_looked_29 : decode cX7_looked 29 = .ok (.ifCond .ne 20, 3) := by decide +kernel
theorem dX7_looked_32 : decode cX7_looked 32 = .ok (.aload_n 0, 1) := by decide +kernel
theorem dX7_looked_33 : decode cX7_looked 33 = .ok (.aload_n 0, 1) := by decide +kernel
theorem dX7_looked_34 : decode cX7_looked 34 = .ok (.getfield 116, 3) := by decide +kernel
theorem dX7_looked_37 : decode cX7_looked 37 = .ok (.i2l, 1) := by decide +kernel
theorem dX7_looked_38 : decode cX7_looked 38 = .ok (.iload_n 1, 1) := by decide +kernel
theorem dX7_looked_39 : decode cX7_looked 39 = .ok (.i2l, 1) := by decide +kernel
theorem dX7_looked_40 : decode cX7_looked 40 = .ok (.iload_n 2, 1) := by decide +kernel
theorem dX7_looked_41 : decode cX7_looked 41 = .ok (.i2l, 1) := by decide +kernel
theorem dX7_looked_42 : decode cX7_looked 42 = .ok (.invokestatic 74, 3) := by decide +kernel
theorem dX7_looked_45 : decode cX7_looked 45 = .ok (.iconst 3, 1) := by decide +kernel
theorem dX7_looked_46 : decode cX7_looked 46 = .ok (.invokevirtual 119, 3) := by decide +kernel
theorem dX7_looked_49 : decode cX7_looked 49 = .ok (.aload_n 0, 1) := by decide +kernel
theorem dX7_looked_50 : decode cX7_looked 50 = .ok (.getfield 81, 3) := by decide +kernel
theorem dX7_looked_53 : decode cX7_looked 53 = .ok (.ifCond .ne 10, 3) := by decide +kernel
theorem dX7_looked_56 : decode cX7_looked 56 = .ok (.aload_n 0, 1) := by decide +kernel
theorem dX7_looked_57 : decode cX7_looked 57 = .ok (.getfield 116, 3) := by decide +kernel
theorem dX7_looked_60 : decode cX7_looked 60 = .ok (.goto 4, 3) := by decide +kernel
theorem dX7_looked_63 : decode cX7_looked 63 = .ok (.iconst 0, 1) := by decide +kernel
theorem dX7_looked_64 : decode cX7_looked 64 = .ok (.ireturn, 1) := by decide +kernel
theorem dX7_readNumber_0 : decode cX7_readNumber 0 = .ok (.aload_n 0, 1) := by decide +kernel
theorem dX7_readNumber_1 : decode cX7_readNumber 1 = .ok (.iload_n 1, 1) := by decide +kernel
theorem dX7_readNumber_2 : decode cX7_readNumber 2 = .ok (.iload_n 2, 1) := by decide +kernel
theorem dX7_readNumber_3 : decode cX7_readNumber 3 = .ok (.invokevirtual 123, 3) := by decide +kernel
theorem dX7_readNumber_6 : decode cX7_readNumber 6 = .ok (.istore_n 3, 1) := by decide +kernel
theorem dX7_readNumber_7 : decode cX7_readNumber 7 = .ok (.aload_n 0, 1) := by decide +kernel
theorem dX7_readNumber_8 : decode cX7_readNumber 8 = .ok (.invokevirtual 127, 3) := by decide +kernel
theorem dX7_readNumber_11 : decode cX7_readNumber 11 = .ok (.iload_n 3, 1) := by decide +kernel
theorem dX7_readNumber_12 : decode cX7_readNumber 12 = .ok (.ireturn, 1) := by decide +kernel
theorem dX7_readName_0 : decode cX7_readName 0 = .ok (.aload_n 0, 1) := by decide +kernel
theorem dX7_readName_1 : decode cX7_readName 1 = .ok (.getfield 105, 3) := by decide +kernel
theorem dX7_readName_4 : decode cX7_readName 4 = .ok (.iconst 1, 1) := by decide +kernel
theorem dX7_readName_5 : decode cX7_readName 5 = .ok (.if_icmp .ne 7, 3) := by decide +kernel
theorem dX7_readName_8 : decode cX7_readName 8 = .ok (.iload_n 1, 1) := by decide +kernel
theorem dX7_readName_9 : decode cX7_readName 9 = .ok (.goto 5, 3) := by decide +kernel
theorem dX7_readName_12 : decode cX7_readName 12 = .ok (.bipush (-4), 2) := by decide +kernel
theorem dX7_readName_14 : decode cX7_readName 14 = .ok (.istore_n 2, 1) := by decide +kernel
theorem dX7_readName_15 : decode cX7_readName 15 = .ok (.aload_n 0, 1) := by decide +kernel
theorem dX7_readName_16 : decode cX7_readName 16 = .ok (.iload_n 2, 1) := by decide +kernel
theorem dX7_readName_17 : decode cX7_readName 17 = .ok (.bipush (-4), 2) := by decide +kernel
theorem dX7_readName_19 : decode cX7_readName 19 = .ok (.if_icmp .eq 7, 3) := by decide +kernel
theorem dX7_readName_22 : decode cX7_readName 22 = .ok (.iconst 1, 1) := by decide +kernel
theorem dX7_readName_23 : decode cX7_readName 23 = .ok (.goto 4, 3) := by decide +kernel
theorem dX7_readName_26 : decode cX7_readName 26 = .ok (.iconst 0, 1) := by decide +kernel
theorem dX7_readName_27 : decode cX7_readName 27 = .ok (.iconst 2, 1) := by decide +kernel
theorem dX7_readName_28 : decode cX7_readName 28 = .ok (.invokevirtual 119, 3) := by decide +kernel
theorem dX7_readName_31 : decode cX7_readName 31 = .ok (.aload_n 0, 1) := by decide +kernel
theorem dX7_readName_32 : decode cX7_readName 32 = .ok (.invokevirtual 127, 3) := by decide +kernel
theorem dX7_readName_35 : decode cX7_readName 35 = .ok (.iload_n 2, 1) := by decide +kernel
theorem dX7_readName_36 : decode cX7_readName 36 = .ok (.ireturn, 1) := by decide +kernel
theorem dX7_readBoat_0 : decode cX7_readBoat 0 = .ok (.bipush 6, 2) := by decide +kernel
theorem dX7_readBoat_2 : decode cX7_readBoat 2 = .ok (.bipush 6, 2) := by decide +kernel
theorem dX7_readBoat_4 : decode cX7_readBoat 4 = .ok (.aload_n 0, 1) := by decide +kernel
theorem dX7_readBoat_5 : decode cX7_readBoat 5 = .ok (.getfield 56, 3) := by decide +kernel
theorem dX7_readBoat_8 : decode cX7_readBoat 8 = .ok (.imul, 1) := by decide +kernel
theorem dX7_readBoat_9 : decode cX7_readBoat 9 = .ok (.iadd, 1) := by decide +kernel
theorem dX7_readBoat_10 : decode cX7_readBoat 10 = .ok (.istore_n 2, 1) := by decide +kernel
theorem dX7_readBoat_11 : decode cX7_readBoat 11 = .ok (.aload_n 0, 1) := by decide +kernel
theorem dX7_readBoat_12 : decode cX7_readBoat 12 = .ok (.getfield 20, 3) := by decide +kernel
theorem dX7_readBoat_15 : decode cX7_readBoat 15 = .ok (.iload_n 2, 1) := by decide +kernel
theorem dX7_readBoat_16 : decode cX7_readBoat 16 = .ok (.iconst 0, 1) := by decide +kernel
theorem dX7_readBoat_17 : decode cX7_readBoat 17 = .ok (.iadd, 1) := by decide +kernel
theorem dX7_readBoat_18 : decode cX7_readBoat 18 = .ok (.iload_n 1, 1) := by decide +kernel
theorem dX7_readBoat_19 : decode cX7_readBoat 19 = .ok (.iastore, 1) := by decide +kernel
theorem dX7_readBoat_20 : decode cX7_readBoat 20 = .ok (.aload_n 0, 1) := by decide +kernel
theorem dX7_readBoat_21 : decode cX7_readBoat 21 = .ok (.getfield 20, 3) := by decide +kernel
theorem dX7_readBoat_24 : decode cX7_readBoat 24 = .ok (.iload_n 2, 1) := by decide +kernel
theorem dX7_readBoat_25 : decode cX7_readBoat 25 = .ok (.iconst 1, 1) := by decide +kernel
theorem dX7_readBoat_26 : decode cX7_readBoat 26 = .ok (.iadd, 1) := by decide +kernel
theorem dX7_readBoat_27 : decode cX7_readBoat 27 = .ok (.aload_n 0, 1) := by decide +kernel
theorem dX7_readBoat_28 : decode cX7_readBoat 28 = .ok (.aload_n 0, 1) := by decide +kernel
theorem dX7_readBoat_29 : decode cX7_readBoat 29 = .ok (.invokevirtual 130, 3) := by decide +kernel
theorem dX7_readBoat_32 : decode cX7_readBoat 32 = .ok (.invokevirtual 134, 3) := by decide +kernel
theorem dX7_readBoat_35 : decode cX7_readBoat 35 = .ok (.iastore, 1) := by decide +kernel
theorem dX7_readBoat_36 : decode cX7_readBoat 36 = .ok (.aload_n 0, 1) := by decide +kernel
theorem dX7_readBoat_37 : decode cX7_readBoat 37 = .ok (.getfield 20, 3) := by decide +kernel
theorem dX7_readBoat_40 : decode cX7_readBoat 40 = .ok (.iload_n 2, 1) := by decide +kernel
theorem dX7_readBoat_41 : decode cX7_readBoat 41 = .ok (.iconst 2, 1) := by decide +kernel
theorem dX7_readBoat_42 : decode cX7_readBoat 42 = .ok (.iadd, 1) := by decide +kernel
theorem dX7_readBoat_43 : decode cX7_readBoat 43 = .ok (.aload_n 0, 1) := by decide +kernel
theorem dX7_readBoat_44 : decode cX7_readBoat 44 = .ok (.iconst 0, 1) := by decide +kernel
theorem dX7_readBoat_45 : decode cX7_readBoat 45 = .ok (.bipush 99, 2) := by decide +kernel
theorem dX7_readBoat_47 : decode cX7_readBoat 47 = .ok (.invokevirtual 137, 3) := by decide +kernel
theorem dX7_readBoat_50 : decode cX7_readBoat 50 = .ok (.iastore, 1) := by decide +kernel
theorem dX7_readBoat_51 : decode cX7_readBoat 51 = .ok (.aload_n 0, 1) := by decide +kernel
theorem dX7_readBoat_52 : decode cX7_readBoat 52 = .ok (.getfield 20, 3) := by decide +kernel
theorem dX7_readBoat_55 : decode cX7_readBoat 55 = .ok (.iload_n 2, 1) := by decide +kernel
theorem dX7_readBoat_56 : decode cX7_readBoat 56 = .ok (.iconst 3, 1) := by decide +kernel
theorem dX7_readBoat_57 : decode cX7_readBoat 57 = .ok (.iadd, 1) := by decide +kernel
theorem dX7_readBoat_58 : decode cX7_readBoat 58 = .ok (.aload_n 0, 1) := by decide +kernel
theorem dX7_readBoat_59 : decode cX7_readBoat 59 = .ok (.iconst 0, 1) := by decide +kernel
theorem dX7_readBoat_60 : decode cX7_readBoat 60 = .ok (.bipush 9, 2) := by decide +kernel
theorem dX7_readBoat_62 : decode cX7_readBoat 62 = .ok (.invokevirtual 137, 3) := by decide +kernel
theorem dX7_readBoat_65 : decode cX7_readBoat 65 = .ok (.iastore, 1) := by decide +kernel
theorem dX7_readBoat_66 : decode cX7_readBoat 66 = .ok (.aload_n 0, 1) := by decide +kernel
theorem dX7_readBoat_67 : decode cX7_readBoat 67 = .ok (.getfield 20, 3) := by decide +kernel
theorem dX7_readBoat_70 : decode cX7_readBoat 70 = .ok (.iload_n 2, 1) := by decide +kernel
theorem dX7_readBoat_71 : decode cX7_readBoat 71 = .ok (.iconst 4, 1) := by decide +kernel
theorem dX7_readBoat_72 : decode cX7_readBoat 72 = .ok (.iadd, 1) := by decide +kernel
theorem dX7_readBoat_73 : decode cX7_readBoat 73 = .ok (.aload_n 0, 1) := by decide +kernel
theorem dX7_readBoat_74 : decode cX7_readBoat 74 = .ok (.iconst 0, 1) := by decide +kernel
theorem dX7_readBoat_75 : decode cX7_readBoat 75 = .ok (.bipush 9, 2) := by decide +kernel
theorem dX7_readBoat_77 : decode cX7_readBoat 77 = .ok (.invokevirtual 137, 3) := by decide +kernel
theorem dX7_readBoat_80 : decode cX7_readBoat 80 = .ok (.iastore, 1) := by decide +kernel
theorem dX7_readBoat_81 : decode cX7_readBoat 81 = .ok (.aload_n 0, 1) := by decide +kernel
theorem dX7_readBoat_82 : decode cX7_readBoat 82 = .ok (.dup, 1) := by decide +kernel
theorem dX7_readBoat_83 : decode cX7_readBoat 83 = .ok (.getfield 56, 3) := by decide +kernel
theorem dX7_readBoat_86 : decode cX7_readBoat 86 = .ok (.iconst 1, 1) := by decide +kernel
theorem dX7_readBoat_87 : decode cX7_readBoat 87 = .ok (.iadd, 1) := by decide +kernel
theorem dX7_readBoat_88 : decode cX7_readBoat 88 = .ok (.putfield 56, 3) := by decide +kernel
theorem dX7_readBoat_91 : decode cX7_readBoat 91 = .ok (.return_, 1) := by decide +kernel
theorem dX7_readLiar_0 : decode cX7_readLiar 0 = .ok (.aload_n 0, 1) := by decide +kernel
theorem dX7_readLiar_1 : decode cX7_readLiar 1 = .ok (.iconst 0, 1) := by decide +kernel
theorem dX7_readLiar_2 : decode cX7_readLiar 2 = .ok (.iconst 5, 1) := by decide +kernel
theorem dX7_readLiar_3 : decode cX7_readLiar 3 = .ok (.invokevirtual 123, 3) := by decide +kernel
theorem dX7_readLiar_6 : decode cX7_readLiar 6 = .ok (.istore_n 1, 1) := by decide +kernel
theorem dX7_readLiar_7 : decode cX7_readLiar 7 = .ok (.aload_n 0, 1) := by decide +kernel
theorem dX7_readLiar_8 : decode cX7_readLiar 8 = .ok (.getfield 81, 3) := by decide +kernel
theorem dX7_readLiar_11 : decode cX7_readLiar 11 = .ok (.ifCond .ne 56, 3) := by decide +kernel
theorem dX7_readLiar_14 : decode cX7_readLiar 14 = .ok (.aload_n 0, 1) := by decide +kernel
theorem dX7_readLiar_15 : decode cX7_readLiar 15 = .ok (.aload_n 0, 1) := by decide +kernel
theorem dX7_readLiar_16 : decode cX7_readLiar 16 = .ok (.getfield 63, 3) := by decide +kernel
theorem dX7_readLiar_19 : decode cX7_readLiar 19 = .ok (.iload_n 1, 1) := by decide +kernel
theorem dX7_readLiar_20 : decode cX7_readLiar 20 = .ok (.ishr, 1) := by decide +kernel
theorem dX7_readLiar_21 : decode cX7_readLiar 21 = .ok (.iconst 1, 1) := by decide +kernel
theorem dX7_readLiar_22 : decode cX7_readLiar 22 = .ok (.iand, 1) := by decide +kernel
theorem dX7_readLiar_23 : decode cX7_readLiar 23 = .ok (.ifCond .ne 7, 3) := by decide +kernel
theorem dX7_readLiar_26 : decode cX7_readLiar 26 = .ok (.iconst 1, 1) := by decide +kernel
theorem dX7_readLiar_27 : decode cX7_readLiar 27 = .ok (.goto 4, 3) := by decide +kernel
theorem dX7_readLiar_30 : decode cX7_readLiar 30 = .ok (.iconst 0, 1) := by decide +kernel
theorem dX7_readLiar_31 : decode cX7_readLiar 31 = .ok (.iconst 4, 1) := by decide +kernel
theorem dX7_readLiar_32 : decode cX7_readLiar 32 = .ok (.invokevirtual 119, 3) := by decide +kernel
theorem dX7_readLiar_35 : decode cX7_readLiar 35 = .ok (.aload_n 0, 1) := by decide +kernel
theorem dX7_readLiar_36 : decode cX7_readLiar 36 = .ok (.dup, 1) := by decide +kernel
theorem dX7_readLiar_37 : decode cX7_readLiar 37 = .ok (.getfield 63, 3) := by decide +kernel
theorem dX7_readLiar_40 : decode cX7_readLiar 40 = .ok (.iconst 1, 1) := by decide +kernel
theorem dX7_readLiar_41 : decode cX7_readLiar 41 = .ok (.iload_n 1, 1) := by decide +kernel
theorem dX7_readLiar_42 : decode cX7_readLiar 42 = .ok (.ishl, 1) := by decide +kernel
theorem dX7_readLiar_43 : decode cX7_readLiar 43 = .ok (.ior, 1) := by decide +kernel
theorem dX7_readLiar_44 : decode cX7_readLiar 44 = .ok (.putfield 63, 3) := by decide +kernel
theorem dX7_readLiar_47 : decode cX7_readLiar 47 = .ok (.aload_n 0, 1) := by decide +kernel
theorem dX7_readLiar_48 : decode cX7_readLiar 48 = .ok (.iload_n 1, 1) := by decide +kernel
theorem dX7_readLiar_49 : decode cX7_readLiar 49 = .ok (.aload_n 0, 1) := by decide +kernel
theorem dX7_readLiar_50 : decode cX7_readLiar 50 = .ok (.getfield 66, 3) := by decide +kernel
theorem dX7_readLiar_53 : decode cX7_readLiar 53 = .ok (.if_icmp .le 7, 3) := by decide +kernel
theorem dX7_readLiar_56 : decode cX7_readLiar 56 = .ok (.iload_n 1, 1) := by decide +kernel
theorem dX7_readLiar_57 : decode cX7_readLiar 57 = .ok (.goto 7, 3) := by decide +kernel
theorem dX7_readLiar_60 : decode cX7_readLiar 60 = .ok (.aload_n 0, 1) := by decide +kernel
theorem dX7_readLiar_61 : decode cX7_readLiar 61 = .ok (.getfield 66, 3) := by decide +kernel
theorem dX7_readLiar_64 : decode cX7_readLiar 64 = .ok (.putfield 66, 3) := by decide +kernel
theorem dX7_readLiar_67 : decode cX7_readLiar 67 = .ok (.aload_n 0, 1) := by decide +kernel
theorem dX7_readLiar_68 : decode cX7_readLiar 68 = .ok (.invokevirtual 127, 3) := by decide +kernel
theorem dX7_readLiar_71 : decode cX7_readLiar 71 = .ok (.return_, 1) := by decide +kernel
theorem dX7_readLineOf_0 : decode cX7_readLineOf 0 = .ok (.iload_n 1, 1) := by decide +kernel
theorem dX7_readLineOf_1 : decode cX7_readLineOf 1 = .ok (.tableswitch 126 2 6 #[35, 76, 93, 109, 119], 35) := by decide +kernel
theorem dX7_readLineOf_36 : decode cX7_readLineOf 36 = .ok (.aload_n 0, 1) := by decide +kernel
theorem dX7_readLineOf_37 : decode cX7_readLineOf 37 = .ok (.getfield 20, 3) := by decide +kernel
theorem dX7_readLineOf_40 : decode cX7_readLineOf 40 = .ok (.iconst 0, 1) := by decide +kernel
theorem dX7_readLineOf_41 : decode cX7_readLineOf 41 = .ok (.aload_n 0, 1) := by decide +kernel
theorem dX7_readLineOf_42 : decode cX7_readLineOf 42 = .ok (.iconst 1, 1) := by decide +kernel
theorem dX7_readLineOf_43 : decode cX7_readLineOf 43 = .ok (.bipush 9, 2) := by decide +kernel
theorem dX7_readLineOf_45 : decode cX7_readLineOf 45 = .ok (.invokevirtual 137, 3) := by decide +kernel
theorem dX7_readLineOf_48 : decode cX7_readLineOf 48 = .ok (.iastore, 1) := by decide +kernel
theorem dX7_readLineOf_49 : decode cX7_readLineOf 49 = .ok (.aload_n 0, 1) := by decide +kernel
theorem dX7_readLineOf_50 : decode cX7_readLineOf 50 = .ok (.getfield 20, 3) := by decide +kernel
theorem dX7_readLineOf_53 : decode cX7_readLineOf 53 = .ok (.iconst 1, 1) := by decide +kernel
theorem dX7_readLineOf_54 : decode cX7_readLineOf 54 = .ok (.aload_n 0, 1) := by decide +kernel
theorem dX7_readLineOf_55 : decode cX7_readLineOf 55 = .ok (.iconst 0, 1) := by decide +kernel
theorem dX7_readLineOf_56 : decode cX7_readLineOf 56 = .ok (.bipush 9, 2) := by decide +kernel
theorem dX7_readLineOf_58 : decode cX7_readLineOf 58 = .ok (.invokevirtual 137, 3) := by decide +kernel
theorem dX7_readLineOf_61 : decode cX7_readLineOf 61 = .ok (.iastore, 1) := by decide +kernel
theorem dX7_readLineOf_62 : decode cX7_readLineOf 62 = .ok (.aload_n 0, 1) := by decide +kernel
theorem dX7_readLineOf_63 : decode cX7_readLineOf 63 = .ok (.getfield 20, 3) := by decide +kernel
theorem dX7_readLineOf_66 : decode cX7_readLineOf 66 = .ok (.iconst 2, 1) := by decide +kernel
theorem dX7_readLineOf_67 : decode cX7_readLineOf 67 = .ok (.aload_n 0, 1) := by decide +kernel
theorem dX7_readLineOf_68 : decode cX7_readLineOf 68 = .ok (.iconst 0, 1) := by decide +kernel
theorem dX7_readLineOf_69 : decode cX7_readLineOf 69 = .ok (.iconst 1, 1) := by decide +kernel
theorem dX7_readLineOf_70 : decode cX7_readLineOf 70 = .ok (.invokevirtual 137, 3) := by decide +kernel
theorem dX7_readLineOf_73 : decode cX7_readLineOf 73 = .ok (.iastore, 1) := by decide +kernel
theorem dX7_readLineOf_74 : decode cX7_readLineOf 74 = .ok (.goto 58, 3) := by decide +kernel
theorem dX7_readLineOf_77 : decode cX7_readLineOf 77 = .ok (.aload_n 0, 1) := by decide +kernel
theorem dX7_readLineOf_78 : decode cX7_readLineOf 78 = .ok (.getfield 20, 3) := by decide +kernel
theorem dX7_readLineOf_81 : decode cX7_readLineOf 81 = .ok (.iconst 3, 1) := by decide +kernel
theorem dX7_readLineOf_82 : decode cX7_readLineOf 82 = .ok (.aload_n 0, 1) := by decide +kernel
theorem dX7_readLineOf_83 : decode cX7_readLineOf 83 = .ok (.aload_n 0, 1) := by decide +kernel
theorem dX7_readLineOf_84 : decode cX7_readLineOf 84 = .ok (.invokevirtual 140, 3) := by decide +kernel
theorem dX7_readLineOf_87 : decode cX7_readLineOf 87 = .ok (.invokevirtual 134, 3) := by decide +kernel
theorem dX7_readLineOf_90 : decode cX7_readLineOf 90 = .ok (.iastore, 1) := by decide +kernel
theorem dX7_readLineOf_91 : decode cX7_readLineOf 91 = .ok (.goto 41, 3) := by decide +kernel
theorem dX7_readLineOf_94 : decode cX7_readLineOf 94 = .ok (.aload_n 0, 1) := by decide +kernel
theorem dX7_readLineOf_95 : decode cX7_readLineOf 95 = .ok (.getfield 20, 3) := by decide +kernel
theorem dX7_readLineOf_98 : decode cX7_readLineOf 98 = .ok (.iconst 4, 1) := by decide +kernel
theorem dX7_readLineOf_99 : decode cX7_readLineOf 99 = .ok (.aload_n 0, 1) := by decide +kernel
theorem dX7_readLineOf_100 : decode cX7_readLineOf 100 = .ok (.iconst 0, 1) := by decide +kernel
theorem dX7_readLineOf_101 : decode cX7_readLineOf 101 = .ok (.bipush 9, 2) := by decide +kernel
theorem dX7_readLineOf_103 : decode cX7_readLineOf 103 = .ok (.invokevirtual 137, 3) := by decide +kernel
theorem dX7_readLineOf_106 : decode cX7_readLineOf 106 = .ok (.iastore, 1) := by decide +kernel
theorem dX7_readLineOf_107 : decode cX7_readLineOf 107 = .ok (.goto 25, 3) := by decide +kernel
theorem dX7_readLineOf_110 : decode cX7_readLineOf 110 = .ok (.aload_n 0, 1) := by decide +kernel
theorem dX7_readLineOf_111 : decode cX7_readLineOf 111 = .ok (.getfield 20, 3) := by decide +kernel
theorem dX7_readLineOf_114 : decode cX7_readLineOf 114 = .ok (.iconst 5, 1) := by decide +kernel
theorem dX7_readLineOf_115 : decode cX7_readLineOf 115 = .ok (.iconst 1, 1) := by decide +kernel
theorem dX7_readLineOf_116 : decode cX7_readLineOf 116 = .ok (.iastore, 1) := by decide +kernel
theorem dX7_readLineOf_117 : decode cX7_readLineOf 117 = .ok (.goto 15, 3) := by decide +kernel
theorem dX7_readLineOf_120 : decode cX7_readLineOf 120 = .ok (.aload_n 0, 1) := by decide +kernel
theorem dX7_readLineOf_121 : decode cX7_readLineOf 121 = .ok (.invokevirtual 143, 3) := by decide +kernel
theorem dX7_readLineOf_124 : decode cX7_readLineOf 124 = .ok (.goto 8, 3) := by decide +kernel
theorem dX7_readLineOf_127 : decode cX7_readLineOf 127 = .ok (.aload_n 0, 1) := by decide +kernel
theorem dX7_readLineOf_128 : decode cX7_readLineOf 128 = .ok (.iload_n 1, 1) := by decide +kernel
theorem dX7_readLineOf_129 : decode cX7_readLineOf 129 = .ok (.invokevirtual 146, 3) := by decide +kernel
theorem dX7_readLineOf_132 : decode cX7_readLineOf 132 = .ok (.return_, 1) := by decide +kernel
theorem dX7_readLine_0 : decode cX7_readLine 0 = .ok (.aload_n 0, 1) := by decide +kernel
theorem dX7_readLine_1 : decode cX7_readLine 1 = .ok (.getfield 105, 3) := by decide +kernel
theorem dX7_readLine_4 : decode cX7_readLine 4 = .ok (.iconst 1, 1) := by decide +kernel
theorem dX7_readLine_5 : decode cX7_readLine 5 = .ok (.if_icmp .ne 10, 3) := by decide +kernel
theorem dX7_readLine_8 : decode cX7_readLine 8 = .ok (.aload_n 0, 1) := by decide +kernel
theorem dX7_readLine_9 : decode cX7_readLine 9 = .ok (.invokevirtual 150, 3) := by decide +kernel
theorem dX7_readLine_12 : decode cX7_readLine 12 = .ok (.goto 5, 3) := by decide +kernel
theorem dX7_readLine_15 : decode cX7_readLine 15 = .ok (.bipush (-4), 2) := by decide +kernel
theorem dX7_readLine_17 : decode cX7_readLine 17 = .ok (.istore_n 1, 1) := by decide +kernel
theorem dX7_readLine_18 : decode cX7_readLine 18 = .ok (.aload_n 0, 1) := by decide +kernel
theorem dX7_readLine_19 : decode cX7_readLine 19 = .ok (.iload_n 1, 1) := by decide +kernel
theorem dX7_readLine_20 : decode cX7_readLine 20 = .ok (.bipush (-4), 2) := by decide +kernel
theorem dX7_readLine_22 : decode cX7_readLine 22 = .ok (.if_icmp .eq 7, 3) := by decide +kernel
theorem dX7_readLine_25 : decode cX7_readLine 25 = .ok (.iconst 1, 1) := by decide +kernel
theorem dX7_readLine_26 : decode cX7_readLine 26 = .ok (.goto 4, 3) := by decide +kernel
theorem dX7_readLine_29 : decode cX7_readLine 29 = .ok (.iconst 0, 1) := by decide +kernel
theorem dX7_readLine_30 : decode cX7_readLine 30 = .ok (.iconst 2, 1) := by decide +kernel
theorem dX7_readLine_31 : decode cX7_readLine 31 = .ok (.invokevirtual 119, 3) := by decide +kernel
theorem dX7_readLine_34 : decode cX7_readLine 34 = .ok (.aload_n 0, 1) := by decide +kernel
theorem dX7_readLine_35 : decode cX7_readLine 35 = .ok (.iload_n 1, 1) := by decide +kernel
theorem dX7_readLine_36 : decode cX7_readLine 36 = .ok (.iconst 1, 1) := by decide +kernel
theorem dX7_readLine_37 : decode cX7_readLine 37 = .ok (.if_icmp .gt 12, 3) := by decide +kernel
theorem dX7_readLine_40 : decode cX7_readLine 40 = .ok (.aload_n 0, 1) := by decide +kernel
theorem dX7_readLine_41 : decode cX7_readLine 41 = .ok (.getfield 56, 3) := by decide +kernel
theorem dX7_readLine_44 : decode cX7_readLine 44 = .ok (.bipush 6, 2) := by decide +kernel
theorem dX7_readLine_46 : decode cX7_readLine 46 = .ok (.if_icmp .ge 7, 3) := by decide +kernel
theorem dX7_readLine_49 : decode cX7_readLine 49 = .ok (.iconst 1, 1) := by decide +kernel
theorem dX7_readLine_50 : decode cX7_readLine 50 = .ok (.goto 4, 3) := by decide +kernel
theorem dX7_readLine_53 : decode cX7_readLine 53 = .ok (.iconst 0, 1) := by decide +kernel
theorem dX7_readLine_54 : decode cX7_readLine 54 = .ok (.iconst 5, 1) := by decide +kernel
theorem dX7_readLine_55 : decode cX7_readLine 55 = .ok (.invokevirtual 119, 3) := by decide +kernel
theorem dX7_readLine_58 : decode cX7_readLine 58 = .ok (.aload_n 0, 1) := by decide +kernel
theorem dX7_readLine_59 : decode cX7_readLine 59 = .ok (.getfield 81, 3) := by decide +kernel
theorem dX7_readLine_62 : decode cX7_readLine 62 = .ok (.ifCond .ne 50, 3) := by decide +kernel
theorem dX7_readLine_65 : decode cX7_readLine 65 = .ok (.iload_n 1, 1) := by decide +kernel
theorem dX7_readLine_66 : decode cX7_readLine 66 = .ok (.i2l, 1) := by decide +kernel
theorem dX7_readLine_67 : decode cX7_readLine 67 = .ok (.ldc2_w 153, 3) := by decide +kernel
theorem dX7_readLine_70 : decode cX7_readLine 70 = .ok (.ldc2_w 155, 3) := by decide +kernel
theorem dX7_readLine_73 : decode cX7_readLine 73 = .ok (.invokestatic 74, 3) := by decide +kernel
theorem dX7_readLine_76 : decode cX7_readLine 76 = .ok (.ifCond .eq 36, 3) := by decide +kernel
theorem dX7_readLine_79 : decode cX7_readLine 79 = .ok (.aload_n 0, 1) := by decide +kernel
theorem dX7_readLine_80 : decode cX7_readLine 80 = .ok (.aload_n 0, 1) := by decide +kernel
theorem dX7_readLine_81 : decode cX7_readLine 81 = .ok (.getfield 60, 3) := by decide +kernel
theorem dX7_readLine_84 : decode cX7_readLine 84 = .ok (.iload_n 1, 1) := by decide +kernel
theorem dX7_readLine_85 : decode cX7_readLine 85 = .ok (.ishr, 1) := by decide +kernel
theorem dX7_readLine_86 : decode cX7_readLine 86 = .ok (.iconst 1, 1) := by decide +kernel
theorem dX7_readLine_87 : decode cX7_readLine 87 = .ok (.iand, 1) := by decide +kernel
theorem dX7_readLine_88 : decode cX7_readLine 88 = .ok (.ifCond .ne 7, 3) := by decide +kernel
theorem dX7_readLine_91 : decode cX7_readLine 91 = .ok (.iconst 1, 1) := by decide +kernel
theorem dX7_readLine_92 : decode cX7_readLine 92 = .ok (.goto 4, 3) := by decide +kernel
theorem dX7_readLine_95 : decode cX7_readLine 95 = .ok (.iconst 0, 1) := by decide +kernel
theorem dX7_readLine_96 : decode cX7_readLine 96 = .ok (.iconst 4, 1) := by decide +kernel
theorem dX7_readLine_97 : decode cX7_readLine 97 = .ok (.invokevirtual 119, 3) := by decide +kernel
theorem dX7_readLine_100 : decode cX7_readLine 100 = .ok (.aload_n 0, 1) := by decide +kernel
theorem dX7_readLine_101 : decode cX7_readLine 101 = .ok (.dup, 1) := by decide +kernel
theorem dX7_readLine_102 : decode cX7_readLine 102 = .ok (.getfield 60, 3) := by decide +kernel
theorem dX7_readLine_105 : decode cX7_readLine 105 = .ok (.iconst 1, 1) := by decide +kernel
theorem dX7_readLine_106 : decode cX7_readLine 106 = .ok (.iload_n 1, 1) := by decide +kernel
theorem dX7_readLine_107 : decode cX7_readLine 107 = .ok (.ishl, 1) := by decide +kernel
theorem dX7_readLine_108 : decode cX7_readLine 108 = .ok (.ior, 1) := by decide +kernel
theorem dX7_readLine_109 : decode cX7_readLine 109 = .ok (.putfield 60, 3) := by decide +kernel
theorem dX7_readLine_112 : decode cX7_readLine 112 = .ok (.aload_n 0, 1) := by decide +kernel
theorem dX7_readLine_113 : decode cX7_readLine 113 = .ok (.invokevirtual 127, 3) := by decide +kernel
theorem dX7_readLine_116 : decode cX7_readLine 116 = .ok (.aload_n 0, 1) := by decide +kernel
theorem dX7_readLine_117 : decode cX7_readLine 117 = .ok (.getfield 81, 3) := by decide +kernel
theorem dX7_readLine_120 : decode cX7_readLine 120 = .ok (.ifCond .le 4, 3) := by decide +kernel
theorem dX7_readLine_123 : decode cX7_readLine 123 = .ok (.return_, 1) := by decide +kernel
theorem dX7_readLine_124 : decode cX7_readLine 124 = .ok (.aload_n 0, 1) := by decide +kernel
theorem dX7_readLine_125 : decode cX7_readLine 125 = .ok (.iload_n 1, 1) := by decide +kernel
theorem dX7_readLine_126 : decode cX7_readLine 126 = .ok (.invokevirtual 157, 3) := by decide +kernel
theorem dX7_readLine_129 : decode cX7_readLine 129 = .ok (.aload_n 0, 1) := by decide +kernel
theorem dX7_readLine_130 : decode cX7_readLine 130 = .ok (.getfield 81, 3) := by decide +kernel
theorem dX7_readLine_133 : decode cX7_readLine 133 = .ok (.ifCond .ne 21, 3) := by decide +kernel
theorem dX7_readLine_136 : decode cX7_readLine 136 = .ok (.aload_n 0, 1) := by decide +kernel
theorem dX7_readLine_137 : decode cX7_readLine 137 = .ok (.aload_n 0, 1) := by decide +kernel
theorem dX7_readLine_138 : decode cX7_readLine 138 = .ok (.getfield 105, 3) := by decide +kernel
theorem dX7_readLine_141 : decode cX7_readLine 141 = .ok (.iconst 3, 1) := by decide +kernel
theorem dX7_readLine_142 : decode cX7_readLine 142 = .ok (.if_icmp .ne 7, 3) := by decide +kernel
theorem dX7_readLine_145 : decode cX7_readLine 145 = .ok (.iconst 1, 1) := by decide +kernel
theorem dX7_readLine_146 : decode cX7_readLine 146 = .ok (.goto 4, 3) := by decide +kernel
theorem dX7_readLine_149 : decode cX7_readLine 149 = .ok (.iconst 0, 1) := by decide +kernel
theorem dX7_readLine_150 : decode cX7_readLine 150 = .ok (.iconst 2, 1) := by decide +kernel
theorem dX7_readLine_151 : decode cX7_readLine 151 = .ok (.invokevirtual 119, 3) := by decide +kernel
theorem dX7_readLine_154 : decode cX7_readLine 154 = .ok (.aload_n 0, 1) := by decide +kernel
theorem dX7_readLine_155 : decode cX7_readLine 155 = .ok (.invokevirtual 127, 3) := by decide +kernel
theorem dX7_readLine_158 : decode cX7_readLine 158 = .ok (.return_, 1) := by decide +kernel
theorem dX7_text_0 : decode cX7_text 0 = .ok (.iconst 0, 1) := by decide +kernel
theorem dX7_text_1 : decode cX7_text 1 = .ok (.istore_n 1, 1) := by decide +kernel
theorem dX7_text_2 : decode cX7_text 2 = .ok (.aload_n 0, 1) := by decide +kernel
theorem dX7_text_3 : decode cX7_text 3 = .ok (.iconst 0, 1) := by decide +kernel
theorem dX7_text_4 : decode cX7_text 4 = .ok (.putfield 81, 3) := by decide +kernel
theorem dX7_text_7 : decode cX7_text 7 = .ok (.aload_n 0, 1) := by decide +kernel
theorem dX7_text_8 : decode cX7_text 8 = .ok (.iconst 0, 1) := by decide +kernel
theorem dX7_text_9 : decode cX7_text 9 = .ok (.putfield 90, 3) := by decide +kernel
theorem dX7_text_12 : decode cX7_text 12 = .ok (.aload_n 0, 1) := by decide +kernel
theorem dX7_text_13 : decode cX7_text 13 = .ok (.invokevirtual 50, 3) := by decide +kernel
theorem dX7_text_16 : decode cX7_text 16 = .ok (.aload_n 0, 1) := by decide +kernel
theorem dX7_text_17 : decode cX7_text 17 = .ok (.invokevirtual 127, 3) := by decide +kernel
theorem dX7_text_20 : decode cX7_text 20 = .ok (.aload_n 0, 1) := by decide +kernel
theorem dX7_text_21 : decode cX7_text 21 = .ok (.getfield 81, 3) := by decide +kernel
theorem dX7_text_24 : decode cX7_text 24 = .ok (.ifCond .ne 20, 3) := by decide +kernel
theorem dX7_text_27 : decode cX7_text 27 = .ok (.aload_n 0, 1) := by decide +kernel
theorem dX7_text_28 : decode cX7_text 28 = .ok (.getfield 105, 3) := by decide +kernel
theorem dX7_text_31 : decode cX7_text 31 = .ok (.ifCond .eq 13, 3) := by decide +kernel
theorem dX7_text_34 : decode cX7_text 34 = .ok (.aload_n 0, 1) := by decide +kernel
theorem dX7_text_35 : decode cX7_text 35 = .ok (.invokevirtual 160, 3) := by decide +kernel
theorem dX7_text_38 : decode cX7_text 38 = .ok (.iinc 1 1, 3) := by decide +kernel
theorem dX7_text_41 : decode cX7_text 41 = .ok (.goto (-21), 3) := by decide +kernel
theorem dX7_text_44 : decode cX7_text 44 = .ok (.aload_n 0, 1) := by decide +kernel
theorem dX7_text_45 : decode cX7_text 45 = .ok (.getfield 81, 3) := by decide +kernel
theorem dX7_text_48 : decode cX7_text 48 = .ok (.ifCond .ne 25, 3) := by decide +kernel
theorem dX7_text_51 : decode cX7_text 51 = .ok (.aload_n 0, 1) := by decide +kernel
theorem dX7_text_52 : decode cX7_text 52 = .ok (.aload_n 0, 1) := by decide +kernel
theorem dX7_text_53 : decode cX7_text 53 = .ok (.getfield 66, 3) := by decide +kernel
theorem dX7_text_56 : decode cX7_text 56 = .ok (.aload_n 0, 1) := by decide +kernel
theorem dX7_text_57 : decode cX7_text 57 = .ok (.getfield 56, 3) := by decide +kernel
theorem dX7_text_60 : decode cX7_text 60 = .ok (.if_icmp .ge 7, 3) := by decide +kernel
theorem dX7_text_63 : decode cX7_text 63 = .ok (.iconst 1, 1) := by decide +kernel
theorem dX7_text_64 : decode cX7_text 64 = .ok (.goto 4, 3) := by decide +kernel
theorem dX7_text_67 : decode cX7_text 67 = .ok (.iconst 0, 1) := by decide +kernel
theorem dX7_text_68 : decode cX7_text 68 = .ok (.bipush 6, 2) := by decide +kernel
theorem dX7_text_70 : decode cX7_text 70 = .ok (.invokevirtual 119, 3) := by decide +kernel
theorem dX7_text_73 : decode cX7_text 73 = .ok (.aload_n 0, 1) := by decide +kernel
theorem dX7_text_74 : decode cX7_text 74 = .ok (.iconst 0, 1) := by decide +kernel
theorem dX7_text_75 : decode cX7_text 75 = .ok (.putfield 78, 3) := by decide +kernel
theorem dX7_text_78 : decode cX7_text 78 = .ok (.aload_n 0, 1) := by decide +kernel
theorem dX7_text_79 : decode cX7_text 79 = .ok (.getfield 81, 3) := by decide +kernel
theorem dX7_text_82 : decode cX7_text 82 = .ok (.ifCond .le 11, 3) := by decide +kernel
theorem dX7_text_85 : decode cX7_text 85 = .ok (.bipush (-10), 2) := by decide +kernel
theorem dX7_text_87 : decode cX7_text 87 = .ok (.aload_n 0, 1) := by decide +kernel
theorem dX7_text_88 : decode cX7_text 88 = .ok (.getfield 87, 3) := by decide +kernel
theorem dX7_text_91 : decode cX7_text 91 = .ok (.isub, 1) := by decide +kernel
theorem dX7_text_92 : decode cX7_text 92 = .ok (.ireturn, 1) := by decide +kernel
theorem dX7_text_93 : decode cX7_text 93 = .ok (.aload_n 0, 1) := by decide +kernel
theorem dX7_text_94 : decode cX7_text 94 = .ok (.invokevirtual 53, 3) := by decide +kernel
theorem dX7_text_97 : decode cX7_text 97 = .ok (.iload_n 1, 1) := by decide +kernel
theorem dX7_text_98 : decode cX7_text 98 = .ok (.ireturn, 1) := by decide +kernel
theorem dX7_fault_0 : decode cX7_fault 0 = .ok (.aload_n 0, 1) := by decide +kernel
theorem dX7_fault_1 : decode cX7_fault 1 = .ok (.getfield 81, 3) := by decide +kernel
theorem dX7_fault_4 : decode cX7_fault 4 = .ok (.ireturn, 1) := by decide +kernel
theorem dX7_isBoat_0 : decode cX7_isBoat 0 = .ok (.iload_n 1, 1) := by decide +kernel
theorem dX7_isBoat_1 : decode cX7_isBoat 1 = .ok (.i2l, 1) := by decide +kernel
theorem dX7_isBoat_2 : decode cX7_isBoat 2 = .ok (.lconst 0, 1) := by decide +kernel
theorem dX7_isBoat_3 : decode cX7_isBoat 3 = .ok (.aload_n 0, 1) := by decide +kernel
theorem dX7_isBoat_4 : decode cX7_isBoat 4 = .ok (.getfield 69, 3) := by decide +kernel
theorem dX7_isBoat_7 : decode cX7_isBoat 7 = .ok (.iconst 1, 1) := by decide +kernel
theorem dX7_isBoat_8 : decode cX7_isBoat 8 = .ok (.isub, 1) := by decide +kernel
theorem dX7_isBoat_9 : decode cX7_isBoat 9 = .ok (.i2l, 1) := by decide +kernel
theorem dX7_isBoat_10 : decode cX7_isBoat 10 = .ok (.invokestatic 74, 3) := by decide +kernel
theorem dX7_isBoat_13 : decode cX7_isBoat 13 = .ok (.ireturn, 1) := by decide +kernel
theorem dX7_isPart_0 : decode cX7_isPart 0 = .ok (.iload_n 0, 1) := by decide +kernel
theorem dX7_isPart_1 : decode cX7_isPart 1 = .ok (.i2l, 1) := by decide +kernel
theorem dX7_isPart_2 : decode cX7_isPart 2 = .ok (.lconst 0, 1) := by decide +kernel
theorem dX7_isPart_3 : decode cX7_isPart 3 = .ok (.lconst 1, 1) := by decide +kernel
theorem dX7_isPart_4 : decode cX7_isPart 4 = .ok (.invokestatic 74, 3) := by decide +kernel
theorem dX7_isPart_7 : decode cX7_isPart 7 = .ok (.ireturn, 1) := by decide +kernel
theorem dX7_starts_0 : decode cX7_starts 0 = .ok (.iconst 0, 1) := by decide +kernel
theorem dX7_starts_1 : decode cX7_starts 1 = .ok (.istore_n 1, 1) := by decide +kernel
theorem dX7_starts_2 : decode cX7_starts 2 = .ok (.iload_n 1, 1) := by decide +kernel
theorem dX7_starts_3 : decode cX7_starts 3 = .ok (.bipush 55, 2) := by decide +kernel
theorem dX7_starts_5 : decode cX7_starts 5 = .ok (.if_icmp .ge 21, 3) := by decide +kernel
theorem dX7_starts_8 : decode cX7_starts 8 = .ok (.aload_n 0, 1) := by decide +kernel
theorem dX7_starts_9 : decode cX7_starts 9 = .ok (.getfield 13, 3) := by decide +kernel
theorem dX7_starts_12 : decode cX7_starts 12 = .ok (.iload_n 1, 1) := by decide +kernel
theorem dX7_starts_13 : decode cX7_starts 13 = .ok (.aload_n 0, 1) := by decide +kernel
theorem dX7_starts_14 : decode cX7_starts 14 = .ok (.getfield 7, 3) := by decide +kernel
theorem dX7_starts_17 : decode cX7_starts 17 = .ok (.iload_n 1, 1) := by decide +kernel
theorem dX7_starts_18 : decode cX7_starts 18 = .ok (.iaload, 1) := by decide +kernel
theorem dX7_starts_19 : decode cX7_starts 19 = .ok (.iastore, 1) := by decide +kernel
theorem dX7_starts_20 : decode cX7_starts 20 = .ok (.iinc 1 1, 3) := by decide +kernel
theorem dX7_starts_23 : decode cX7_starts 23 = .ok (.goto (-21), 3) := by decide +kernel
theorem dX7_starts_26 : decode cX7_starts 26 = .ok (.aload_n 0, 1) := by decide +kernel
theorem dX7_starts_27 : decode cX7_starts 27 = .ok (.iconst 0, 1) := by decide +kernel
theorem dX7_starts_28 : decode cX7_starts 28 = .ok (.putfield 163, 3) := by decide +kernel
theorem dX7_starts_31 : decode cX7_starts 31 = .ok (.return_, 1) := by decide +kernel
theorem dX7_of_0 : decode cX7_of 0 = .ok (.aload_n 0, 1) := by decide +kernel
theorem dX7_of_1 : decode cX7_of 1 = .ok (.getfield 13, 3) := by decide +kernel
theorem dX7_of_4 : decode cX7_of 4 = .ok (.bipush 6, 2) := by decide +kernel
theorem dX7_of_6 : decode cX7_of 6 = .ok (.bipush 6, 2) := by decide +kernel
theorem dX7_of_8 : decode cX7_of 8 = .ok (.iload_n 1, 1) := by decide +kernel
theorem dX7_of_9 : decode cX7_of 9 = .ok (.imul, 1) := by decide +kernel
theorem dX7_of_10 : decode cX7_of 10 = .ok (.iadd, 1) := by decide +kernel
theorem dX7_of_11 : decode cX7_of 11 = .ok (.iload_n 2, 1) := by decide +kernel
theorem dX7_of_12 : decode cX7_of 12 = .ok (.iadd, 1) := by decide +kernel
theorem dX7_of_13 : decode cX7_of 13 = .ok (.iaload, 1) := by decide +kernel
theorem dX7_of_14 : decode cX7_of 14 = .ok (.ireturn, 1) := by decide +kernel
theorem dX7_becomesOf_0 : decode cX7_becomesOf 0 = .ok (.aload_n 0, 1) := by decide +kernel
theorem dX7_becomesOf_1 : decode cX7_becomesOf 1 = .ok (.getfield 13, 3) := by decide +kernel
theorem dX7_becomesOf_4 : decode cX7_becomesOf 4 = .ok (.bipush 6, 2) := by decide +kernel
theorem dX7_becomesOf_6 : decode cX7_becomesOf 6 = .ok (.bipush 6, 2) := by decide +kernel
theorem dX7_becomesOf_8 : decode cX7_becomesOf 8 = .ok (.iload_n 1, 1) := by decide +kernel
theorem dX7_becomesOf_9 : decode cX7_becomesOf 9 = .ok (.imul, 1) := by decide +kernel
theorem dX7_becomesOf_10 : decode cX7_becomesOf 10 = .ok (.iadd, 1) := by decide +kernel
theorem dX7_becomesOf_11 : decode cX7_becomesOf 11 = .ok (.iload_n 2, 1) := by decide +kernel
theorem dX7_becomesOf_12 : decode cX7_becomesOf 12 = .ok (.iadd, 1) := by decide +kernel
theorem dX7_becomesOf_13 : decode cX7_becomesOf 13 = .ok (.iload_n 3, 1) := by decide +kernel
theorem dX7_becomesOf_14 : decode cX7_becomesOf 14 = .ok (.iastore, 1) := by decide +kernel
theorem dX7_becomesOf_15 : decode cX7_becomesOf 15 = .ok (.return_, 1) := by decide +kernel
theorem dX7_countsFrom_0 : decode cX7_countsFrom 0 = .ok (.aload_n 0, 1) := by decide +kernel
theorem dX7_countsFrom_1 : decode cX7_countsFrom 1 = .ok (.getfield 13, 3) := by decide +kernel
theorem dX7_countsFrom_4 : decode cX7_countsFrom 4 = .ok (.iconst 5, 1) := by decide +kernel
theorem dX7_countsFrom_5 : decode cX7_countsFrom 5 = .ok (.iaload, 1) := by decide +kernel
theorem dX7_countsFrom_6 : decode cX7_countsFrom 6 = .ok (.iconst 1, 1) := by decide +kernel
theorem dX7_countsFrom_7 : decode cX7_countsFrom 7 = .ok (.if_icmp .ne 22, 3) := by decide +kernel
theorem dX7_countsFrom_10 : decode cX7_countsFrom 10 = .ok (.aload_n 0, 1) := by decide +kernel
theorem dX7_countsFrom_11 : decode cX7_countsFrom 11 = .ok (.iload_n 1, 1) := by decide +kernel
theorem dX7_countsFrom_12 : decode cX7_countsFrom 12 = .ok (.iconst 4, 1) := by decide +kernel
theorem dX7_countsFrom_13 : decode cX7_countsFrom 13 = .ok (.invokevirtual 166, 3) := by decide +kernel
theorem dX7_countsFrom_16 : decode cX7_countsFrom 16 = .ok (.aload_n 0, 1) := by decide +kernel
theorem dX7_countsFrom_17 : decode cX7_countsFrom 17 = .ok (.getfield 13, 3) := by decide +kernel
theorem dX7_countsFrom_20 : decode cX7_countsFrom 20 = .ok (.iconst 4, 1) := by decide +kernel
theorem dX7_countsFrom_21 : decode cX7_countsFrom 21 = .ok (.iaload, 1) := by decide +kernel
theorem dX7_countsFrom_22 : decode cX7_countsFrom 22 = .ok (.if_icmp .le 7, 3) := by decide +kernel
theorem dX7_countsFrom_25 : decode cX7_countsFrom 25 = .ok (.iconst 1, 1) := by decide +kernel
theorem dX7_countsFrom_26 : decode cX7_countsFrom 26 = .ok (.goto 4, 3) := by decide +kernel
theorem dX7_countsFrom_29 : decode cX7_countsFrom 29 = .ok (.iconst 0, 1) := by decide +kernel
theorem dX7_countsFrom_30 : decode cX7_countsFrom 30 = .ok (.istore_n 2, 1) := by decide +kernel
theorem dX7_countsFrom_31 : decode cX7_countsFrom 31 = .ok (.aload_n 0, 1) := by decide +kernel
theorem dX7_countsFrom_32 : decode cX7_countsFrom 32 = .ok (.iload_n 1, 1) := by decide +kernel
theorem dX7_countsFrom_33 : decode cX7_countsFrom 33 = .ok (.iconst 2, 1) := by decide +kernel
theorem dX7_countsFrom_34 : decode cX7_countsFrom 34 = .ok (.invokevirtual 166, 3) := by decide +kernel
theorem dX7_countsFrom_37 : decode cX7_countsFrom 37 = .ok (.iload_n 2, 1) := by decide +kernel
theorem dX7_countsFrom_38 : decode cX7_countsFrom 38 = .ok (.ifCond .eq 12, 3) := by decide +kernel
theorem dX7_countsFrom_41 : decode cX7_countsFrom 41 = .ok (.aload_n 0, 1) := by decide +kernel
theorem dX7_countsFrom_42 : decode cX7_countsFrom 42 = .ok (.iload_n 1, 1) := by decide +kernel
theorem dX7_countsFrom_43 : decode cX7_countsFrom 43 = .ok (.iconst 4, 1) := by decide +kernel
theorem dX7_countsFrom_44 : decode cX7_countsFrom 44 = .ok (.invokevirtual 166, 3) := by decide +kernel
theorem dX7_countsFrom_47 : decode cX7_countsFrom 47 = .ok (.goto 9, 3) := by decide +kernel
theorem dX7_countsFrom_50 : decode cX7_countsFrom 50 = .ok (.aload_n 0, 1) := by decide +kernel
theorem dX7_countsFrom_51 : decode cX7_countsFrom 51 = .ok (.getfield 13, 3) := by decide +kernel
theorem dX7_countsFrom_54 : decode cX7_countsFrom 54 = .ok (.iconst 4, 1) := by decide +kernel
theorem dX7_countsFrom_55 : decode cX7_countsFrom 55 = .ok (.iaload, 1) := by decide +kernel
theorem dX7_countsFrom_56 : decode cX7_countsFrom 56 = .ok (.isub, 1) := by decide +kernel
theorem dX7_countsFrom_57 : decode cX7_countsFrom 57 = .ok (.istore_n 3, 1) := by decide +kernel
theorem dX7_countsFrom_58 : decode cX7_countsFrom 58 = .ok (.iload_n 3, 1) := by decide +kernel
theorem dX7_countsFrom_59 : decode cX7_countsFrom 59 = .ok (.ifCond .le 7, 3) := by decide +kernel
theorem dX7_countsFrom_62 : decode cX7_countsFrom 62 = .ok (.iload_n 3, 1) := by decide +kernel
theorem dX7_countsFrom_63 : decode cX7_countsFrom 63 = .ok (.goto 4, 3) := by decide +kernel
theorem dX7_countsFrom_66 : decode cX7_countsFrom 66 = .ok (.iconst 0, 1) := by decide +kernel
theorem dX7_countsFrom_67 : decode cX7_countsFrom 67 = .ok (.ireturn, 1) := by decide +kernel
theorem dX7_cargoTold_0 : decode cX7_cargoTold 0 = .ok (.aload_n 0, 1) := by decide +kernel
theorem dX7_cargoTold_1 : decode cX7_cargoTold 1 = .ok (.iload_n 1, 1) := by decide +kernel
theorem dX7_cargoTold_2 : decode cX7_cargoTold 2 = .ok (.iconst 5, 1) := by decide +kernel
theorem dX7_cargoTold_3 : decode cX7_cargoTold 3 = .ok (.invokevirtual 166, 3) := by decide +kernel
theorem dX7_cargoTold_6 : decode cX7_cargoTold 6 = .ok (.ifCond .ne 12, 3) := by decide +kernel
theorem dX7_cargoTold_9 : decode cX7_cargoTold 9 = .ok (.aload_n 0, 1) := by decide +kernel
theorem dX7_cargoTold_10 : decode cX7_cargoTold 10 = .ok (.iload_n 1, 1) := by decide +kernel
theorem dX7_cargoTold_11 : decode cX7_cargoTold 11 = .ok (.iconst 1, 1) := by decide +kernel
theorem dX7_cargoTold_12 : decode cX7_cargoTold 12 = .ok (.invokevirtual 166, 3) := by decide +kernel
theorem dX7_cargoTold_15 : decode cX7_cargoTold 15 = .ok (.goto 20, 3) := by decide +kernel
theorem dX7_cargoTold_18 : decode cX7_cargoTold 18 = .ok (.aload_n 0, 1) := by decide +kernel
theorem dX7_cargoTold_19 : decode cX7_cargoTold 19 = .ok (.getfield 163, 3) := by decide +kernel
theorem dX7_cargoTold_22 : decode cX7_cargoTold 22 = .ok (.iload_n 1, 1) := by decide +kernel
theorem dX7_cargoTold_23 : decode cX7_cargoTold 23 = .ok (.ishr, 1) := by decide +kernel
theorem dX7_cargoTold_24 : decode cX7_cargoTold 24 = .ok (.iconst 1, 1) := by decide +kernel
theorem dX7_cargoTold_25 : decode cX7_cargoTold 25 = .ok (.iand, 1) := by decide +kernel
theorem dX7_cargoTold_26 : decode cX7_cargoTold 26 = .ok (.iconst 1, 1) := by decide +kernel
theorem dX7_cargoTold_27 : decode cX7_cargoTold 27 = .ok (.if_icmp .ne 7, 3) := by decide +kernel
theorem dX7_cargoTold_30 : decode cX7_cargoTold 30 = .ok (.iconst 4, 1) := by decide +kernel
theorem dX7_cargoTold_31 : decode cX7_cargoTold 31 = .ok (.goto 4, 3) := by decide +kernel
theorem dX7_cargoTold_34 : decode cX7_cargoTold 34 = .ok (.iconst 0, 1) := by decide +kernel
theorem dX7_cargoTold_35 : decode cX7_cargoTold 35 = .ok (.ireturn, 1) := by decide +kernel
theorem dX7_opens_0 : decode cX7_opens 0 = .ok (.aload_n 0, 1) := by decide +kernel
theorem dX7_opens_1 : decode cX7_opens 1 = .ok (.iconst 0, 1) := by decide +kernel
theorem dX7_opens_2 : decode cX7_opens 2 = .ok (.putfield 169, 3) := by decide +kernel
theorem dX7_opens_5 : decode cX7_opens 5 = .ok (.aload_n 0, 1) := by decide +kernel
theorem dX7_opens_6 : decode cX7_opens 6 = .ok (.iconst 0, 1) := by decide +kernel
theorem dX7_opens_7 : decode cX7_opens 7 = .ok (.putfield 172, 3) := by decide +kernel
theorem dX7_opens_10 : decode cX7_opens 10 = .ok (.aload_n 0, 1) := by decide +kernel
theorem dX7_opens_11 : decode cX7_opens 11 = .ok (.aload_n 0, 1) := by decide +kernel
theorem dX7_opens_12 : decode cX7_opens 12 = .ok (.getfield 13, 3) := by decide +kernel
theorem dX7_opens_15 : decode cX7_opens 15 = .ok (.iconst 2, 1) := by decide +kernel
theorem dX7_opens_16 : decode cX7_opens 16 = .ok (.iaload, 1) := by decide +kernel
theorem dX7_opens_17 : decode cX7_opens 17 = .ok (.putfield 175, 3) := by decide +kernel
theorem dX7_opens_20 : decode cX7_opens 20 = .ok (.aload_n 0, 1) := by decide +kernel
theorem dX7_opens_21 : decode cX7_opens 21 = .ok (.iconst 0, 1) := by decide +kernel
theorem dX7_opens_22 : decode cX7_opens 22 = .ok (.putfield 178, 3) := by decide +kernel
theorem dX7_opens_25 : decode cX7_opens 25 = .ok (.aload_n 0, 1) := by decide +kernel
theorem dX7_opens_26 : decode cX7_opens 26 = .ok (.iconst 0, 1) := by decide +kernel
theorem dX7_opens_27 : decode cX7_opens 27 = .ok (.putfield 181, 3) := by decide +kernel
theorem dX7_opens_30 : decode cX7_opens 30 = .ok (.return_, 1) := by decide +kernel
theorem dX7_lets_0 : decode cX7_lets 0 = .ok (.aload_n 0, 1) := by decide +kernel
theorem dX7_lets_1 : decode cX7_lets 1 = .ok (.iload_n 1, 1) := by decide +kernel
theorem dX7_lets_2 : decode cX7_lets 2 = .ok (.iconst 0, 1) := by decide +kernel
theorem dX7_lets_3 : decode cX7_lets 3 = .ok (.invokevirtual 166, 3) := by decide +kernel
theorem dX7_lets_6 : decode cX7_lets 6 = .ok (.istore_n 2, 1) := by decide +kernel
theorem dX7_lets_7 : decode cX7_lets 7 = .ok (.iload_n 2, 1) := by decide +kernel
theorem dX7_lets_8 : decode cX7_lets 8 = .ok (.aload_n 0, 1) := by decide +kernel
theorem dX7_lets_9 : decode cX7_lets 9 = .ok (.getfield 175, 3) := by decide +kernel
theorem dX7_lets_12 : decode cX7_lets 12 = .ok (.if_icmp .eq 50, 3) := by decide +kernel
theorem dX7_lets_15 : decode cX7_lets 15 = .ok (.aload_n 0, 1) := by decide +kernel
theorem dX7_lets_16 : decode cX7_lets 16 = .ok (.dup, 1) := by decide +kernel
theorem dX7_lets_17 : decode cX7_lets 17 = .ok (.getfield 172, 3) := by decide +kernel
theorem dX7_lets_20 : decode cX7_lets 20 = .ok (.aload_n 0, 1) := by decide +kernel
theorem dX7_lets_21 : decode cX7_lets 21 = .ok (.getfield 13, 3) := by decide +kernel
theorem dX7_lets_24 : decode cX7_lets 24 = .ok (.iconst 1, 1) := by decide +kernel
theorem dX7_lets_25 : decode cX7_lets 25 = .ok (.iaload, 1) := by decide +kernel
theorem dX7_lets_26 : decode cX7_lets 26 = .ok (.iadd, 1) := by decide +kernel
theorem dX7_lets_27 : decode cX7_lets 27 = .ok (.putfield 172, 3) := by decide +kernel
theorem dX7_lets_30 : decode cX7_lets 30 = .ok (.aload_n 0, 1) := by decide +kernel
theorem dX7_lets_31 : decode cX7_lets 31 = .ok (.dup, 1) := by decide +kernel
theorem dX7_lets_32 : decode cX7_lets 32 = .ok (.getfield 181, 3) := by decide +kernel
theorem dX7_lets_35 : decode cX7_lets 35 = .ok (.iconst 1, 1) := by decide +kernel
theorem dX7_lets_36 : decode cX7_lets 36 = .ok (.iadd, 1) := by decide +kernel
theorem dX7_lets_37 : decode cX7_lets 37 = .ok (.putfield 181, 3) := by decide +kernel
theorem dX7_lets_40 : decode cX7_lets 40 = .ok (.aload_n 0, 1) := by decide +kernel
theorem dX7_lets_41 : decode cX7_lets 41 = .ok (.dup, 1) := by decide +kernel
theorem dX7_lets_42 : decode cX7_lets 42 = .ok (.getfield 178, 3) := by decide +kernel
theorem dX7_lets_45 : decode cX7_lets 45 = .ok (.iload_n 2, 1) := by decide +kernel
theorem dX7_lets_46 : decode cX7_lets 46 = .ok (.iconst 1, 1) := by decide +kernel
theorem dX7_lets_47 : decode cX7_lets 47 = .ok (.if_icmp .ne 7, 3) := by decide +kernel
theorem dX7_lets_50 : decode cX7_lets 50 = .ok (.iconst 1, 1) := by decide +kernel
theorem dX7_lets_51 : decode cX7_lets 51 = .ok (.goto 4, 3) := by decide +kernel
theorem dX7_lets_54 : decode cX7_lets 54 = .ok (.iconst 0, 1) := by decide +kernel
theorem dX7_lets_55 : decode cX7_lets 55 = .ok (.invokestatic 184, 3) := by decide +kernel
theorem dX7_lets_58 : decode cX7_lets 58 = .ok (.iadd, 1) := by decide +kernel
theorem dX7_lets_59 : decode cX7_lets 59 = .ok (.putfield 178, 3) := by decide +kernel
theorem dX7_lets_62 : decode cX7_lets 62 = .ok (.aload_n 0, 1) := by decide +kernel
theorem dX7_lets_63 : decode cX7_lets 63 = .ok (.getfield 172, 3) := by decide +kernel
theorem dX7_lets_66 : decode cX7_lets 66 = .ok (.aload_n 0, 1) := by decide +kernel
theorem dX7_lets_67 : decode cX7_lets 67 = .ok (.iload_n 1, 1) := by decide +kernel
theorem dX7_lets_68 : decode cX7_lets 68 = .ok (.iconst 2, 1) := by decide +kernel
theorem dX7_lets_69 : decode cX7_lets 69 = .ok (.invokevirtual 166, 3) := by decide +kernel
theorem dX7_lets_72 : decode cX7_lets 72 = .ok (.if_icmp .le 10, 3) := by decide +kernel
theorem dX7_lets_75 : decode cX7_lets 75 = .ok (.aload_n 0, 1) := by decide +kernel
theorem dX7_lets_76 : decode cX7_lets 76 = .ok (.getfield 172, 3) := by decide +kernel
theorem dX7_lets_79 : decode cX7_lets 79 = .ok (.goto 9, 3) := by decide +kernel
theorem dX7_lets_82 : decode cX7_lets 82 = .ok (.aload_n 0, 1) := by decide +kernel
theorem dX7_lets_83 : decode cX7_lets 83 = .ok (.iload_n 1, 1) := by decide +kernel
theorem dX7_lets_84 : decode cX7_lets 84 = .ok (.iconst 2, 1) := by decide +kernel
theorem dX7_lets_85 : decode cX7_lets 85 = .ok (.invokevirtual 166, 3) := by decide +kernel
theorem dX7_lets_88 : decode cX7_lets 88 = .ok (.istore_n 3, 1) := by decide +kernel
theorem dX7_lets_89 : decode cX7_lets 89 = .ok (.aload_n 0, 1) := by decide +kernel
theorem dX7_lets_90 : decode cX7_lets 90 = .ok (.getfield 32, 3) := by decide +kernel
theorem dX7_lets_93 : decode cX7_lets 93 = .ok (.iload_n 1, 1) := by decide +kernel
theorem dX7_lets_94 : decode cX7_lets 94 = .ok (.iload_n 3, 1) := by decide +kernel
theorem dX7_lets_95 : decode cX7_lets 95 = .ok (.aload_n 0, 1) := by decide +kernel
theorem dX7_lets_96 : decode cX7_lets 96 = .ok (.iload_n 1, 1) := by decide +kernel
theorem dX7_lets_97 : decode cX7_lets 97 = .ok (.iconst 2, 1) := by decide +kernel
theorem dX7_lets_98 : decode cX7_lets 98 = .ok (.invokevirtual 166, 3) := by decide +kernel
theorem dX7_lets_101 : decode cX7_lets 101 = .ok (.isub, 1) := by decide +kernel
theorem dX7_lets_102 : decode cX7_lets 102 = .ok (.iastore, 1) := by decide +kernel
theorem dX7_lets_103 : decode cX7_lets 103 = .ok (.aload_n 0, 1) := by decide +kernel
theorem dX7_lets_104 : decode cX7_lets 104 = .ok (.iload_n 3, 1) := by decide +kernel
theorem dX7_lets_105 : decode cX7_lets 105 = .ok (.aload_n 0, 1) := by decide +kernel
theorem dX7_lets_106 : decode cX7_lets 106 = .ok (.getfield 13, 3) := by decide +kernel
theorem dX7_lets_109 : decode cX7_lets 109 = .ok (.iconst 0, 1) := by decide +kernel
theorem dX7_lets_110 : decode cX7_lets 110 = .ok (.iaload, 1) := by decide +kernel
theorem dX7_lets_111 : decode cX7_lets 111 = .ok (.iadd, 1) := by decide +kernel
theorem dX7_lets_112 : decode cX7_lets 112 = .ok (.putfield 172, 3) := by decide +kernel
theorem dX7_lets_115 : decode cX7_lets 115 = .ok (.aload_n 0, 1) := by decide +kernel
theorem dX7_lets_116 : decode cX7_lets 116 = .ok (.getfield 29, 3) := by decide +kernel
theorem dX7_lets_119 : decode cX7_lets 119 = .ok (.iload_n 1, 1) := by decide +kernel
theorem dX7_lets_120 : decode cX7_lets 120 = .ok (.aload_n 0, 1) := by decide +kernel
theorem dX7_lets_121 : decode cX7_lets 121 = .ok (.getfield 172, 3) := by decide +kernel
theorem dX7_lets_124 : decode cX7_lets 124 = .ok (.iastore, 1) := by decide +kernel
theorem dX7_lets_125 : decode cX7_lets 125 = .ok (.aload_n 0, 1) := by decide +kernel
theorem dX7_lets_126 : decode cX7_lets 126 = .ok (.iconst 1, 1) := by decide +kernel
theorem dX7_lets_127 : decode cX7_lets 127 = .ok (.iload_n 2, 1) := by decide +kernel
theorem dX7_lets_128 : decode cX7_lets 128 = .ok (.isub, 1) := by decide +kernel
theorem dX7_lets_129 : decode cX7_lets 129 = .ok (.putfield 175, 3) := by decide +kernel
theorem dX7_lets_132 : decode cX7_lets 132 = .ok (.aload_n 0, 1) := by decide +kernel
theorem dX7_lets_133 : decode cX7_lets 133 = .ok (.dup, 1) := by decide +kernel
theorem dX7_lets_134 : decode cX7_lets 134 = .ok (.getfield 178, 3) := by decide +kernel
theorem dX7_lets_137 : decode cX7_lets 137 = .ok (.iload_n 2, 1) := by decide +kernel
theorem dX7_lets_138 : decode cX7_lets 138 = .ok (.ifCond .ne 7, 3) := by decide +kernel
theorem dX7_lets_141 : decode cX7_lets 141 = .ok (.iconst 1, 1) := by decide +kernel
theorem dX7_lets_142 : decode cX7_lets 142 = .ok (.goto 4, 3) := by decide +kernel
theorem dX7_lets_145 : decode cX7_lets 145 = .ok (.iconst 0, 1) := by decide +kernel
theorem dX7_lets_146 : decode cX7_lets 146 = .ok (.invokestatic 184, 3) := by decide +kernel
theorem dX7_lets_149 : decode cX7_lets 149 = .ok (.iadd, 1) := by decide +kernel
theorem dX7_lets_150 : decode cX7_lets 150 = .ok (.putfield 178, 3) := by decide +kernel
theorem dX7_lets_153 : decode cX7_lets 153 = .ok (.aload_n 0, 1) := by decide +kernel
theorem dX7_lets_154 : decode cX7_lets 154 = .ok (.getfield 26, 3) := by decide +kernel
theorem dX7_lets_157 : decode cX7_lets 157 = .ok (.aload_n 0, 1) := by decide +kernel
theorem dX7_lets_158 : decode cX7_lets 158 = .ok (.getfield 169, 3) := by decide +kernel
theorem dX7_lets_161 : decode cX7_lets 161 = .ok (.iload_n 1, 1) := by decide +kernel
theorem dX7_lets_162 : decode cX7_lets 162 = .ok (.iastore, 1) := by decide +kernel
theorem dX7_lets_163 : decode cX7_lets 163 = .ok (.aload_n 0, 1) := by decide +kernel
theorem dX7_lets_164 : decode cX7_lets 164 = .ok (.dup, 1) := by decide +kernel
theorem dX7_lets_165 : decode cX7_lets 165 = .ok (.getfield 169, 3) := by decide +kernel
theorem dX7_lets_168 : decode cX7_lets 168 = .ok (.iconst 1, 1) := by decide +kernel
theorem dX7_lets_169 : decode cX7_lets 169 = .ok (.iadd, 1) := by decide +kernel
theorem dX7_lets_170 : decode cX7_lets 170 = .ok (.putfield 169, 3) := by decide +kernel
theorem dX7_lets_173 : decode cX7_lets 173 = .ok (.return_, 1) := by decide +kernel
theorem dX7_sideOf_0 : decode cX7_sideOf 0 = .ok (.aload_n 0, 1) := by decide +kernel
theorem dX7_sideOf_1 : decode cX7_sideOf 1 = .ok (.aload_n 0, 1) := by decide +kernel
theorem dX7_sideOf_2 : decode cX7_sideOf 2 = .ok (.getfield 26, 3) := by decide +kernel
theorem dX7_sideOf_5 : decode cX7_sideOf 5 = .ok (.iload_n 1, 1) := by decide +kernel
theorem dX7_sideOf_6 : decode cX7_sideOf 6 = .ok (.iaload, 1) := by decide +kernel
theorem dX7_sideOf_7 : decode cX7_sideOf 7 = .ok (.iconst 0, 1) := by decide +kernel
theorem dX7_sideOf_8 : decode cX7_sideOf 8 = .ok (.invokevirtual 166, 3) := by decide +kernel
theorem dX7_sideOf_11 : decode cX7_sideOf 11 = .ok (.ireturn, 1) := by decide +kernel
theorem dX7_comeFrom_0 : decode cX7_comeFrom 0 = .ok (.iconst 0, 1) := by decide +kernel
theorem dX7_comeFrom_1 : decode cX7_comeFrom 1 = .ok (.istore_n 3, 1) := by decide +kernel
theorem dX7_comeFrom_2 : decode cX7_comeFrom 2 = .ok (.iconst 0, 1) := by decide +kernel
theorem dX7_comeFrom_3 : decode cX7_comeFrom 3 = .ok (.istore 4, 2) := by decide +kernel
theorem dX7_comeFrom_5 : decode cX7_comeFrom 5 = .ok (.iload 4, 2) := by decide +kernel
theorem dX7_comeFrom_7 : decode cX7_comeFrom 7 = .ok (.aload_n 0, 1) := by decide +kernel
theorem dX7_comeFrom_8 : decode cX7_comeFrom 8 = .ok (.getfield 69, 3) := by decide +kernel
theorem dX7_comeFrom_11 : decode cX7_comeFrom 11 = .ok (.if_icmp .ge 44, 3) := by decide +kernel
theorem dX7_comeFrom_14 : decode cX7_comeFrom 14 = .ok (.iload_n 3, 1) := by decide +kernel
theorem dX7_comeFrom_15 : decode cX7_comeFrom 15 = .ok (.iload_n 1, 1) := by decide +kernel
theorem dX7_comeFrom_16 : decode cX7_comeFrom 16 = .ok (.iload 4, 2) := by decide +kernel
theorem dX7_comeFrom_18 : decode cX7_comeFrom 18 = .ok (.ishr, 1) := by decide +kernel
theorem dX7_comeFrom_19 : decode cX7_comeFrom 19 = .ok (.iconst 1, 1) := by decide +kernel
theorem dX7_comeFrom_20 : decode cX7_comeFrom 20 = .ok (.iand, 1) := by decide +kernel
theorem dX7_comeFrom_21 : decode cX7_comeFrom 21 = .ok (.iconst 1, 1) := by decide +kernel
theorem dX7_comeFrom_22 : decode cX7_comeFrom 22 = .ok (.if_icmp .ne 18, 3) := by decide +kernel
theorem dX7_comeFrom_25 : decode cX7_comeFrom 25 = .ok (.aload_n 0, 1) := by decide +kernel
theorem dX7_comeFrom_26 : decode cX7_comeFrom 26 = .ok (.iload 4, 2) := by decide +kernel
theorem dX7_comeFrom_28 : decode cX7_comeFrom 28 = .ok (.iconst 0, 1) := by decide +kernel
theorem dX7_comeFrom_29 : decode cX7_comeFrom 29 = .ok (.invokevirtual 166, 3) := by decide +kernel
theorem dX7_comeFrom_32 : decode cX7_comeFrom 32 = .ok (.iload_n 2, 1) := by decide +kernel
theorem dX7_comeFrom_33 : decode cX7_comeFrom 33 = .ok (.if_icmp .ne 7, 3) := by decide +kernel
theorem dX7_comeFrom_36 : decode cX7_comeFrom 36 = .ok (.iconst 1, 1) := by decide +kernel
theorem dX7_comeFrom_37 : decode cX7_comeFrom 37 = .ok (.goto 4, 3) := by decide +kernel
theorem dX7_comeFrom_40 : decode cX7_comeFrom 40 = .ok (.iconst 0, 1) := by decide +kernel
theorem dX7_comeFrom_41 : decode cX7_comeFrom 41 = .ok (.invokestatic 184, 3) := by decide +kernel
theorem dX7_comeFrom_44 : decode cX7_comeFrom 44 = .ok (.iload 4, 2) := by decide +kernel
theorem dX7_comeFrom_46 : decode cX7_comeFrom 46 = .ok (.ishl, 1) := by decide +kernel
theorem dX7_comeFrom_47 : decode cX7_comeFrom 47 = .ok (.ior, 1) := by decide +kernel
theorem dX7_comeFrom_48 : decode cX7_comeFrom 48 = .ok (.istore_n 3, 1) := by decide +kernel
theorem dX7_comeFrom_49 : decode cX7_comeFrom 49 = .ok (.iinc 4 1, 3) := by decide +kernel
theorem dX7_comeFrom_52 : decode cX7_comeFrom 52 = .ok (.goto (-47), 3) := by decide +kernel
theorem dX7_comeFrom_55 : decode cX7_comeFrom 55 = .ok (.iload_n 3, 1) := by decide +kernel
theorem dX7_comeFrom_56 : decode cX7_comeFrom 56 = .ok (.ireturn, 1) := by decide +kernel
theorem dX7_bitsOf_0 : decode cX7_bitsOf 0 = .ok (.iconst 0, 1) := by decide +kernel
theorem dX7_bitsOf_1 : decode cX7_bitsOf 1 = .ok (.istore_n 1, 1) := by decide +kernel
theorem dX7_bitsOf_2 : decode cX7_bitsOf 2 = .ok (.iconst 0, 1) := by decide +kernel
theorem dX7_bitsOf_3 : decode cX7_bitsOf 3 = .ok (.istore_n 2, 1) := by decide +kernel
theorem dX7_bitsOf_4 : decode cX7_bitsOf 4 = .ok (.iload_n 2, 1) := by decide +kernel
theorem dX7_bitsOf_5 : decode cX7_bitsOf 5 = .ok (.bipush 6, 2) := by decide +kernel
theorem dX7_bitsOf_7 : decode cX7_bitsOf 7 = .ok (.if_icmp .ge 17, 3) := by decide +kernel
theorem dX7_bitsOf_10 : decode cX7_bitsOf 10 = .ok (.iload_n 1, 1) := by decide +kernel
theorem dX7_bitsOf_11 : decode cX7_bitsOf 11 = .ok (.iload_n 0, 1) := by decide +kernel
theorem dX7_bitsOf_12 : decode cX7_bitsOf 12 = .ok (.iload_n 2, 1) := by decide +kernel
theorem dX7_bitsOf_13 : decode cX7_bitsOf 13 = .ok (.ishr, 1) := by decide +kernel
theorem dX7_bitsOf_14 : decode cX7_bitsOf 14 = .ok (.iconst 1, 1) := by decide +kernel
theorem dX7_bitsOf_15 : decode cX7_bitsOf 15 = .ok (.iand, 1) := by decide +kernel
theorem dX7_bitsOf_16 : decode cX7_bitsOf 16 = .ok (.iadd, 1) := by decide +kernel
theorem dX7_bitsOf_17 : decode cX7_bitsOf 17 = .ok (.istore_n 1, 1) := by decide +kernel
theorem dX7_bitsOf_18 : decode cX7_bitsOf 18 = .ok (.iinc 2 1, 3) := by decide +kernel
theorem dX7_bitsOf_21 : decode cX7_bitsOf 21 = .ok (.goto (-17), 3) := by decide +kernel
theorem dX7_bitsOf_24 : decode cX7_bitsOf 24 = .ok (.iload_n 1, 1) := by decide +kernel
theorem dX7_bitsOf_25 : decode cX7_bitsOf 25 = .ok (.ireturn, 1) := by decide +kernel
theorem dX7_preferred_0 : decode cX7_preferred 0 = .ok (.aload_n 0, 1) := by decide +kernel
theorem dX7_preferred_1 : decode cX7_preferred 1 = .ok (.iload_n 1, 1) := by decide +kernel
theorem dX7_preferred_2 : decode cX7_preferred 2 = .ok (.iload_n 2, 1) := by decide +kernel
theorem dX7_preferred_3 : decode cX7_preferred 3 = .ok (.invokevirtual 188, 3) := by decide +kernel
theorem dX7_preferred_6 : decode cX7_preferred 6 = .ok (.istore_n 3, 1) := by decide +kernel
theorem dX7_preferred_7 : decode cX7_preferred 7 = .ok (.iload_n 3, 1) := by decide +kernel
theorem dX7_preferred_8 : decode cX7_preferred 8 = .ok (.ifCond .ne 7, 3) := by decide +kernel
theorem dX7_preferred_11 : decode cX7_preferred 11 = .ok (.iload_n 1, 1) := by decide +kernel
theorem dX7_preferred_12 : decode cX7_preferred 12 = .ok (.goto 4, 3) := by decide +kernel
theorem dX7_preferred_15 : decode cX7_preferred 15 = .ok (.iload_n 3, 1) := by decide +kernel
theorem dX7_preferred_16 : decode cX7_preferred 16 = .ok (.ireturn, 1) := by decide +kernel
theorem dX7_leastCargo_0 : decode cX7_leastCargo 0 = .ok (.ldc 191, 2) := by decide +kernel
theorem dX7_leastCargo_2 : decode cX7_leastCargo 2 = .ok (.istore_n 2, 1) := by decide +kernel
theorem dX7_leastCargo_3 : decode cX7_leastCargo 3 = .ok (.iconst 0, 1) := by decide +kernel
theorem dX7_leastCargo_4 : decode cX7_leastCargo 4 = .ok (.istore_n 3, 1) := by decide +kernel
theorem dX7_leastCargo_5 : decode cX7_leastCargo 5 = .ok (.iconst 0, 1) := by decide +kernel
theorem dX7_leastCargo_6 : decode cX7_leastCargo 6 = .ok (.istore 4, 2) := by decide +kernel
theorem dX7_leastCargo_8 : decode cX7_leastCargo 8 = .ok (.iload 4, 2) := by decide +kernel
theorem dX7_leastCargo_10 : decode cX7_leastCargo 10 = .ok (.aload_n 0, 1) := by decide +kernel
theorem dX7_leastCargo_11 : decode cX7_leastCargo 11 = .ok (.getfield 69, 3) := by decide +kernel
theorem dX7_leastCargo_14 : decode cX7_leastCargo 14 = .ok (.if_icmp .ge 70, 3) := by decide +kernel
theorem dX7_leastCargo_17 : decode cX7_leastCargo 17 = .ok (.iload_n 1, 1) := by decide +kernel
theorem dX7_leastCargo_18 : decode cX7_leastCargo 18 = .ok (.iload 4, 2) := by decide +kernel
theorem dX7_leastCargo_20 : decode cX7_leastCargo 20 = .ok (.ishr, 1) := by decide +kernel
theorem dX7_leastCargo_21 : decode cX7_leastCargo 21 = .ok (.iconst 1, 1) := by decide +kernel
theorem dX7_leastCargo_22 : decode cX7_leastCargo 22 = .ok (.iand, 1) := by decide +kernel
theorem dX7_leastCargo_23 : decode cX7_leastCargo 23 = .ok (.iconst 1, 1) := by decide +kernel
theorem dX7_leastCargo_24 : decode cX7_leastCargo 24 = .ok (.if_icmp .ne 54, 3) := by decide +kernel
theorem dX7_leastCargo_27 : decode cX7_leastCargo 27 = .ok (.aload_n 0, 1) := by decide +kernel
theorem dX7_leastCargo_28 : decode cX7_leastCargo 28 = .ok (.iload 4, 2) := by decide +kernel
theorem dX7_leastCargo_30 : decode cX7_leastCargo 30 = .ok (.invokevirtual 192, 3) := by decide +kernel
theorem dX7_leastCargo_33 : decode cX7_leastCargo 33 = .ok (.istore 5, 2) := by decide +kernel
theorem dX7_leastCargo_35 : decode cX7_leastCargo 35 = .ok (.iload 5, 2) := by decide +kernel
theorem dX7_leastCargo_37 : decode cX7_leastCargo 37 = .ok (.iload_n 2, 1) := by decide +kernel
theorem dX7_leastCargo_38 : decode cX7_leastCargo 38 = .ok (.if_icmp .ge 10, 3) := by decide +kernel
theorem dX7_leastCargo_41 : decode cX7_leastCargo 41 = .ok (.iconst 1, 1) := by decide +kernel
theorem dX7_leastCargo_42 : decode cX7_leastCargo 42 = .ok (.iload 4, 2) := by decide +kernel
theorem dX7_leastCargo_44 : decode cX7_leastCargo 44 = .ok (.ishl, 1) := by decide +kernel
theorem dX7_leastCargo_45 : decode cX7_leastCargo 45 = .ok (.goto 19, 3) := by decide +kernel
theorem dX7_leastCargo_48 : decode cX7_leastCargo 48 = .ok (.iload 5, 2) := by decide +kernel
theorem dX7_leastCargo_50 : decode cX7_leastCargo 50 = .ok (.iload_n 2, 1) := by decide +kernel
theorem dX7_leastCargo_51 : decode cX7_leastCargo 51 = .ok (.if_icmp .ne 12, 3) := by decide +kernel
theorem dX7_leastCargo_54 : decode cX7_leastCargo 54 = .ok (.iload_n 3, 1) := by decide +kernel
theorem dX7_leastCargo_55 : decode cX7_leastCargo 55 = .ok (.iconst 1, 1) := by decide +kernel
theorem dX7_leastCargo_56 : decode cX7_leastCargo 56 = .ok (.iload 4, 2) := by decide +kernel
theorem dX7_leastCargo_58 : decode cX7_leastCargo 58 = .ok (.ishl, 1) := by decide +kernel
theorem dX7_leastCargo_59 : decode cX7_leastCargo 59 = .ok (.ior, 1) := by decide +kernel
theorem dX7_leastCargo_60 : decode cX7_leastCargo 60 = .ok (.goto 4, 3) := by decide +kernel
theorem dX7_leastCargo_63 : decode cX7_leastCargo 63 = .ok (.iload_n 3, 1) := by decide +kernel
theorem dX7_leastCargo_64 : decode cX7_leastCargo 64 = .ok (.istore_n 3, 1) := by decide +kernel
theorem dX7_leastCargo_65 : decode cX7_leastCargo 65 = .ok (.iload 5, 2) := by decide +kernel
theorem dX7_leastCargo_67 : decode cX7_leastCargo 67 = .ok (.iload_n 2, 1) := by decide +kernel
theorem dX7_leastCargo_68 : decode cX7_leastCargo 68 = .ok (.if_icmp .ge 8, 3) := by decide +kernel
theorem dX7_leastCargo_71 : decode cX7_leastCargo 71 = .ok (.iload 5, 2) := by decide +kernel
theorem dX7_leastCargo_73 : decode cX7_leastCargo 73 = .ok (.goto 4, 3) := by decide +kernel
theorem dX7_leastCargo_76 : decode cX7_leastCargo 76 = .ok (.iload_n 2, 1) := by decide +kernel
theorem dX7_leastCargo_77 : decode cX7_leastCargo 77 = .ok (.istore_n 2, 1) := by decide +kernel
theorem dX7_leastCargo_78 : decode cX7_leastCargo 78 = .ok (.iinc 4 1, 3) := by decide +kernel
theorem dX7_leastCargo_81 : decode cX7_leastCargo 81 = .ok (.goto (-73), 3) := by decide +kernel
theorem dX7_leastCargo_84 : decode cX7_leastCargo 84 = .ok (.iload_n 3, 1) := by decide +kernel
theorem dX7_leastCargo_85 : decode cX7_leastCargo 85 = .ok (.ireturn, 1) := by decide +kernel
theorem dX7_taken_0 : decode cX7_taken 0 = .ok (.aload_n 0, 1) := by decide +kernel
theorem dX7_taken_1 : decode cX7_taken 1 = .ok (.getfield 169, 3) := by decide +kernel
theorem dX7_taken_4 : decode cX7_taken 4 = .ok (.istore_n 2, 1) := by decide +kernel
theorem dX7_taken_5 : decode cX7_taken 5 = .ok (.aload_n 0, 1) := by decide +kernel
theorem dX7_taken_6 : decode cX7_taken 6 = .ok (.iload_n 1, 1) := by decide +kernel
theorem dX7_taken_7 : decode cX7_taken 7 = .ok (.iconst 0, 1) := by decide +kernel
theorem dX7_taken_8 : decode cX7_taken 8 = .ok (.invokevirtual 188, 3) := by decide +kernel
theorem dX7_taken_11 : decode cX7_taken 11 = .ok (.invokestatic 195, 3) := by decide +kernel
theorem dX7_taken_14 : decode cX7_taken 14 = .ok (.istore_n 3, 1) := by decide +kernel
theorem dX7_taken_15 : decode cX7_taken 15 = .ok (.aload_n 0, 1) := by decide +kernel
theorem dX7_taken_16 : decode cX7_taken 16 = .ok (.iload_n 1, 1) := by decide +kernel
theorem dX7_taken_17 : decode cX7_taken 17 = .ok (.iconst 1, 1) := by decide +kernel
theorem dX7_taken_18 : decode cX7_taken 18 = .ok (.invokevirtual 188, 3) := by decide +kernel
theorem dX7_taken_21 : decode cX7_taken 21 = .ok (.invokestatic 195, 3) := by decide +kernel
theorem dX7_taken_24 : decode cX7_taken 24 = .ok (.istore 4, 2) := by decide +kernel
theorem dX7_taken_26 : decode cX7_taken 26 = .ok (.aload_n 0, 1) := by decide +kernel
theorem dX7_taken_27 : decode cX7_taken 27 = .ok (.getfield 13, 3) := by decide +kernel
theorem dX7_taken_30 : decode cX7_taken 30 = .ok (.iconst 3, 1) := by decide +kernel
theorem dX7_taken_31 : decode cX7_taken 31 = .ok (.iaload, 1) := by decide +kernel
theorem dX7_taken_32 : decode cX7_taken 32 = .ok (.tableswitch 138 1 4 #[32, 42, 102, 108], 32) := by decide +kernel
theorem dX7_taken_64 : decode cX7_taken 64 = .ok (.aload_n 0, 1) := by decide +kernel
theorem dX7_taken_65 : decode cX7_taken 65 = .ok (.iload_n 1, 1) := by decide +kernel
theorem dX7_taken_66 : decode cX7_taken 66 = .ok (.aload_n 0, 1) := by decide +kernel
theorem dX7_taken_67 : decode cX7_taken 67 = .ok (.getfield 175, 3) := by decide +kernel
theorem dX7_taken_70 : decode cX7_taken 70 = .ok (.invokevirtual 198, 3) := by decide +kernel
theorem dX7_taken_73 : decode cX7_taken 73 = .ok (.ireturn, 1) := by decide +kernel
theorem dX7_taken_74 : decode cX7_taken 74 = .ok (.aload_n 0, 1) := by decide +kernel
theorem dX7_taken_75 : decode cX7_taken 75 = .ok (.iload_n 1, 1) := by decide +kernel
theorem dX7_taken_76 : decode cX7_taken 76 = .ok (.iload_n 2, 1) := by decide +kernel
theorem dX7_taken_77 : decode cX7_taken 77 = .ok (.ifCond .ne 12, 3) := by decide +kernel
theorem dX7_taken_80 : decode cX7_taken 80 = .ok (.aload_n 0, 1) := by decide +kernel
theorem dX7_taken_81 : decode cX7_taken 81 = .ok (.getfield 13, 3) := by decide +kernel
theorem dX7_taken_84 : decode cX7_taken 84 = .ok (.iconst 2, 1) := by decide +kernel
theorem dX7_taken_85 : decode cX7_taken 85 = .ok (.iaload, 1) := by decide +kernel
theorem dX7_taken_86 : decode cX7_taken 86 = .ok (.goto 44, 3) := by decide +kernel
theorem dX7_taken_89 : decode cX7_taken 89 = .ok (.iload_n 2, 1) := by decide +kernel
theorem dX7_taken_90 : decode cX7_taken 90 = .ok (.iconst 1, 1) := by decide +kernel
theorem dX7_taken_91 : decode cX7_taken 91 = .ok (.if_icmp .le 32, 3) := by decide +kernel
theorem dX7_taken_94 : decode cX7_taken 94 = .ok (.aload_n 0, 1) := by decide +kernel
theorem dX7_taken_95 : decode cX7_taken 95 = .ok (.iload_n 2, 1) := by decide +kernel
theorem dX7_taken_96 : decode cX7_taken 96 = .ok (.iconst 1, 1) := by decide +kernel
theorem dX7_taken_97 : decode cX7_taken 97 = .ok (.isub, 1) := by decide +kernel
theorem dX7_taken_98 : decode cX7_taken 98 = .ok (.invokevirtual 201, 3) := by decide +kernel
theorem dX7_taken_101 : decode cX7_taken 101 = .ok (.aload_n 0, 1) := by decide +kernel
theorem dX7_taken_102 : decode cX7_taken 102 = .ok (.iload_n 2, 1) := by decide +kernel
theorem dX7_taken_103 : decode cX7_taken 103 = .ok (.iconst 2, 1) := by decide +kernel
theorem dX7_taken_104 : decode cX7_taken 104 = .ok (.isub, 1) := by decide +kernel
theorem dX7_taken_105 : decode cX7_taken 105 = .ok (.invokevirtual 201, 3) := by decide +kernel
theorem dX7_taken_108 : decode cX7_taken 108 = .ok (.if_icmp .ne 15, 3) := by decide +kernel
theorem dX7_taken_111 : decode cX7_taken 111 = .ok (.iconst 1, 1) := by decide +kernel
theorem dX7_taken_112 : decode cX7_taken 112 = .ok (.aload_n 0, 1) := by decide +kernel
theorem dX7_taken_113 : decode cX7_taken 113 = .ok (.iload_n 2, 1) := by decide +kernel
theorem dX7_taken_114 : decode cX7_taken 114 = .ok (.iconst 1, 1) := by decide +kernel
theorem dX7_taken_115 : decode cX7_taken 115 = .ok (.isub, 1) := by decide +kernel
theorem dX7_taken_116 : decode cX7_taken 116 = .ok (.invokevirtual 201, 3) := by decide +kernel
theorem dX7_taken_119 : decode cX7_taken 119 = .ok (.isub, 1) := by decide +kernel
theorem dX7_taken_120 : decode cX7_taken 120 = .ok (.goto 10, 3) := by decide +kernel
theorem dX7_taken_123 : decode cX7_taken 123 = .ok (.aload_n 0, 1) := by decide +kernel
theorem dX7_taken_124 : decode cX7_taken 124 = .ok (.iload_n 2, 1) := by decide +kernel
theorem dX7_taken_125 : decode cX7_taken 125 = .ok (.iconst 1, 1) := by decide +kernel
theorem dX7_taken_126 : decode cX7_taken 126 = .ok (.isub, 1) := by decide +kernel
theorem dX7_taken_127 : decode cX7_taken 127 = .ok (.invokevirtual 201, 3) := by decide +kernel
theorem dX7_taken_130 : decode cX7_taken 130 = .ok (.invokevirtual 198, 3) := by decide +kernel
theorem dX7_taken_133 : decode cX7_taken 133 = .ok (.ireturn, 1) := by decide +kernel
theorem dX7_taken_134 : decode cX7_taken 134 = .ok (.aload_n 0, 1) := by decide +kernel
theorem dX7_taken_135 : decode cX7_taken 135 = .ok (.iload_n 1, 1) := by decide +kernel
theorem dX7_taken_136 : decode cX7_taken 136 = .ok (.invokevirtual 204, 3) := by decide +kernel
theorem dX7_taken_139 : decode cX7_taken 139 = .ok (.ireturn, 1) := by decide +kernel
theorem dX7_taken_140 : decode cX7_taken 140 = .ok (.aload_n 0, 1) := by decide +kernel
theorem dX7_taken_141 : decode cX7_taken 141 = .ok (.iload_n 1, 1) := by decide +kernel
theorem dX7_taken_142 : decode cX7_taken 142 = .ok (.iload_n 3, 1) := by decide +kernel
theorem dX7_taken_143 : decode cX7_taken 143 = .ok (.iload 4, 2) := by decide +kernel
theorem dX7_taken_145 : decode cX7_taken 145 = .ok (.if_icmp .le 7, 3) := by decide +kernel
theorem dX7_taken_148 : decode cX7_taken 148 = .ok (.iconst 0, 1) := by decide +kernel
theorem dX7_taken_149 : decode cX7_taken 149 = .ok (.goto 17, 3) := by decide +kernel
theorem dX7_taken_152 : decode cX7_taken 152 = .ok (.iload 4, 2) := by decide +kernel
theorem dX7_taken_154 : decode cX7_taken 154 = .ok (.iload_n 3, 1) := by decide +kernel
theorem dX7_taken_155 : decode cX7_taken 155 = .ok (.if_icmp .le 7, 3) := by decide +kernel
theorem dX7_taken_158 : decode cX7_taken 158 = .ok (.iconst 1, 1) := by decide +kernel
theorem dX7_taken_159 : decode cX7_taken 159 = .ok (.goto 7, 3) := by decide +kernel
theorem dX7_taken_162 : decode cX7_taken 162 = .ok (.aload_n 0, 1) := by decide +kernel
theorem dX7_taken_163 : decode cX7_taken 163 = .ok (.getfield 175, 3) := by decide +kernel
theorem dX7_taken_166 : decode cX7_taken 166 = .ok (.invokevirtual 198, 3) := by decide +kernel
theorem dX7_taken_169 : decode cX7_taken 169 = .ok (.ireturn, 1) := by decide +kernel
theorem dX7_taken_170 : decode cX7_taken 170 = .ok (.iload_n 1, 1) := by decide +kernel
theorem dX7_taken_171 : decode cX7_taken 171 = .ok (.ireturn, 1) := by decide +kernel
theorem dX7_earliest_0 : decode cX7_earliest 0 = .ok (.bipush (-4), 2) := by decide +kernel
theorem dX7_earliest_2 : decode cX7_earliest 2 = .ok (.istore_n 2, 1) := by decide +kernel
theorem dX7_earliest_3 : decode cX7_earliest 3 = .ok (.iconst 0, 1) := by decide +kernel
theorem dX7_earliest_4 : decode cX7_earliest 4 = .ok (.istore_n 3, 1) := by decide +kernel
theorem dX7_earliest_5 : decode cX7_earliest 5 = .ok (.iload_n 3, 1) := by decide +kernel
theorem dX7_earliest_6 : decode cX7_earliest 6 = .ok (.aload_n 0, 1) := by decide +kernel
theorem dX7_earliest_7 : decode cX7_earliest 7 = .ok (.getfield 69, 3) := by decide +kernel
theorem dX7_earliest_10 : decode cX7_earliest 10 = .ok (.if_icmp .ge 55, 3) := by decide +kernel
theorem dX7_earliest_13 : decode cX7_earliest 13 = .ok (.iload_n 1, 1) := by decide +kernel
theorem dX7_earliest_14 : decode cX7_earliest 14 = .ok (.iload_n 3, 1) := by decide +kernel
theorem dX7_earliest_15 : decode cX7_earliest 15 = .ok (.ishr, 1) := by decide +kernel
theorem dX7_earliest_16 : decode cX7_earliest 16 = .ok (.iconst 1, 1) := by decide +kernel
theorem dX7_earliest_17 : decode cX7_earliest 17 = .ok (.iand, 1) := by decide +kernel
theorem dX7_earliest_18 : decode cX7_earliest 18 = .ok (.iconst 1, 1) := by decide +kernel
theorem dX7_earliest_19 : decode cX7_earliest 19 = .ok (.if_icmp .ne 26, 3) := by decide +kernel
theorem dX7_earliest_22 : decode cX7_earliest 22 = .ok (.iload_n 2, 1) := by decide +kernel
theorem dX7_earliest_23 : decode cX7_earliest 23 = .ok (.bipush (-4), 2) := by decide +kernel
theorem dX7_earliest_25 : decode cX7_earliest 25 = .ok (.if_icmp .eq 16, 3) := by decide +kernel
theorem dX7_earliest_28 : decode cX7_earliest 28 = .ok (.aload_n 0, 1) := by decide +kernel
theorem dX7_earliest_29 : decode cX7_earliest 29 = .ok (.iload_n 3, 1) := by decide +kernel
theorem dX7_earliest_30 : decode cX7_earliest 30 = .ok (.invokevirtual 207, 3) := by decide +kernel
theorem dX7_earliest_33 : decode cX7_earliest 33 = .ok (.aload_n 0, 1) := by decide +kernel
theorem dX7_earliest_34 : decode cX7_earliest 34 = .ok (.iload_n 2, 1) := by decide +kernel
theorem dX7_earliest_35 : decode cX7_earliest 35 = .ok (.invokevirtual 207, 3) := by decide +kernel
theorem dX7_earliest_38 : decode cX7_earliest 38 = .ok (.if_icmp .ge 7, 3) := by decide +kernel
theorem dX7_earliest_41 : decode cX7_earliest 41 = .ok (.iconst 1, 1) := by decide +kernel
theorem dX7_earliest_42 : decode cX7_earliest 42 = .ok (.goto 4, 3) := by decide +kernel
theorem dX7_earliest_45 : decode cX7_earliest 45 = .ok (.iconst 0, 1) := by decide +kernel
theorem dX7_earliest_46 : decode cX7_earliest 46 = .ok (.istore 4, 2) := by decide +kernel
theorem dX7_earliest_48 : decode cX7_earliest 48 = .ok (.iload 4, 2) := by decide +kernel
theorem dX7_earliest_50 : decode cX7_earliest 50 = .ok (.ifCond .eq 7, 3) := by decide +kernel
theorem dX7_earliest_53 : decode cX7_earliest 53 = .ok (.iload_n 3, 1) := by decide +kernel
theorem dX7_earliest_54 : decode cX7_earliest 54 = .ok (.goto 4, 3) := by decide +kernel
theorem dX7_earliest_57 : decode cX7_earliest 57 = .ok (.iload_n 2, 1) := by decide +kernel
theorem dX7_earliest_58 : decode cX7_earliest 58 = .ok (.istore_n 2, 1) := by decide +kernel
theorem dX7_earliest_59 : decode cX7_earliest 59 = .ok (.iinc 3 1, 3) := by decide +kernel
theorem dX7_earliest_62 : decode cX7_earliest 62 = .ok (.goto (-57), 3) := by decide +kernel
theorem dX7_earliest_65 : decode cX7_earliest 65 = .ok (.iload_n 2, 1) := by decide +kernel
theorem dX7_earliest_66 : decode cX7_earliest 66 = .ok (.ireturn, 1) := by decide +kernel
theorem dX7_counting_0 : decode cX7_counting 0 = .ok (.iconst 0, 1) := by decide +kernel
theorem dX7_counting_1 : decode cX7_counting 1 = .ok (.istore_n 2, 1) := by decide +kernel
theorem dX7_counting_2 : decode cX7_counting 2 = .ok (.iconst 0, 1) := by decide +kernel
theorem dX7_counting_3 : decode cX7_counting 3 = .ok (.istore_n 3, 1) := by decide +kernel
theorem dX7_counting_4 : decode cX7_counting 4 = .ok (.iload_n 3, 1) := by decide +kernel
theorem dX7_counting_5 : decode cX7_counting 5 = .ok (.aload_n 0, 1) := by decide +kernel
theorem dX7_counting_6 : decode cX7_counting 6 = .ok (.getfield 69, 3) := by decide +kernel
theorem dX7_counting_9 : decode cX7_counting 9 = .ok (.if_icmp .ge 43, 3) := by decide +kernel
theorem dX7_counting_12 : decode cX7_counting 12 = .ok (.iload_n 2, 1) := by decide +kernel
theorem dX7_counting_13 : decode cX7_counting 13 = .ok (.iload_n 1, 1) := by decide +kernel
theorem dX7_counting_14 : decode cX7_counting 14 = .ok (.iload_n 3, 1) := by decide +kernel
theorem dX7_counting_15 : decode cX7_counting 15 = .ok (.ishr, 1) := by decide +kernel
theorem dX7_counting_16 : decode cX7_counting 16 = .ok (.iconst 1, 1) := by decide +kernel
theorem dX7_counting_17 : decode cX7_counting 17 = .ok (.iand, 1) := by decide +kernel
theorem dX7_counting_18 : decode cX7_counting 18 = .ok (.iconst 1, 1) := by decide +kernel
theorem dX7_counting_19 : decode cX7_counting 19 = .ok (.if_icmp .ne 19, 3) := by decide +kernel
theorem dX7_counting_22 : decode cX7_counting 22 = .ok (.aload_n 0, 1) := by decide +kernel
theorem dX7_counting_23 : decode cX7_counting 23 = .ok (.iload_n 3, 1) := by decide +kernel
theorem dX7_counting_24 : decode cX7_counting 24 = .ok (.invokevirtual 207, 3) := by decide +kernel
theorem dX7_counting_27 : decode cX7_counting 27 = .ok (.aload_n 0, 1) := by decide +kernel
theorem dX7_counting_28 : decode cX7_counting 28 = .ok (.getfield 172, 3) := by decide +kernel
theorem dX7_counting_31 : decode cX7_counting 31 = .ok (.if_icmp .gt 7, 3) := by decide +kernel
theorem dX7_counting_34 : decode cX7_counting 34 = .ok (.iconst 1, 1) := by decide +kernel
theorem dX7_counting_35 : decode cX7_counting 35 = .ok (.goto 4, 3) := by decide +kernel
theorem dX7_counting_38 : decode cX7_counting 38 = .ok (.iconst 0, 1) := by decide +kernel
theorem dX7_counting_39 : decode cX7_counting 39 = .ok (.invokestatic 184, 3) := by decide +kernel
theorem dX7_counting_42 : decode cX7_counting 42 = .ok (.iload_n 3, 1) := by decide +kernel
theorem dX7_counting_43 : decode cX7_counting 43 = .ok (.ishl, 1) := by decide +kernel
theorem dX7_counting_44 : decode cX7_counting 44 = .ok (.ior, 1) := by decide +kernel
theorem dX7_counting_45 : decode cX7_counting 45 = .ok (.istore_n 2, 1) := by decide +kernel
theorem dX7_counting_46 : decode cX7_counting 46 = .ok (.iinc 3 1, 3) := by decide +kernel
theorem dX7_counting_49 : decode cX7_counting 49 = .ok (.goto (-45), 3) := by decide +kernel
theorem dX7_counting_52 : decode cX7_counting 52 = .ok (.iload_n 2, 1) := by decide +kernel
theorem dX7_counting_53 : decode cX7_counting 53 = .ok (.ireturn, 1) := by decide +kernel
theorem dX7_dayGoes_0 : decode cX7_dayGoes 0 = .ok (.iconst 1, 1) := by decide +kernel
theorem dX7_dayGoes_1 : decode cX7_dayGoes 1 = .ok (.aload_n 0, 1) := by decide +kernel
theorem dX7_dayGoes_2 : decode cX7_dayGoes 2 = .ok (.getfield 69, 3) := by decide +kernel
theorem dX7_dayGoes_5 : decode cX7_dayGoes 5 = .ok (.ishl, 1) := by decide +kernel
theorem dX7_dayGoes_6 : decode cX7_dayGoes 6 = .ok (.iconst 1, 1) := by decide +kernel
theorem dX7_dayGoes_7 : decode cX7_dayGoes 7 = .ok (.isub, 1) := by decide +kernel
theorem dX7_dayGoes_8 : decode cX7_dayGoes 8 = .ok (.istore_n 1, 1) := by decide +kernel
theorem dX7_dayGoes_9 : decode cX7_dayGoes 9 = .ok (.aload_n 0, 1) := by decide +kernel
theorem dX7_dayGoes_10 : decode cX7_dayGoes 10 = .ok (.invokevirtual 210, 3) := by decide +kernel
theorem dX7_dayGoes_13 : decode cX7_dayGoes 13 = .ok (.iload_n 1, 1) := by decide +kernel
theorem dX7_dayGoes_14 : decode cX7_dayGoes 14 = .ok (.ifCond .eq 54, 3) := by decide +kernel
theorem dX7_dayGoes_17 : decode cX7_dayGoes 17 = .ok (.aload_n 0, 1) := by decide +kernel
theorem dX7_dayGoes_18 : decode cX7_dayGoes 18 = .ok (.iload_n 1, 1) := by decide +kernel
theorem dX7_dayGoes_19 : decode cX7_dayGoes 19 = .ok (.invokevirtual 213, 3) := by decide +kernel
theorem dX7_dayGoes_22 : decode cX7_dayGoes 22 = .ok (.ifCond .ne 16, 3) := by decide +kernel
theorem dX7_dayGoes_25 : decode cX7_dayGoes 25 = .ok (.aload_n 0, 1) := by decide +kernel
theorem dX7_dayGoes_26 : decode cX7_dayGoes 26 = .ok (.aload_n 0, 1) := by decide +kernel
theorem dX7_dayGoes_27 : decode cX7_dayGoes 27 = .ok (.aload_n 0, 1) := by decide +kernel
theorem dX7_dayGoes_28 : decode cX7_dayGoes 28 = .ok (.iload_n 1, 1) := by decide +kernel
theorem dX7_dayGoes_29 : decode cX7_dayGoes 29 = .ok (.invokevirtual 216, 3) := by decide +kernel
theorem dX7_dayGoes_32 : decode cX7_dayGoes 32 = .ok (.invokevirtual 207, 3) := by decide +kernel
theorem dX7_dayGoes_35 : decode cX7_dayGoes 35 = .ok (.putfield 172, 3) := by decide +kernel
theorem dX7_dayGoes_38 : decode cX7_dayGoes 38 = .ok (.aload_n 0, 1) := by decide +kernel
theorem dX7_dayGoes_39 : decode cX7_dayGoes 39 = .ok (.aload_n 0, 1) := by decide +kernel
theorem dX7_dayGoes_40 : decode cX7_dayGoes 40 = .ok (.aload_n 0, 1) := by decide +kernel
theorem dX7_dayGoes_41 : decode cX7_dayGoes 41 = .ok (.iload_n 1, 1) := by decide +kernel
theorem dX7_dayGoes_42 : decode cX7_dayGoes 42 = .ok (.invokevirtual 213, 3) := by decide +kernel
theorem dX7_dayGoes_45 : decode cX7_dayGoes 45 = .ok (.invokevirtual 219, 3) := by decide +kernel
theorem dX7_dayGoes_48 : decode cX7_dayGoes 48 = .ok (.invokevirtual 216, 3) := by decide +kernel
theorem dX7_dayGoes_51 : decode cX7_dayGoes 51 = .ok (.istore_n 2, 1) := by decide +kernel
theorem dX7_dayGoes_52 : decode cX7_dayGoes 52 = .ok (.aload_n 0, 1) := by decide +kernel
theorem dX7_dayGoes_53 : decode cX7_dayGoes 53 = .ok (.iload_n 2, 1) := by decide +kernel
theorem dX7_dayGoes_54 : decode cX7_dayGoes 54 = .ok (.invokevirtual 222, 3) := by decide +kernel
theorem dX7_dayGoes_57 : decode cX7_dayGoes 57 = .ok (.iload_n 1, 1) := by decide +kernel
theorem dX7_dayGoes_58 : decode cX7_dayGoes 58 = .ok (.iconst 1, 1) := by decide +kernel
theorem dX7_dayGoes_59 : decode cX7_dayGoes 59 = .ok (.iload_n 2, 1) := by decide +kernel
theorem dX7_dayGoes_60 : decode cX7_dayGoes 60 = .ok (.ishl, 1) := by decide +kernel
theorem dX7_dayGoes_61 : decode cX7_dayGoes 61 = .ok (.iconst (-1), 1) := by decide +kernel
theorem dX7_dayGoes_62 : decode cX7_dayGoes 62 = .ok (.ixor, 1) := by decide +kernel
theorem dX7_dayGoes_63 : decode cX7_dayGoes 63 = .ok (.iand, 1) := by decide +kernel
theorem dX7_dayGoes_64 : decode cX7_dayGoes 64 = .ok (.istore_n 1, 1) := by decide +kernel
theorem dX7_dayGoes_65 : decode cX7_dayGoes 65 = .ok (.goto (-52), 3) := by decide +kernel
theorem dX7_dayGoes_68 : decode cX7_dayGoes 68 = .ok (.return_, 1) := by decide +kernel
theorem dX7_costNow_0 : decode cX7_costNow 0 = .ok (.iconst 0, 1) := by decide +kernel
theorem dX7_costNow_1 : decode cX7_costNow 1 = .ok (.istore_n 1, 1) := by decide +kernel
theorem dX7_costNow_2 : decode cX7_costNow 2 = .ok (.iconst 0, 1) := by decide +kernel
theorem dX7_costNow_3 : decode cX7_costNow 3 = .ok (.istore_n 2, 1) := by decide +kernel
theorem dX7_costNow_4 : decode cX7_costNow 4 = .ok (.iload_n 2, 1) := by decide +kernel
theorem dX7_costNow_5 : decode cX7_costNow 5 = .ok (.aload_n 0, 1) := by decide +kernel
theorem dX7_costNow_6 : decode cX7_costNow 6 = .ok (.getfield 69, 3) := by decide +kernel
theorem dX7_costNow_9 : decode cX7_costNow 9 = .ok (.if_icmp .ge 25, 3) := by decide +kernel
theorem dX7_costNow_12 : decode cX7_costNow 12 = .ok (.iload_n 1, 1) := by decide +kernel
theorem dX7_costNow_13 : decode cX7_costNow 13 = .ok (.aload_n 0, 1) := by decide +kernel
theorem dX7_costNow_14 : decode cX7_costNow 14 = .ok (.getfield 32, 3) := by decide +kernel
theorem dX7_costNow_17 : decode cX7_costNow 17 = .ok (.iload_n 2, 1) := by decide +kernel
theorem dX7_costNow_18 : decode cX7_costNow 18 = .ok (.iaload, 1) := by decide +kernel
theorem dX7_costNow_19 : decode cX7_costNow 19 = .ok (.aload_n 0, 1) := by decide +kernel
theorem dX7_costNow_20 : decode cX7_costNow 20 = .ok (.iload_n 2, 1) := by decide +kernel
theorem dX7_costNow_21 : decode cX7_costNow 21 = .ok (.iconst 3, 1) := by decide +kernel
theorem dX7_costNow_22 : decode cX7_costNow 22 = .ok (.invokevirtual 166, 3) := by decide +kernel
theorem dX7_costNow_25 : decode cX7_costNow 25 = .ok (.imul, 1) := by decide +kernel
theorem dX7_costNow_26 : decode cX7_costNow 26 = .ok (.iadd, 1) := by decide +kernel
theorem dX7_costNow_27 : decode cX7_costNow 27 = .ok (.istore_n 1, 1) := by decide +kernel
theorem dX7_costNow_28 : decode cX7_costNow 28 = .ok (.iinc 2 1, 3) := by decide +kernel
theorem dX7_costNow_31 : decode cX7_costNow 31 = .ok (.goto (-27), 3) := by decide +kernel
theorem dX7_costNow_34 : decode cX7_costNow 34 = .ok (.iload_n 1, 1) := by decide +kernel
theorem dX7_costNow_35 : decode cX7_costNow 35 = .ok (.ireturn, 1) := by decide +kernel
theorem dX7_tells_0 : decode cX7_tells 0 = .ok (.iconst 0, 1) := by decide +kernel
theorem dX7_tells_1 : decode cX7_tells 1 = .ok (.istore_n 2, 1) := by decide +kernel
theorem dX7_tells_2 : decode cX7_tells 2 = .ok (.iconst 0, 1) := by decide +kernel
theorem dX7_tells_3 : decode cX7_tells 3 = .ok (.istore_n 3, 1) := by decide +kernel
theorem dX7_tells_4 : decode cX7_tells 4 = .ok (.iload_n 3, 1) := by decide +kernel
theorem dX7_tells_5 : decode cX7_tells 5 = .ok (.aload_n 0, 1) := by decide +kernel
theorem dX7_tells_6 : decode cX7_tells 6 = .ok (.getfield 69, 3) := by decide +kernel
theorem dX7_tells_9 : decode cX7_tells 9 = .ok (.if_icmp .ge 30, 3) := by decide +kernel
theorem dX7_tells_12 : decode cX7_tells 12 = .ok (.aload_n 0, 1) := by decide +kernel
theorem dX7_tells_13 : decode cX7_tells 13 = .ok (.getfield 32, 3) := by decide +kernel
theorem dX7_tells_16 : decode cX7_tells 16 = .ok (.iload_n 3, 1) := by decide +kernel
theorem dX7_tells_17 : decode cX7_tells 17 = .ok (.iaload, 1) := by decide +kernel
theorem dX7_tells_18 : decode cX7_tells 18 = .ok (.iload_n 2, 1) := by decide +kernel
theorem dX7_tells_19 : decode cX7_tells 19 = .ok (.if_icmp .le 12, 3) := by decide +kernel
theorem dX7_tells_22 : decode cX7_tells 22 = .ok (.aload_n 0, 1) := by decide +kernel
theorem dX7_tells_23 : decode cX7_tells 23 = .ok (.getfield 32, 3) := by decide +kernel
theorem dX7_tells_26 : decode cX7_tells 26 = .ok (.iload_n 3, 1) := by decide +kernel
theorem dX7_tells_27 : decode cX7_tells 27 = .ok (.iaload, 1) := by decide +kernel
theorem dX7_tells_28 : decode cX7_tells 28 = .ok (.goto 4, 3) := by decide +kernel
theorem dX7_tells_31 : decode cX7_tells 31 = .ok (.iload_n 2, 1) := by decide +kernel
theorem dX7_tells_32 : decode cX7_tells 32 = .ok (.istore_n 2, 1) := by decide +kernel
theorem dX7_tells_33 : decode cX7_tells 33 = .ok (.iinc 3 1, 3) := by decide +kernel
theorem dX7_tells_36 : decode cX7_tells 36 = .ok (.goto (-32), 3) := by decide +kernel
theorem dX7_tells_39 : decode cX7_tells 39 = .ok (.iload_n 1, 1) := by decide +kernel
theorem dX7_tells_40 : decode cX7_tells 40 = .ok (.ifCond .ne 10, 3) := by decide +kernel
theorem dX7_tells_43 : decode cX7_tells 43 = .ok (.aload_n 0, 1) := by decide +kernel
theorem dX7_tells_44 : decode cX7_tells 44 = .ok (.invokevirtual 225, 3) := by decide +kernel
theorem dX7_tells_47 : decode cX7_tells 47 = .ok (.goto 51, 3) := by decide +kernel
theorem dX7_tells_50 : decode cX7_tells 50 = .ok (.iload_n 1, 1) := by decide +kernel
theorem dX7_tells_51 : decode cX7_tells 51 = .ok (.iconst 1, 1) := by decide +kernel
theorem dX7_tells_52 : decode cX7_tells 52 = .ok (.if_icmp .ne 7, 3) := by decide +kernel
theorem dX7_tells_55 : decode cX7_tells 55 = .ok (.iload_n 2, 1) := by decide +kernel
theorem dX7_tells_56 : decode cX7_tells 56 = .ok (.goto 42, 3) := by decide +kernel
theorem dX7_tells_59 : decode cX7_tells 59 = .ok (.iload_n 1, 1) := by decide +kernel
theorem dX7_tells_60 : decode cX7_tells 60 = .ok (.iconst 2, 1) := by decide +kernel
theorem dX7_tells_61 : decode cX7_tells 61 = .ok (.if_icmp .ne 10, 3) := by decide +kernel
theorem dX7_tells_64 : decode cX7_tells 64 = .ok (.aload_n 0, 1) := by decide +kernel
theorem dX7_tells_65 : decode cX7_tells 65 = .ok (.getfield 178, 3) := by decide +kernel
theorem dX7_tells_68 : decode cX7_tells 68 = .ok (.goto 30, 3) := by decide +kernel
theorem dX7_tells_71 : decode cX7_tells 71 = .ok (.iload_n 1, 1) := by decide +kernel
theorem dX7_tells_72 : decode cX7_tells 72 = .ok (.iconst 3, 1) := by decide +kernel
theorem dX7_tells_73 : decode cX7_tells 73 = .ok (.if_icmp .ne 21, 3) := by decide +kernel
theorem dX7_tells_76 : decode cX7_tells 76 = .ok (.aload_n 0, 1) := by decide +kernel
theorem dX7_tells_77 : decode cX7_tells 77 = .ok (.getfield 69, 3) := by decide +kernel
theorem dX7_tells_80 : decode cX7_tells 80 = .ok (.ifCond .ne 7, 3) := by decide +kernel
theorem dX7_tells_83 : decode cX7_tells 83 = .ok (.iconst 0, 1) := by decide +kernel
theorem dX7_tells_84 : decode cX7_tells 84 = .ok (.goto 14, 3) := by decide +kernel
theorem dX7_tells_87 : decode cX7_tells 87 = .ok (.aload_n 0, 1) := by decide +kernel
theorem dX7_tells_88 : decode cX7_tells 88 = .ok (.getfield 172, 3) := by decide +kernel
theorem dX7_tells_91 : decode cX7_tells 91 = .ok (.goto 7, 3) := by decide +kernel
theorem dX7_tells_94 : decode cX7_tells 94 = .ok (.aload_n 0, 1) := by decide +kernel
theorem dX7_tells_95 : decode cX7_tells 95 = .ok (.getfield 181, 3) := by decide +kernel
theorem dX7_tells_98 : decode cX7_tells 98 = .ok (.ireturn, 1) := by decide +kernel
theorem dX7_dayNow_0 : decode cX7_dayNow 0 = .ok (.aload_n 0, 1) := by decide +kernel
theorem dX7_dayNow_1 : decode cX7_dayNow 1 = .ok (.invokevirtual 228, 3) := by decide +kernel
theorem dX7_dayNow_4 : decode cX7_dayNow 4 = .ok (.aload_n 0, 1) := by decide +kernel
theorem dX7_dayNow_5 : decode cX7_dayNow 5 = .ok (.invokevirtual 231, 3) := by decide +kernel
theorem dX7_dayNow_8 : decode cX7_dayNow 8 = .ok (.return_, 1) := by decide +kernel
theorem dX7_placeOf_0 : decode cX7_placeOf 0 = .ok (.bipush (-4), 2) := by decide +kernel
theorem dX7_placeOf_2 : decode cX7_placeOf 2 = .ok (.istore_n 2, 1) := by decide +kernel
theorem dX7_placeOf_3 : decode cX7_placeOf 3 = .ok (.iconst 0, 1) := by decide +kernel
theorem dX7_placeOf_4 : decode cX7_placeOf 4 = .ok (.istore_n 3, 1) := by decide +kernel
theorem dX7_placeOf_5 : decode cX7_placeOf 5 = .ok (.iload_n 3, 1) := by decide +kernel
theorem dX7_placeOf_6 : decode cX7_placeOf 6 = .ok (.aload_n 0, 1) := by decide +kernel
theorem dX7_placeOf_7 : decode cX7_placeOf 7 = .ok (.getfield 169, 3) := by decide +kernel
theorem dX7_placeOf_10 : decode cX7_placeOf 10 = .ok (.if_icmp .ge 25, 3) := by decide +kernel
theorem dX7_placeOf_13 : decode cX7_placeOf 13 = .ok (.aload_n 0, 1) := by decide +kernel
theorem dX7_placeOf_14 : decode cX7_placeOf 14 = .ok (.getfield 26, 3) := by decide +kernel
theorem dX7_placeOf_17 : decode cX7_placeOf 17 = .ok (.iload_n 3, 1) := by decide +kernel
theorem dX7_placeOf_18 : decode cX7_placeOf 18 = .ok (.iaload, 1) := by decide +kernel
theorem dX7_placeOf_19 : decode cX7_placeOf 19 = .ok (.iload_n 1, 1) := by decide +kernel
theorem dX7_placeOf_20 : decode cX7_placeOf 20 = .ok (.if_icmp .ne 7, 3) := by decide +kernel
theorem dX7_placeOf_23 : decode cX7_placeOf 23 = .ok (.iload_n 3, 1) := by decide +kernel
theorem dX7_placeOf_24 : decode cX7_placeOf 24 = .ok (.goto 4, 3) := by decide +kernel
theorem dX7_placeOf_27 : decode cX7_placeOf 27 = .ok (.iload_n 2, 1) := by decide +kernel
theorem dX7_placeOf_28 : decode cX7_placeOf 28 = .ok (.istore_n 2, 1) := by decide +kernel
theorem dX7_placeOf_29 : decode cX7_placeOf 29 = .ok (.iinc 3 1, 3) := by decide +kernel
theorem dX7_placeOf_32 : decode cX7_placeOf 32 = .ok (.goto (-27), 3) := by decide +kernel
theorem dX7_placeOf_35 : decode cX7_placeOf 35 = .ok (.iload_n 2, 1) := by decide +kernel
theorem dX7_placeOf_36 : decode cX7_placeOf 36 = .ok (.ireturn, 1) := by decide +kernel
theorem dX7_liars_0 : decode cX7_liars 0 = .ok (.iconst 0, 1) := by decide +kernel
theorem dX7_liars_1 : decode cX7_liars 1 = .ok (.istore_n 1, 1) := by decide +kernel
theorem dX7_liars_2 : decode cX7_liars 2 = .ok (.iconst 0, 1) := by decide +kernel
theorem dX7_liars_3 : decode cX7_liars 3 = .ok (.istore_n 2, 1) := by decide +kernel
theorem dX7_liars_4 : decode cX7_liars 4 = .ok (.iload_n 2, 1) := by decide +kernel
theorem dX7_liars_5 : decode cX7_liars 5 = .ok (.aload_n 0, 1) := by decide +kernel
theorem dX7_liars_6 : decode cX7_liars 6 = .ok (.getfield 69, 3) := by decide +kernel
theorem dX7_liars_9 : decode cX7_liars 9 = .ok (.if_icmp .ge 28, 3) := by decide +kernel
theorem dX7_liars_12 : decode cX7_liars 12 = .ok (.iload_n 1, 1) := by decide +kernel
theorem dX7_liars_13 : decode cX7_liars 13 = .ok (.aload_n 0, 1) := by decide +kernel
theorem dX7_liars_14 : decode cX7_liars 14 = .ok (.getfield 7, 3) := by decide +kernel
theorem dX7_liars_17 : decode cX7_liars 17 = .ok (.bipush 6, 2) := by decide +kernel
theorem dX7_liars_19 : decode cX7_liars 19 = .ok (.bipush 6, 2) := by decide +kernel
theorem dX7_liars_21 : decode cX7_liars 21 = .ok (.iload_n 2, 1) := by decide +kernel
theorem dX7_liars_22 : decode cX7_liars 22 = .ok (.imul, 1) := by decide +kernel
theorem dX7_liars_23 : decode cX7_liars 23 = .ok (.iadd, 1) := by decide +kernel
theorem dX7_liars_24 : decode cX7_liars 24 = .ok (.iconst 5, 1) := by decide +kernel
theorem dX7_liars_25 : decode cX7_liars 25 = .ok (.iadd, 1) := by decide +kernel
theorem dX7_liars_26 : decode cX7_liars 26 = .ok (.iaload, 1) := by decide +kernel
theorem dX7_liars_27 : decode cX7_liars 27 = .ok (.iload_n 2, 1) := by decide +kernel
theorem dX7_liars_28 : decode cX7_liars 28 = .ok (.ishl, 1) := by decide +kernel
theorem dX7_liars_29 : decode cX7_liars 29 = .ok (.ior, 1) := by decide +kernel
theorem dX7_liars_30 : decode cX7_liars 30 = .ok (.istore_n 1, 1) := by decide +kernel
theorem dX7_liars_31 : decode cX7_liars 31 = .ok (.iinc 2 1, 3) := by decide +kernel
theorem dX7_liars_34 : decode cX7_liars 34 = .ok (.goto (-30), 3) := by decide +kernel
theorem dX7_liars_37 : decode cX7_liars 37 = .ok (.iload_n 1, 1) := by decide +kernel
theorem dX7_liars_38 : decode cX7_liars 38 = .ok (.ireturn, 1) := by decide +kernel
theorem dX7_rule_0 : decode cX7_rule 0 = .ok (.iload_n 1, 1) := by decide +kernel
theorem dX7_rule_1 : decode cX7_rule 1 = .ok (.i2l, 1) := by decide +kernel
theorem dX7_rule_2 : decode cX7_rule 2 = .ok (.lconst 0, 1) := by decide +kernel
theorem dX7_rule_3 : decode cX7_rule 3 = .ok (.ldc2_w 155, 3) := by decide +kernel
theorem dX7_rule_6 : decode cX7_rule 6 = .ok (.invokestatic 74, 3) := by decide +kernel
theorem dX7_rule_9 : decode cX7_rule 9 = .ok (.ifCond .eq 12, 3) := by decide +kernel
theorem dX7_rule_12 : decode cX7_rule 12 = .ok (.aload_n 0, 1) := by decide +kernel
theorem dX7_rule_13 : decode cX7_rule 13 = .ok (.getfield 7, 3) := by decide +kernel
theorem dX7_rule_16 : decode cX7_rule 16 = .ok (.iload_n 1, 1) := by decide +kernel
theorem dX7_rule_17 : decode cX7_rule 17 = .ok (.iaload, 1) := by decide +kernel
theorem dX7_rule_18 : decode cX7_rule 18 = .ok (.goto 30, 3) := by decide +kernel
theorem dX7_rule_21 : decode cX7_rule 21 = .ok (.iload_n 1, 1) := by decide +kernel
theorem dX7_rule_22 : decode cX7_rule 22 = .ok (.bipush 6, 2) := by decide +kernel
theorem dX7_rule_24 : decode cX7_rule 24 = .ok (.if_icmp .ne 10, 3) := by decide +kernel
theorem dX7_rule_27 : decode cX7_rule 27 = .ok (.aload_n 0, 1) := by decide +kernel
theorem dX7_rule_28 : decode cX7_rule 28 = .ok (.getfield 69, 3) := by decide +kernel
theorem dX7_rule_31 : decode cX7_rule 31 = .ok (.goto 17, 3) := by decide +kernel
theorem dX7_rule_34 : decode cX7_rule 34 = .ok (.iload_n 1, 1) := by decide +kernel
theorem dX7_rule_35 : decode cX7_rule 35 = .ok (.bipush 7, 2) := by decide +kernel
theorem dX7_rule_37 : decode cX7_rule 37 = .ok (.if_icmp .ne 10, 3) := by decide +kernel
theorem dX7_rule_40 : decode cX7_rule 40 = .ok (.aload_n 0, 1) := by decide +kernel
theorem dX7_rule_41 : decode cX7_rule 41 = .ok (.invokevirtual 234, 3) := by decide +kernel
theorem dX7_rule_44 : decode cX7_rule 44 = .ok (.goto 4, 3) := by decide +kernel
theorem dX7_rule_47 : decode cX7_rule 47 = .ok (.iconst (-1), 1) := by decide +kernel
theorem dX7_rule_48 : decode cX7_rule 48 = .ok (.ireturn, 1) := by decide +kernel
theorem dX7_boat_0 : decode cX7_boat 0 = .ok (.aload_n 0, 1) := by decide +kernel
theorem dX7_boat_1 : decode cX7_boat 1 = .ok (.iload_n 1, 1) := by decide +kernel
theorem dX7_boat_2 : decode cX7_boat 2 = .ok (.invokevirtual 237, 3) := by decide +kernel
theorem dX7_boat_5 : decode cX7_boat 5 = .ok (.ifCond .eq 15, 3) := by decide +kernel
theorem dX7_boat_8 : decode cX7_boat 8 = .ok (.iload_n 2, 1) := by decide +kernel
theorem dX7_boat_9 : decode cX7_boat 9 = .ok (.i2l, 1) := by decide +kernel
theorem dX7_boat_10 : decode cX7_boat 10 = .ok (.lconst 0, 1) := by decide +kernel
theorem dX7_boat_11 : decode cX7_boat 11 = .ok (.ldc2_w 240, 3) := by decide +kernel
theorem dX7_boat_14 : decode cX7_boat 14 = .ok (.invokestatic 74, 3) := by decide +kernel
theorem dX7_boat_17 : decode cX7_boat 17 = .ok (.ifCond .ne 5, 3) := by decide +kernel
theorem dX7_boat_20 : decode cX7_boat 20 = .ok (.iconst (-1), 1) := by decide +kernel
end
section
theorem dX7_boat_21 : decode cX7_boat 21 = .ok (.ireturn, 1) := by decide +kernel
theorem dX7_boat_22 : decode cX7_boat 22 = .ok (.aload_n 0, 1) := by decide +kernel
theorem dX7_boat_23 : decode cX7_boat 23 = .ok (.invokevirtual 228, 3) := by decide +kernel
theorem dX7_boat_26 : decode cX7_boat 26 = .ok (.iload_n 2, 1) := by decide +kernel
theorem dX7_boat_27 : decode cX7_boat 27 = .ok (.bipush 6, 2) := by decide +kernel
theorem dX7_boat_29 : decode cX7_boat 29 = .ok (.if_icmp .ge 12, 3) := by decide +kernel
theorem dX7_boat_32 : decode cX7_boat 32 = .ok (.aload_n 0, 1) := by decide +kernel
theorem dX7_boat_33 : decode cX7_boat 33 = .ok (.iload_n 1, 1) := by decide +kernel
theorem dX7_boat_34 : decode cX7_boat 34 = .ok (.iload_n 2, 1) := by decide +kernel
theorem dX7_boat_35 : decode cX7_boat 35 = .ok (.invokevirtual 166, 3) := by decide +kernel
theorem dX7_boat_38 : decode cX7_boat 38 = .ok (.goto 8, 3) := by decide +kernel
theorem dX7_boat_41 : decode cX7_boat 41 = .ok (.aload_n 0, 1) := by decide +kernel
theorem dX7_boat_42 : decode cX7_boat 42 = .ok (.iload_n 1, 1) := by decide +kernel
theorem dX7_boat_43 : decode cX7_boat 43 = .ok (.invokevirtual 207, 3) := by decide +kernel
theorem dX7_boat_46 : decode cX7_boat 46 = .ok (.ireturn, 1) := by decide +kernel
theorem dX7_becomes_0 : decode cX7_becomes 0 = .ok (.aload_n 0, 1) := by decide +kernel
theorem dX7_becomes_1 : decode cX7_becomes 1 = .ok (.getfield 7, 3) := by decide +kernel
theorem dX7_becomes_4 : decode cX7_becomes 4 = .ok (.iload_n 1, 1) := by decide +kernel
theorem dX7_becomes_5 : decode cX7_becomes 5 = .ok (.iaload, 1) := by decide +kernel
theorem dX7_becomes_6 : decode cX7_becomes 6 = .ok (.istore_n 3, 1) := by decide +kernel
theorem dX7_becomes_7 : decode cX7_becomes 7 = .ok (.aload_n 0, 1) := by decide +kernel
theorem dX7_becomes_8 : decode cX7_becomes 8 = .ok (.getfield 7, 3) := by decide +kernel
theorem dX7_becomes_11 : decode cX7_becomes 11 = .ok (.iload_n 1, 1) := by decide +kernel
theorem dX7_becomes_12 : decode cX7_becomes 12 = .ok (.iload_n 2, 1) := by decide +kernel
theorem dX7_becomes_13 : decode cX7_becomes 13 = .ok (.iastore, 1) := by decide +kernel
theorem dX7_becomes_14 : decode cX7_becomes 14 = .ok (.iload_n 3, 1) := by decide +kernel
theorem dX7_becomes_15 : decode cX7_becomes 15 = .ok (.ireturn, 1) := by decide +kernel
theorem dX7_mostOf_0 : decode cX7_mostOf 0 = .ok (.iload_n 0, 1) := by decide +kernel
theorem dX7_mostOf_1 : decode cX7_mostOf 1 = .ok (.iconst 2, 1) := by decide +kernel
theorem dX7_mostOf_2 : decode cX7_mostOf 2 = .ok (.if_icmp .eq 8, 3) := by decide +kernel
theorem dX7_mostOf_5 : decode cX7_mostOf 5 = .ok (.iload_n 0, 1) := by decide +kernel
theorem dX7_mostOf_6 : decode cX7_mostOf 6 = .ok (.iconst 5, 1) := by decide +kernel
theorem dX7_mostOf_7 : decode cX7_mostOf 7 = .ok (.if_icmp .ne 7, 3) := by decide +kernel
theorem dX7_mostOf_10 : decode cX7_mostOf 10 = .ok (.iconst 1, 1) := by decide +kernel
theorem dX7_mostOf_11 : decode cX7_mostOf 11 = .ok (.goto 14, 3) := by decide +kernel
theorem dX7_mostOf_14 : decode cX7_mostOf 14 = .ok (.iload_n 0, 1) := by decide +kernel
theorem dX7_mostOf_15 : decode cX7_mostOf 15 = .ok (.iconst 3, 1) := by decide +kernel
theorem dX7_mostOf_16 : decode cX7_mostOf 16 = .ok (.if_icmp .ne 7, 3) := by decide +kernel
theorem dX7_mostOf_19 : decode cX7_mostOf 19 = .ok (.iconst 4, 1) := by decide +kernel
theorem dX7_mostOf_20 : decode cX7_mostOf 20 = .ok (.goto 5, 3) := by decide +kernel
theorem dX7_mostOf_23 : decode cX7_mostOf 23 = .ok (.bipush 9, 2) := by decide +kernel
theorem dX7_mostOf_25 : decode cX7_mostOf 25 = .ok (.ireturn, 1) := by decide +kernel
theorem dX7_set_0 : decode cX7_set 0 = .ok (.iload_n 1, 1) := by decide +kernel
theorem dX7_set_1 : decode cX7_set 1 = .ok (.i2l, 1) := by decide +kernel
theorem dX7_set_2 : decode cX7_set 2 = .ok (.lconst 0, 1) := by decide +kernel
theorem dX7_set_3 : decode cX7_set 3 = .ok (.ldc2_w 155, 3) := by decide +kernel
theorem dX7_set_6 : decode cX7_set 6 = .ok (.invokestatic 74, 3) := by decide +kernel
theorem dX7_set_9 : decode cX7_set 9 = .ok (.ifCond .eq 34, 3) := by decide +kernel
theorem dX7_set_12 : decode cX7_set 12 = .ok (.iload_n 2, 1) := by decide +kernel
theorem dX7_set_13 : decode cX7_set 13 = .ok (.i2l, 1) := by decide +kernel
theorem dX7_set_14 : decode cX7_set 14 = .ok (.iload_n 1, 1) := by decide +kernel
theorem dX7_set_15 : decode cX7_set 15 = .ok (.ifCond .ne 7, 3) := by decide +kernel
theorem dX7_set_18 : decode cX7_set 18 = .ok (.lconst 1, 1) := by decide +kernel
theorem dX7_set_19 : decode cX7_set 19 = .ok (.goto 4, 3) := by decide +kernel
theorem dX7_set_22 : decode cX7_set 22 = .ok (.lconst 0, 1) := by decide +kernel
theorem dX7_set_23 : decode cX7_set 23 = .ok (.iload_n 1, 1) := by decide +kernel
theorem dX7_set_24 : decode cX7_set 24 = .ok (.invokestatic 242, 3) := by decide +kernel
theorem dX7_set_27 : decode cX7_set 27 = .ok (.i2l, 1) := by decide +kernel
theorem dX7_set_28 : decode cX7_set 28 = .ok (.invokestatic 74, 3) := by decide +kernel
theorem dX7_set_31 : decode cX7_set 31 = .ok (.ifCond .eq 12, 3) := by decide +kernel
theorem dX7_set_34 : decode cX7_set 34 = .ok (.aload_n 0, 1) := by decide +kernel
theorem dX7_set_35 : decode cX7_set 35 = .ok (.iload_n 1, 1) := by decide +kernel
theorem dX7_set_36 : decode cX7_set 36 = .ok (.iload_n 2, 1) := by decide +kernel
theorem dX7_set_37 : decode cX7_set 37 = .ok (.invokevirtual 245, 3) := by decide +kernel
theorem dX7_set_40 : decode cX7_set 40 = .ok (.goto 4, 3) := by decide +kernel
theorem dX7_set_43 : decode cX7_set 43 = .ok (.iconst (-1), 1) := by decide +kernel
theorem dX7_set_44 : decode cX7_set 44 = .ok (.ireturn, 1) := by decide +kernel
theorem dX7_alter_0 : decode cX7_alter 0 = .ok (.aload_n 0, 1) := by decide +kernel
theorem dX7_alter_1 : decode cX7_alter 1 = .ok (.iload_n 1, 1) := by decide +kernel
theorem dX7_alter_2 : decode cX7_alter 2 = .ok (.invokevirtual 237, 3) := by decide +kernel
theorem dX7_alter_5 : decode cX7_alter 5 = .ok (.ifCond .eq 49, 3) := by decide +kernel
theorem dX7_alter_8 : decode cX7_alter 8 = .ok (.iload_n 2, 1) := by decide +kernel
theorem dX7_alter_9 : decode cX7_alter 9 = .ok (.i2l, 1) := by decide +kernel
theorem dX7_alter_10 : decode cX7_alter 10 = .ok (.lconst 1, 1) := by decide +kernel
theorem dX7_alter_11 : decode cX7_alter 11 = .ok (.ldc2_w 248, 3) := by decide +kernel
theorem dX7_alter_14 : decode cX7_alter 14 = .ok (.invokestatic 74, 3) := by decide +kernel
theorem dX7_alter_17 : decode cX7_alter 17 = .ok (.ifCond .eq 37, 3) := by decide +kernel
theorem dX7_alter_20 : decode cX7_alter 20 = .ok (.iload_n 3, 1) := by decide +kernel
theorem dX7_alter_21 : decode cX7_alter 21 = .ok (.i2l, 1) := by decide +kernel
theorem dX7_alter_22 : decode cX7_alter 22 = .ok (.lconst 0, 1) := by decide +kernel
theorem dX7_alter_23 : decode cX7_alter 23 = .ok (.iload_n 2, 1) := by decide +kernel
theorem dX7_alter_24 : decode cX7_alter 24 = .ok (.iconst 1, 1) := by decide +kernel
theorem dX7_alter_25 : decode cX7_alter 25 = .ok (.if_icmp .ne 9, 3) := by decide +kernel
theorem dX7_alter_28 : decode cX7_alter 28 = .ok (.ldc2_w 250, 3) := by decide +kernel
theorem dX7_alter_31 : decode cX7_alter 31 = .ok (.goto 17, 3) := by decide +kernel
theorem dX7_alter_34 : decode cX7_alter 34 = .ok (.iload_n 2, 1) := by decide +kernel
theorem dX7_alter_35 : decode cX7_alter 35 = .ok (.iconst 2, 1) := by decide +kernel
theorem dX7_alter_36 : decode cX7_alter 36 = .ok (.if_icmp .ne 9, 3) := by decide +kernel
theorem dX7_alter_39 : decode cX7_alter 39 = .ok (.ldc2_w 252, 3) := by decide +kernel
theorem dX7_alter_42 : decode cX7_alter 42 = .ok (.goto 6, 3) := by decide +kernel
theorem dX7_alter_45 : decode cX7_alter 45 = .ok (.ldc2_w 254, 3) := by decide +kernel
theorem dX7_alter_48 : decode cX7_alter 48 = .ok (.invokestatic 74, 3) := by decide +kernel
theorem dX7_alter_51 : decode cX7_alter 51 = .ok (.ifCond .ne 5, 3) := by decide +kernel
theorem dX7_alter_54 : decode cX7_alter 54 = .ok (.iconst (-1), 1) := by decide +kernel
theorem dX7_alter_55 : decode cX7_alter 55 = .ok (.ireturn, 1) := by decide +kernel
theorem dX7_alter_56 : decode cX7_alter 56 = .ok (.aload_n 0, 1) := by decide +kernel
theorem dX7_alter_57 : decode cX7_alter 57 = .ok (.bipush 6, 2) := by decide +kernel
theorem dX7_alter_59 : decode cX7_alter 59 = .ok (.bipush 6, 2) := by decide +kernel
theorem dX7_alter_61 : decode cX7_alter 61 = .ok (.iload_n 1, 1) := by decide +kernel
theorem dX7_alter_62 : decode cX7_alter 62 = .ok (.imul, 1) := by decide +kernel
theorem dX7_alter_63 : decode cX7_alter 63 = .ok (.iadd, 1) := by decide +kernel
theorem dX7_alter_64 : decode cX7_alter 64 = .ok (.iload_n 2, 1) := by decide +kernel
theorem dX7_alter_65 : decode cX7_alter 65 = .ok (.iadd, 1) := by decide +kernel
theorem dX7_alter_66 : decode cX7_alter 66 = .ok (.iload_n 3, 1) := by decide +kernel
theorem dX7_alter_67 : decode cX7_alter 67 = .ok (.invokevirtual 245, 3) := by decide +kernel
theorem dX7_alter_70 : decode cX7_alter 70 = .ok (.ireturn, 1) := by decide +kernel
theorem dX7_lie_0 : decode cX7_lie 0 = .ok (.aload_n 0, 1) := by decide +kernel
theorem dX7_lie_1 : decode cX7_lie 1 = .ok (.iload_n 1, 1) := by decide +kernel
theorem dX7_lie_2 : decode cX7_lie 2 = .ok (.invokevirtual 237, 3) := by decide +kernel
theorem dX7_lie_5 : decode cX7_lie 5 = .ok (.ifCond .eq 23, 3) := by decide +kernel
theorem dX7_lie_8 : decode cX7_lie 8 = .ok (.aload_n 0, 1) := by decide +kernel
theorem dX7_lie_9 : decode cX7_lie 9 = .ok (.bipush 6, 2) := by decide +kernel
theorem dX7_lie_11 : decode cX7_lie 11 = .ok (.bipush 6, 2) := by decide +kernel
theorem dX7_lie_13 : decode cX7_lie 13 = .ok (.iload_n 1, 1) := by decide +kernel
theorem dX7_lie_14 : decode cX7_lie 14 = .ok (.imul, 1) := by decide +kernel
theorem dX7_lie_15 : decode cX7_lie 15 = .ok (.iadd, 1) := by decide +kernel
theorem dX7_lie_16 : decode cX7_lie 16 = .ok (.iconst 5, 1) := by decide +kernel
theorem dX7_lie_17 : decode cX7_lie 17 = .ok (.iadd, 1) := by decide +kernel
theorem dX7_lie_18 : decode cX7_lie 18 = .ok (.iload_n 2, 1) := by decide +kernel
theorem dX7_lie_19 : decode cX7_lie 19 = .ok (.invokestatic 184, 3) := by decide +kernel
theorem dX7_lie_22 : decode cX7_lie 22 = .ok (.invokevirtual 245, 3) := by decide +kernel
theorem dX7_lie_25 : decode cX7_lie 25 = .ok (.goto 4, 3) := by decide +kernel
theorem dX7_lie_28 : decode cX7_lie 28 = .ok (.iconst (-1), 1) := by decide +kernel
theorem dX7_lie_29 : decode cX7_lie 29 = .ok (.ireturn, 1) := by decide +kernel
theorem dX7_cross_0 : decode cX7_cross 0 = .ok (.bipush 6, 2) := by decide +kernel
theorem dX7_cross_2 : decode cX7_cross 2 = .ok (.bipush 6, 2) := by decide +kernel
theorem dX7_cross_4 : decode cX7_cross 4 = .ok (.iload_n 1, 1) := by decide +kernel
theorem dX7_cross_5 : decode cX7_cross 5 = .ok (.imul, 1) := by decide +kernel
theorem dX7_cross_6 : decode cX7_cross 6 = .ok (.iadd, 1) := by decide +kernel
theorem dX7_cross_7 : decode cX7_cross 7 = .ok (.iconst 0, 1) := by decide +kernel
theorem dX7_cross_8 : decode cX7_cross 8 = .ok (.iadd, 1) := by decide +kernel
theorem dX7_cross_9 : decode cX7_cross 9 = .ok (.istore_n 2, 1) := by decide +kernel
theorem dX7_cross_10 : decode cX7_cross 10 = .ok (.aload_n 0, 1) := by decide +kernel
theorem dX7_cross_11 : decode cX7_cross 11 = .ok (.iload_n 1, 1) := by decide +kernel
theorem dX7_cross_12 : decode cX7_cross 12 = .ok (.invokevirtual 237, 3) := by decide +kernel
theorem dX7_cross_15 : decode cX7_cross 15 = .ok (.ifCond .eq 19, 3) := by decide +kernel
theorem dX7_cross_18 : decode cX7_cross 18 = .ok (.aload_n 0, 1) := by decide +kernel
theorem dX7_cross_19 : decode cX7_cross 19 = .ok (.iload_n 2, 1) := by decide +kernel
theorem dX7_cross_20 : decode cX7_cross 20 = .ok (.iconst 1, 1) := by decide +kernel
theorem dX7_cross_21 : decode cX7_cross 21 = .ok (.aload_n 0, 1) := by decide +kernel
theorem dX7_cross_22 : decode cX7_cross 22 = .ok (.getfield 7, 3) := by decide +kernel
theorem dX7_cross_25 : decode cX7_cross 25 = .ok (.iload_n 2, 1) := by decide +kernel
theorem dX7_cross_26 : decode cX7_cross 26 = .ok (.iaload, 1) := by decide +kernel
theorem dX7_cross_27 : decode cX7_cross 27 = .ok (.isub, 1) := by decide +kernel
theorem dX7_cross_28 : decode cX7_cross 28 = .ok (.invokevirtual 245, 3) := by decide +kernel
theorem dX7_cross_31 : decode cX7_cross 31 = .ok (.goto 4, 3) := by decide +kernel
theorem dX7_cross_34 : decode cX7_cross 34 = .ok (.iconst (-1), 1) := by decide +kernel
theorem dX7_cross_35 : decode cX7_cross 35 = .ok (.ireturn, 1) := by decide +kernel
theorem dX7_passes_0 : decode cX7_passes 0 = .ok (.aload_n 0, 1) := by decide +kernel
theorem dX7_passes_1 : decode cX7_passes 1 = .ok (.iload_n 1, 1) := by decide +kernel
theorem dX7_passes_2 : decode cX7_passes 2 = .ok (.invokevirtual 237, 3) := by decide +kernel
theorem dX7_passes_5 : decode cX7_passes 5 = .ok (.ifCond .ne 5, 3) := by decide +kernel
theorem dX7_passes_8 : decode cX7_passes 8 = .ok (.iconst (-1), 1) := by decide +kernel
theorem dX7_passes_9 : decode cX7_passes 9 = .ok (.ireturn, 1) := by decide +kernel
theorem dX7_passes_10 : decode cX7_passes 10 = .ok (.aload_n 0, 1) := by decide +kernel
theorem dX7_passes_11 : decode cX7_passes 11 = .ok (.invokevirtual 256, 3) := by decide +kernel
theorem dX7_passes_14 : decode cX7_passes 14 = .ok (.aload_n 0, 1) := by decide +kernel
theorem dX7_passes_15 : decode cX7_passes 15 = .ok (.getfield 26, 3) := by decide +kernel
theorem dX7_passes_18 : decode cX7_passes 18 = .ok (.iload_n 1, 1) := by decide +kernel
theorem dX7_passes_19 : decode cX7_passes 19 = .ok (.iaload, 1) := by decide +kernel
theorem dX7_passes_20 : decode cX7_passes 20 = .ok (.ireturn, 1) := by decide +kernel
theorem dX7_through_0 : decode cX7_through 0 = .ok (.aload_n 0, 1) := by decide +kernel
theorem dX7_through_1 : decode cX7_through 1 = .ok (.iload_n 1, 1) := by decide +kernel
theorem dX7_through_2 : decode cX7_through 2 = .ok (.invokevirtual 237, 3) := by decide +kernel
theorem dX7_through_5 : decode cX7_through 5 = .ok (.ifCond .ne 5, 3) := by decide +kernel
theorem dX7_through_8 : decode cX7_through 8 = .ok (.iconst (-1), 1) := by decide +kernel
theorem dX7_through_9 : decode cX7_through 9 = .ok (.ireturn, 1) := by decide +kernel
theorem dX7_through_10 : decode cX7_through 10 = .ok (.aload_n 0, 1) := by decide +kernel
theorem dX7_through_11 : decode cX7_through 11 = .ok (.invokevirtual 256, 3) := by decide +kernel
theorem dX7_through_14 : decode cX7_through 14 = .ok (.aload_n 0, 1) := by decide +kernel
theorem dX7_through_15 : decode cX7_through 15 = .ok (.getfield 29, 3) := by decide +kernel
theorem dX7_through_18 : decode cX7_through 18 = .ok (.iload_n 1, 1) := by decide +kernel
theorem dX7_through_19 : decode cX7_through 19 = .ok (.iaload, 1) := by decide +kernel
theorem dX7_through_20 : decode cX7_through 20 = .ok (.ireturn, 1) := by decide +kernel
theorem dX7_stood_0 : decode cX7_stood 0 = .ok (.aload_n 0, 1) := by decide +kernel
theorem dX7_stood_1 : decode cX7_stood 1 = .ok (.iload_n 1, 1) := by decide +kernel
theorem dX7_stood_2 : decode cX7_stood 2 = .ok (.invokevirtual 237, 3) := by decide +kernel
theorem dX7_stood_5 : decode cX7_stood 5 = .ok (.ifCond .ne 5, 3) := by decide +kernel
theorem dX7_stood_8 : decode cX7_stood 8 = .ok (.iconst (-1), 1) := by decide +kernel
theorem dX7_stood_9 : decode cX7_stood 9 = .ok (.ireturn, 1) := by decide +kernel
theorem dX7_stood_10 : decode cX7_stood 10 = .ok (.aload_n 0, 1) := by decide +kernel
theorem dX7_stood_11 : decode cX7_stood 11 = .ok (.invokevirtual 256, 3) := by decide +kernel
theorem dX7_stood_14 : decode cX7_stood 14 = .ok (.aload_n 0, 1) := by decide +kernel
theorem dX7_stood_15 : decode cX7_stood 15 = .ok (.getfield 32, 3) := by decide +kernel
theorem dX7_stood_18 : decode cX7_stood 18 = .ok (.iload_n 1, 1) := by decide +kernel
theorem dX7_stood_19 : decode cX7_stood 19 = .ok (.iaload, 1) := by decide +kernel
theorem dX7_stood_20 : decode cX7_stood 20 = .ok (.ireturn, 1) := by decide +kernel
theorem dX7_day_0 : decode cX7_day 0 = .ok (.iload_n 1, 1) := by decide +kernel
theorem dX7_day_1 : decode cX7_day 1 = .ok (.i2l, 1) := by decide +kernel
theorem dX7_day_2 : decode cX7_day 2 = .ok (.lconst 0, 1) := by decide +kernel
theorem dX7_day_3 : decode cX7_day 3 = .ok (.ldc2_w 248, 3) := by decide +kernel
theorem dX7_day_6 : decode cX7_day 6 = .ok (.invokestatic 74, 3) := by decide +kernel
theorem dX7_day_9 : decode cX7_day 9 = .ok (.ifCond .ne 5, 3) := by decide +kernel
theorem dX7_day_12 : decode cX7_day 12 = .ok (.iconst (-1), 1) := by decide +kernel
theorem dX7_day_13 : decode cX7_day 13 = .ok (.ireturn, 1) := by decide +kernel
theorem dX7_day_14 : decode cX7_day 14 = .ok (.aload_n 0, 1) := by decide +kernel
theorem dX7_day_15 : decode cX7_day 15 = .ok (.invokevirtual 256, 3) := by decide +kernel
theorem dX7_day_18 : decode cX7_day 18 = .ok (.aload_n 0, 1) := by decide +kernel
theorem dX7_day_19 : decode cX7_day 19 = .ok (.iload_n 1, 1) := by decide +kernel
theorem dX7_day_20 : decode cX7_day 20 = .ok (.invokevirtual 259, 3) := by decide +kernel
theorem dX7_day_23 : decode cX7_day 23 = .ok (.ireturn, 1) := by decide +kernel
theorem dX7_dayBy_0 : decode cX7_dayBy 0 = .ok (.aload_n 0, 1) := by decide +kernel
theorem dX7_dayBy_1 : decode cX7_dayBy 1 = .ok (.invokevirtual 228, 3) := by decide +kernel
theorem dX7_dayBy_4 : decode cX7_dayBy 4 = .ok (.aload_n 0, 1) := by decide +kernel
theorem dX7_dayBy_5 : decode cX7_dayBy 5 = .ok (.getfield 13, 3) := by decide +kernel
theorem dX7_dayBy_8 : decode cX7_dayBy 8 = .ok (.iconst 3, 1) := by decide +kernel
theorem dX7_dayBy_9 : decode cX7_dayBy 9 = .ok (.iload_n 1, 1) := by decide +kernel
theorem dX7_dayBy_10 : decode cX7_dayBy 10 = .ok (.iastore, 1) := by decide +kernel
theorem dX7_dayBy_11 : decode cX7_dayBy 11 = .ok (.aload_n 0, 1) := by decide +kernel
theorem dX7_dayBy_12 : decode cX7_dayBy 12 = .ok (.invokevirtual 231, 3) := by decide +kernel
theorem dX7_dayBy_15 : decode cX7_dayBy 15 = .ok (.return_, 1) := by decide +kernel
theorem dX7_table_0 : decode cX7_table 0 = .ok (.iload_n 1, 1) := by decide +kernel
theorem dX7_table_1 : decode cX7_table 1 = .ok (.i2l, 1) := by decide +kernel
theorem dX7_table_2 : decode cX7_table 2 = .ok (.lconst 0, 1) := by decide +kernel
theorem dX7_table_3 : decode cX7_table 3 = .ok (.ldc2_w 248, 3) := by decide +kernel
theorem dX7_table_6 : decode cX7_table 6 = .ok (.invokestatic 74, 3) := by decide +kernel
theorem dX7_table_9 : decode cX7_table 9 = .ok (.ifCond .eq 15, 3) := by decide +kernel
theorem dX7_table_12 : decode cX7_table 12 = .ok (.iload_n 2, 1) := by decide +kernel
theorem dX7_table_13 : decode cX7_table 13 = .ok (.i2l, 1) := by decide +kernel
theorem dX7_table_14 : decode cX7_table 14 = .ok (.lconst 0, 1) := by decide +kernel
theorem dX7_table_15 : decode cX7_table 15 = .ok (.ldc2_w 248, 3) := by decide +kernel
theorem dX7_table_18 : decode cX7_table 18 = .ok (.invokestatic 74, 3) := by decide +kernel
theorem dX7_table_21 : decode cX7_table 21 = .ok (.ifCond .ne 5, 3) := by decide +kernel
theorem dX7_table_24 : decode cX7_table 24 = .ok (.iconst (-1), 1) := by decide +kernel
theorem dX7_table_25 : decode cX7_table 25 = .ok (.ireturn, 1) := by decide +kernel
theorem dX7_table_26 : decode cX7_table 26 = .ok (.aload_n 0, 1) := by decide +kernel
theorem dX7_table_27 : decode cX7_table 27 = .ok (.iload_n 1, 1) := by decide +kernel
theorem dX7_table_28 : decode cX7_table 28 = .ok (.invokevirtual 262, 3) := by decide +kernel
theorem dX7_table_31 : decode cX7_table 31 = .ok (.aload_n 0, 1) := by decide +kernel
theorem dX7_table_32 : decode cX7_table 32 = .ok (.iload_n 2, 1) := by decide +kernel
theorem dX7_table_33 : decode cX7_table 33 = .ok (.invokevirtual 259, 3) := by decide +kernel
theorem dX7_table_36 : decode cX7_table 36 = .ok (.ireturn, 1) := by decide +kernel
theorem dX7_best_0 : decode cX7_best 0 = .ok (.iload_n 1, 1) := by decide +kernel
theorem dX7_best_1 : decode cX7_best 1 = .ok (.i2l, 1) := by decide +kernel
theorem dX7_best_2 : decode cX7_best 2 = .ok (.lconst 0, 1) := by decide +kernel
theorem dX7_best_3 : decode cX7_best 3 = .ok (.ldc2_w 248, 3) := by decide +kernel
theorem dX7_best_6 : decode cX7_best 6 = .ok (.invokestatic 74, 3) := by decide +kernel
theorem dX7_best_9 : decode cX7_best 9 = .ok (.ifCond .ne 5, 3) := by decide +kernel
theorem dX7_best_12 : decode cX7_best 12 = .ok (.iconst (-1), 1) := by decide +kernel
theorem dX7_best_13 : decode cX7_best 13 = .ok (.ireturn, 1) := by decide +kernel
theorem dX7_best_14 : decode cX7_best 14 = .ok (.ldc 191, 2) := by decide +kernel
theorem dX7_best_16 : decode cX7_best 16 = .ok (.istore_n 2, 1) := by decide +kernel
theorem dX7_best_17 : decode cX7_best 17 = .ok (.iconst 0, 1) := by decide +kernel
theorem dX7_best_18 : decode cX7_best 18 = .ok (.istore_n 3, 1) := by decide +kernel
theorem dX7_best_19 : decode cX7_best 19 = .ok (.iconst 0, 1) := by decide +kernel
theorem dX7_best_20 : decode cX7_best 20 = .ok (.istore 4, 2) := by decide +kernel
theorem dX7_best_22 : decode cX7_best 22 = .ok (.iload 4, 2) := by decide +kernel
theorem dX7_best_24 : decode cX7_best 24 = .ok (.iconst 5, 1) := by decide +kernel
theorem dX7_best_25 : decode cX7_best 25 = .ok (.if_icmp .ge 50, 3) := by decide +kernel
theorem dX7_best_28 : decode cX7_best 28 = .ok (.aload_n 0, 1) := by decide +kernel
theorem dX7_best_29 : decode cX7_best 29 = .ok (.iload 4, 2) := by decide +kernel
theorem dX7_best_31 : decode cX7_best 31 = .ok (.invokevirtual 262, 3) := by decide +kernel
theorem dX7_best_34 : decode cX7_best 34 = .ok (.aload_n 0, 1) := by decide +kernel
theorem dX7_best_35 : decode cX7_best 35 = .ok (.iload_n 1, 1) := by decide +kernel
theorem dX7_best_36 : decode cX7_best 36 = .ok (.invokevirtual 259, 3) := by decide +kernel
theorem dX7_best_39 : decode cX7_best 39 = .ok (.iload_n 2, 1) := by decide +kernel
theorem dX7_best_40 : decode cX7_best 40 = .ok (.if_icmp .ge 8, 3) := by decide +kernel
theorem dX7_best_43 : decode cX7_best 43 = .ok (.iload 4, 2) := by decide +kernel
theorem dX7_best_45 : decode cX7_best 45 = .ok (.goto 4, 3) := by decide +kernel
theorem dX7_best_48 : decode cX7_best 48 = .ok (.iload_n 3, 1) := by decide +kernel
theorem dX7_best_49 : decode cX7_best 49 = .ok (.istore_n 3, 1) := by decide +kernel
theorem dX7_best_50 : decode cX7_best 50 = .ok (.aload_n 0, 1) := by decide +kernel
theorem dX7_best_51 : decode cX7_best 51 = .ok (.iload_n 1, 1) := by decide +kernel
theorem dX7_best_52 : decode cX7_best 52 = .ok (.invokevirtual 259, 3) := by decide +kernel
theorem dX7_best_55 : decode cX7_best 55 = .ok (.iload_n 2, 1) := by decide +kernel
theorem dX7_best_56 : decode cX7_best 56 = .ok (.if_icmp .ge 11, 3) := by decide +kernel
theorem dX7_best_59 : decode cX7_best 59 = .ok (.aload_n 0, 1) := by decide +kernel
theorem dX7_best_60 : decode cX7_best 60 = .ok (.iload_n 1, 1) := by decide +kernel
theorem dX7_best_61 : decode cX7_best 61 = .ok (.invokevirtual 259, 3) := by decide +kernel
theorem dX7_best_64 : decode cX7_best 64 = .ok (.goto 4, 3) := by decide +kernel
theorem dX7_best_67 : decode cX7_best 67 = .ok (.iload_n 2, 1) := by decide +kernel
theorem dX7_best_68 : decode cX7_best 68 = .ok (.istore_n 2, 1) := by decide +kernel
theorem dX7_best_69 : decode cX7_best 69 = .ok (.iinc 4 1, 3) := by decide +kernel
theorem dX7_best_72 : decode cX7_best 72 = .ok (.goto (-50), 3) := by decide +kernel
theorem dX7_best_75 : decode cX7_best 75 = .ok (.iload_n 3, 1) := by decide +kernel
theorem dX7_best_76 : decode cX7_best 76 = .ok (.ireturn, 1) := by decide +kernel
theorem dX7_rows_0 : decode cX7_rows 0 = .ok (.iconst 1, 1) := by decide +kernel
theorem dX7_rows_1 : decode cX7_rows 1 = .ok (.istore_n 1, 1) := by decide +kernel
theorem dX7_rows_2 : decode cX7_rows 2 = .ok (.iconst 0, 1) := by decide +kernel
theorem dX7_rows_3 : decode cX7_rows 3 = .ok (.istore_n 2, 1) := by decide +kernel
theorem dX7_rows_4 : decode cX7_rows 4 = .ok (.iload_n 2, 1) := by decide +kernel
theorem dX7_rows_5 : decode cX7_rows 5 = .ok (.aload_n 0, 1) := by decide +kernel
theorem dX7_rows_6 : decode cX7_rows 6 = .ok (.getfield 69, 3) := by decide +kernel
theorem dX7_rows_9 : decode cX7_rows 9 = .ok (.if_icmp .ge 14, 3) := by decide +kernel
theorem dX7_rows_12 : decode cX7_rows 12 = .ok (.iload_n 1, 1) := by decide +kernel
theorem dX7_rows_13 : decode cX7_rows 13 = .ok (.bipush 6, 2) := by decide +kernel
theorem dX7_rows_15 : decode cX7_rows 15 = .ok (.imul, 1) := by decide +kernel
theorem dX7_rows_16 : decode cX7_rows 16 = .ok (.istore_n 1, 1) := by decide +kernel
theorem dX7_rows_17 : decode cX7_rows 17 = .ok (.iinc 2 1, 3) := by decide +kernel
theorem dX7_rows_20 : decode cX7_rows 20 = .ok (.goto (-16), 3) := by decide +kernel
theorem dX7_rows_23 : decode cX7_rows 23 = .ok (.iload_n 1, 1) := by decide +kernel
theorem dX7_rows_24 : decode cX7_rows 24 = .ok (.ireturn, 1) := by decide +kernel
theorem dX7_isOrder_0 : decode cX7_isOrder 0 = .ok (.iload_n 1, 1) := by decide +kernel
theorem dX7_isOrder_1 : decode cX7_isOrder 1 = .ok (.istore_n 2, 1) := by decide +kernel
theorem dX7_isOrder_2 : decode cX7_isOrder 2 = .ok (.iconst 0, 1) := by decide +kernel
theorem dX7_isOrder_3 : decode cX7_isOrder 3 = .ok (.istore_n 3, 1) := by decide +kernel
theorem dX7_isOrder_4 : decode cX7_isOrder 4 = .ok (.aload_n 0, 1) := by decide +kernel
theorem dX7_isOrder_5 : decode cX7_isOrder 5 = .ok (.getfield 69, 3) := by decide +kernel
theorem dX7_isOrder_8 : decode cX7_isOrder 8 = .ok (.iconst 1, 1) := by decide +kernel
theorem dX7_isOrder_9 : decode cX7_isOrder 9 = .ok (.isub, 1) := by decide +kernel
theorem dX7_isOrder_10 : decode cX7_isOrder 10 = .ok (.istore 4, 2) := by decide +kernel
theorem dX7_isOrder_12 : decode cX7_isOrder 12 = .ok (.iload 4, 2) := by decide +kernel
theorem dX7_isOrder_14 : decode cX7_isOrder 14 = .ok (.ifCond .lt 37, 3) := by decide +kernel
theorem dX7_isOrder_17 : decode cX7_isOrder 17 = .ok (.aload_n 0, 1) := by decide +kernel
theorem dX7_isOrder_18 : decode cX7_isOrder 18 = .ok (.getfield 35, 3) := by decide +kernel
theorem dX7_isOrder_21 : decode cX7_isOrder 21 = .ok (.iload 4, 2) := by decide +kernel
theorem dX7_isOrder_23 : decode cX7_isOrder 23 = .ok (.iload_n 2, 1) := by decide +kernel
theorem dX7_isOrder_24 : decode cX7_isOrder 24 = .ok (.bipush 6, 2) := by decide +kernel
theorem dX7_isOrder_26 : decode cX7_isOrder 26 = .ok (.irem, 1) := by decide +kernel
theorem dX7_isOrder_27 : decode cX7_isOrder 27 = .ok (.iastore, 1) := by decide +kernel
theorem dX7_isOrder_28 : decode cX7_isOrder 28 = .ok (.iload_n 2, 1) := by decide +kernel
theorem dX7_isOrder_29 : decode cX7_isOrder 29 = .ok (.bipush 6, 2) := by decide +kernel
theorem dX7_isOrder_31 : decode cX7_isOrder 31 = .ok (.idiv, 1) := by decide +kernel
theorem dX7_isOrder_32 : decode cX7_isOrder 32 = .ok (.istore_n 2, 1) := by decide +kernel
theorem dX7_isOrder_33 : decode cX7_isOrder 33 = .ok (.iload_n 3, 1) := by decide +kernel
theorem dX7_isOrder_34 : decode cX7_isOrder 34 = .ok (.iconst 1, 1) := by decide +kernel
theorem dX7_isOrder_35 : decode cX7_isOrder 35 = .ok (.aload_n 0, 1) := by decide +kernel
theorem dX7_isOrder_36 : decode cX7_isOrder 36 = .ok (.getfield 35, 3) := by decide +kernel
theorem dX7_isOrder_39 : decode cX7_isOrder 39 = .ok (.iload 4, 2) := by decide +kernel
theorem dX7_isOrder_41 : decode cX7_isOrder 41 = .ok (.iaload, 1) := by decide +kernel
theorem dX7_isOrder_42 : decode cX7_isOrder 42 = .ok (.ishl, 1) := by decide +kernel
theorem dX7_isOrder_43 : decode cX7_isOrder 43 = .ok (.ior, 1) := by decide +kernel
theorem dX7_isOrder_44 : decode cX7_isOrder 44 = .ok (.istore_n 3, 1) := by decide +kernel
theorem dX7_isOrder_45 : decode cX7_isOrder 45 = .ok (.iinc 4 (-1), 3) := by decide +kernel
theorem dX7_isOrder_48 : decode cX7_isOrder 48 = .ok (.goto (-36), 3) := by decide +kernel
theorem dX7_isOrder_51 : decode cX7_isOrder 51 = .ok (.iload_n 3, 1) := by decide +kernel
theorem dX7_isOrder_52 : decode cX7_isOrder 52 = .ok (.iconst 1, 1) := by decide +kernel
theorem dX7_isOrder_53 : decode cX7_isOrder 53 = .ok (.aload_n 0, 1) := by decide +kernel
theorem dX7_isOrder_54 : decode cX7_isOrder 54 = .ok (.getfield 69, 3) := by decide +kernel
theorem dX7_isOrder_57 : decode cX7_isOrder 57 = .ok (.ishl, 1) := by decide +kernel
theorem dX7_isOrder_58 : decode cX7_isOrder 58 = .ok (.iconst 1, 1) := by decide +kernel
theorem dX7_isOrder_59 : decode cX7_isOrder 59 = .ok (.isub, 1) := by decide +kernel
theorem dX7_isOrder_60 : decode cX7_isOrder 60 = .ok (.if_icmp .ne 7, 3) := by decide +kernel
theorem dX7_isOrder_63 : decode cX7_isOrder 63 = .ok (.iconst 1, 1) := by decide +kernel
theorem dX7_isOrder_64 : decode cX7_isOrder 64 = .ok (.goto 4, 3) := by decide +kernel
theorem dX7_isOrder_67 : decode cX7_isOrder 67 = .ok (.iconst 0, 1) := by decide +kernel
theorem dX7_isOrder_68 : decode cX7_isOrder 68 = .ok (.ireturn, 1) := by decide +kernel
theorem dX7_goesInOrder_0 : decode cX7_goesInOrder 0 = .ok (.aload_n 0, 1) := by decide +kernel
theorem dX7_goesInOrder_1 : decode cX7_goesInOrder 1 = .ok (.invokevirtual 210, 3) := by decide +kernel
theorem dX7_goesInOrder_4 : decode cX7_goesInOrder 4 = .ok (.iconst 0, 1) := by decide +kernel
theorem dX7_goesInOrder_5 : decode cX7_goesInOrder 5 = .ok (.istore_n 1, 1) := by decide +kernel
theorem dX7_goesInOrder_6 : decode cX7_goesInOrder 6 = .ok (.iload_n 1, 1) := by decide +kernel
theorem dX7_goesInOrder_7 : decode cX7_goesInOrder 7 = .ok (.aload_n 0, 1) := by decide +kernel
theorem dX7_goesInOrder_8 : decode cX7_goesInOrder 8 = .ok (.getfield 69, 3) := by decide +kernel
theorem dX7_goesInOrder_11 : decode cX7_goesInOrder 11 = .ok (.if_icmp .ge 19, 3) := by decide +kernel
theorem dX7_goesInOrder_14 : decode cX7_goesInOrder 14 = .ok (.aload_n 0, 1) := by decide +kernel
theorem dX7_goesInOrder_15 : decode cX7_goesInOrder 15 = .ok (.aload_n 0, 1) := by decide +kernel
theorem dX7_goesInOrder_16 : decode cX7_goesInOrder 16 = .ok (.getfield 35, 3) := by decide +kernel
theorem dX7_goesInOrder_19 : decode cX7_goesInOrder 19 = .ok (.iload_n 1, 1) := by decide +kernel
theorem dX7_goesInOrder_20 : decode cX7_goesInOrder 20 = .ok (.iaload, 1) := by decide +kernel
theorem dX7_goesInOrder_21 : decode cX7_goesInOrder 21 = .ok (.invokevirtual 222, 3) := by decide +kernel
theorem dX7_goesInOrder_24 : decode cX7_goesInOrder 24 = .ok (.iinc 1 1, 3) := by decide +kernel
theorem dX7_goesInOrder_27 : decode cX7_goesInOrder 27 = .ok (.goto (-21), 3) := by decide +kernel
theorem dX7_goesInOrder_30 : decode cX7_goesInOrder 30 = .ok (.return_, 1) := by decide +kernel
theorem dX7_order_0 : decode cX7_order 0 = .ok (.iload_n 1, 1) := by decide +kernel
theorem dX7_order_1 : decode cX7_order 1 = .ok (.ifCond .eq 16, 3) := by decide +kernel
theorem dX7_order_4 : decode cX7_order 4 = .ok (.aload_n 0, 1) := by decide +kernel
theorem dX7_order_5 : decode cX7_order 5 = .ok (.iload_n 1, 1) := by decide +kernel
theorem dX7_order_6 : decode cX7_order 6 = .ok (.bipush 10, 2) := by decide +kernel
theorem dX7_order_8 : decode cX7_order 8 = .ok (.isub, 1) := by decide +kernel
theorem dX7_order_9 : decode cX7_order 9 = .ok (.invokevirtual 237, 3) := by decide +kernel
theorem dX7_order_12 : decode cX7_order 12 = .ok (.ifCond .ne 5, 3) := by decide +kernel
theorem dX7_order_15 : decode cX7_order 15 = .ok (.iconst (-1), 1) := by decide +kernel
theorem dX7_order_16 : decode cX7_order 16 = .ok (.ireturn, 1) := by decide +kernel
theorem dX7_order_17 : decode cX7_order 17 = .ok (.ldc 191, 2) := by decide +kernel
theorem dX7_order_19 : decode cX7_order 19 = .ok (.istore_n 2, 1) := by decide +kernel
theorem dX7_order_20 : decode cX7_order 20 = .ok (.iconst 0, 1) := by decide +kernel
theorem dX7_order_21 : decode cX7_order 21 = .ok (.istore_n 3, 1) := by decide +kernel
theorem dX7_order_22 : decode cX7_order 22 = .ok (.aload_n 0, 1) := by decide +kernel
theorem dX7_order_23 : decode cX7_order 23 = .ok (.invokevirtual 228, 3) := by decide +kernel
theorem dX7_order_26 : decode cX7_order 26 = .ok (.iconst 0, 1) := by decide +kernel
theorem dX7_order_27 : decode cX7_order 27 = .ok (.istore 4, 2) := by decide +kernel
theorem dX7_order_29 : decode cX7_order 29 = .ok (.iload 4, 2) := by decide +kernel
theorem dX7_order_31 : decode cX7_order 31 = .ok (.aload_n 0, 1) := by decide +kernel
theorem dX7_order_32 : decode cX7_order 32 = .ok (.invokevirtual 265, 3) := by decide +kernel
theorem dX7_order_35 : decode cX7_order 35 = .ok (.if_icmp .ge 54, 3) := by decide +kernel
theorem dX7_order_38 : decode cX7_order 38 = .ok (.aload_n 0, 1) := by decide +kernel
theorem dX7_order_39 : decode cX7_order 39 = .ok (.iload 4, 2) := by decide +kernel
theorem dX7_order_41 : decode cX7_order 41 = .ok (.invokevirtual 268, 3) := by decide +kernel
theorem dX7_order_44 : decode cX7_order 44 = .ok (.ifCond .eq 39, 3) := by decide +kernel
theorem dX7_order_47 : decode cX7_order 47 = .ok (.aload_n 0, 1) := by decide +kernel
theorem dX7_order_48 : decode cX7_order 48 = .ok (.invokevirtual 271, 3) := by decide +kernel
theorem dX7_order_51 : decode cX7_order 51 = .ok (.aload_n 0, 1) := by decide +kernel
theorem dX7_order_52 : decode cX7_order 52 = .ok (.invokevirtual 225, 3) := by decide +kernel
theorem dX7_order_55 : decode cX7_order 55 = .ok (.istore 5, 2) := by decide +kernel
theorem dX7_order_57 : decode cX7_order 57 = .ok (.iload 5, 2) := by decide +kernel
theorem dX7_order_59 : decode cX7_order 59 = .ok (.iload_n 2, 1) := by decide +kernel
theorem dX7_order_60 : decode cX7_order 60 = .ok (.if_icmp .ge 8, 3) := by decide +kernel
theorem dX7_order_63 : decode cX7_order 63 = .ok (.iload 4, 2) := by decide +kernel
theorem dX7_order_65 : decode cX7_order 65 = .ok (.goto 4, 3) := by decide +kernel
theorem dX7_order_68 : decode cX7_order 68 = .ok (.iload_n 3, 1) := by decide +kernel
theorem dX7_order_69 : decode cX7_order 69 = .ok (.istore_n 3, 1) := by decide +kernel
theorem dX7_order_70 : decode cX7_order 70 = .ok (.iload 5, 2) := by decide +kernel
theorem dX7_order_72 : decode cX7_order 72 = .ok (.iload_n 2, 1) := by decide +kernel
theorem dX7_order_73 : decode cX7_order 73 = .ok (.if_icmp .ge 8, 3) := by decide +kernel
theorem dX7_order_76 : decode cX7_order 76 = .ok (.iload 5, 2) := by decide +kernel
theorem dX7_order_78 : decode cX7_order 78 = .ok (.goto 4, 3) := by decide +kernel
theorem dX7_order_81 : decode cX7_order 81 = .ok (.iload_n 2, 1) := by decide +kernel
theorem dX7_order_82 : decode cX7_order 82 = .ok (.istore_n 2, 1) := by decide +kernel
theorem dX7_order_83 : decode cX7_order 83 = .ok (.iinc 4 1, 3) := by decide +kernel
theorem dX7_order_86 : decode cX7_order 86 = .ok (.goto (-57), 3) := by decide +kernel
theorem dX7_order_89 : decode cX7_order 89 = .ok (.aload_n 0, 1) := by decide +kernel
theorem dX7_order_90 : decode cX7_order 90 = .ok (.iload_n 3, 1) := by decide +kernel
theorem dX7_order_91 : decode cX7_order 91 = .ok (.invokevirtual 268, 3) := by decide +kernel
theorem dX7_order_94 : decode cX7_order 94 = .ok (.pop, 1) := by decide +kernel
theorem dX7_order_95 : decode cX7_order 95 = .ok (.iload_n 1, 1) := by decide +kernel
theorem dX7_order_96 : decode cX7_order 96 = .ok (.ifCond .ne 7, 3) := by decide +kernel
theorem dX7_order_99 : decode cX7_order 99 = .ok (.iload_n 2, 1) := by decide +kernel
theorem dX7_order_100 : decode cX7_order 100 = .ok (.goto 12, 3) := by decide +kernel
theorem dX7_order_103 : decode cX7_order 103 = .ok (.aload_n 0, 1) := by decide +kernel
theorem dX7_order_104 : decode cX7_order 104 = .ok (.getfield 35, 3) := by decide +kernel
theorem dX7_order_107 : decode cX7_order 107 = .ok (.iload_n 1, 1) := by decide +kernel
theorem dX7_order_108 : decode cX7_order 108 = .ok (.bipush 10, 2) := by decide +kernel
theorem dX7_order_110 : decode cX7_order 110 = .ok (.isub, 1) := by decide +kernel
theorem dX7_order_111 : decode cX7_order 111 = .ok (.iaload, 1) := by decide +kernel
theorem dX7_order_112 : decode cX7_order 112 = .ok (.ireturn, 1) := by decide +kernel
theorem dX7_firsts_0 : decode cX7_firsts 0 = .ok (.aload_n 0, 1) := by decide +kernel
theorem dX7_firsts_1 : decode cX7_firsts 1 = .ok (.iload_n 1, 1) := by decide +kernel
theorem dX7_firsts_2 : decode cX7_firsts 2 = .ok (.invokevirtual 237, 3) := by decide +kernel
theorem dX7_firsts_5 : decode cX7_firsts 5 = .ok (.ifCond .ne 5, 3) := by decide +kernel
theorem dX7_firsts_8 : decode cX7_firsts 8 = .ok (.iconst (-1), 1) := by decide +kernel
theorem dX7_firsts_9 : decode cX7_firsts 9 = .ok (.ireturn, 1) := by decide +kernel
theorem dX7_firsts_10 : decode cX7_firsts 10 = .ok (.iconst 0, 1) := by decide +kernel
theorem dX7_firsts_11 : decode cX7_firsts 11 = .ok (.istore_n 2, 1) := by decide +kernel
theorem dX7_firsts_12 : decode cX7_firsts 12 = .ok (.iconst 0, 1) := by decide +kernel
theorem dX7_firsts_13 : decode cX7_firsts 13 = .ok (.istore_n 3, 1) := by decide +kernel
theorem dX7_firsts_14 : decode cX7_firsts 14 = .ok (.iload_n 3, 1) := by decide +kernel
theorem dX7_firsts_15 : decode cX7_firsts 15 = .ok (.iconst 5, 1) := by decide +kernel
theorem dX7_firsts_16 : decode cX7_firsts 16 = .ok (.if_icmp .ge 37, 3) := by decide +kernel
theorem dX7_firsts_19 : decode cX7_firsts 19 = .ok (.aload_n 0, 1) := by decide +kernel
theorem dX7_firsts_20 : decode cX7_firsts 20 = .ok (.iload_n 3, 1) := by decide +kernel
theorem dX7_firsts_21 : decode cX7_firsts 21 = .ok (.invokevirtual 262, 3) := by decide +kernel
theorem dX7_firsts_24 : decode cX7_firsts 24 = .ok (.iload_n 2, 1) := by decide +kernel
theorem dX7_firsts_25 : decode cX7_firsts 25 = .ok (.aload_n 0, 1) := by decide +kernel
theorem dX7_firsts_26 : decode cX7_firsts 26 = .ok (.getfield 26, 3) := by decide +kernel
theorem dX7_firsts_29 : decode cX7_firsts 29 = .ok (.iconst 0, 1) := by decide +kernel
theorem dX7_firsts_30 : decode cX7_firsts 30 = .ok (.iaload, 1) := by decide +kernel
theorem dX7_firsts_31 : decode cX7_firsts 31 = .ok (.iload_n 1, 1) := by decide +kernel
theorem dX7_firsts_32 : decode cX7_firsts 32 = .ok (.if_icmp .ne 7, 3) := by decide +kernel
theorem dX7_firsts_35 : decode cX7_firsts 35 = .ok (.iconst 1, 1) := by decide +kernel
theorem dX7_firsts_36 : decode cX7_firsts 36 = .ok (.goto 4, 3) := by decide +kernel
theorem dX7_firsts_39 : decode cX7_firsts 39 = .ok (.iconst 0, 1) := by decide +kernel
theorem dX7_firsts_40 : decode cX7_firsts 40 = .ok (.invokestatic 184, 3) := by decide +kernel
theorem dX7_firsts_43 : decode cX7_firsts 43 = .ok (.iload_n 3, 1) := by decide +kernel
theorem dX7_firsts_44 : decode cX7_firsts 44 = .ok (.ishl, 1) := by decide +kernel
theorem dX7_firsts_45 : decode cX7_firsts 45 = .ok (.ior, 1) := by decide +kernel
theorem dX7_firsts_46 : decode cX7_firsts 46 = .ok (.istore_n 2, 1) := by decide +kernel
theorem dX7_firsts_47 : decode cX7_firsts 47 = .ok (.iinc 3 1, 3) := by decide +kernel
theorem dX7_firsts_50 : decode cX7_firsts 50 = .ok (.goto (-36), 3) := by decide +kernel
theorem dX7_firsts_53 : decode cX7_firsts 53 = .ok (.iload_n 2, 1) := by decide +kernel
theorem dX7_firsts_54 : decode cX7_firsts 54 = .ok (.ireturn, 1) := by decide +kernel
theorem dX7_gainOf_0 : decode cX7_gainOf 0 = .ok (.aload_n 0, 1) := by decide +kernel
theorem dX7_gainOf_1 : decode cX7_gainOf 1 = .ok (.invokevirtual 231, 3) := by decide +kernel
theorem dX7_gainOf_4 : decode cX7_gainOf 4 = .ok (.aload_n 0, 1) := by decide +kernel
theorem dX7_gainOf_5 : decode cX7_gainOf 5 = .ok (.getfield 32, 3) := by decide +kernel
theorem dX7_gainOf_8 : decode cX7_gainOf 8 = .ok (.iload_n 1, 1) := by decide +kernel
theorem dX7_gainOf_9 : decode cX7_gainOf 9 = .ok (.iaload, 1) := by decide +kernel
theorem dX7_gainOf_10 : decode cX7_gainOf 10 = .ok (.istore_n 2, 1) := by decide +kernel
theorem dX7_gainOf_11 : decode cX7_gainOf 11 = .ok (.aload_n 0, 1) := by decide +kernel
theorem dX7_gainOf_12 : decode cX7_gainOf 12 = .ok (.iload_n 1, 1) := by decide +kernel
theorem dX7_gainOf_13 : decode cX7_gainOf 13 = .ok (.iconst 5, 1) := by decide +kernel
theorem dX7_gainOf_14 : decode cX7_gainOf 14 = .ok (.iconst 1, 1) := by decide +kernel
theorem dX7_gainOf_15 : decode cX7_gainOf 15 = .ok (.aload_n 0, 1) := by decide +kernel
theorem dX7_gainOf_16 : decode cX7_gainOf 16 = .ok (.iload_n 1, 1) := by decide +kernel
theorem dX7_gainOf_17 : decode cX7_gainOf 17 = .ok (.iconst 5, 1) := by decide +kernel
theorem dX7_gainOf_18 : decode cX7_gainOf 18 = .ok (.invokevirtual 166, 3) := by decide +kernel
theorem dX7_gainOf_21 : decode cX7_gainOf 21 = .ok (.isub, 1) := by decide +kernel
theorem dX7_gainOf_22 : decode cX7_gainOf 22 = .ok (.invokevirtual 274, 3) := by decide +kernel
theorem dX7_gainOf_25 : decode cX7_gainOf 25 = .ok (.aload_n 0, 1) := by decide +kernel
theorem dX7_gainOf_26 : decode cX7_gainOf 26 = .ok (.invokevirtual 231, 3) := by decide +kernel
theorem dX7_gainOf_29 : decode cX7_gainOf 29 = .ok (.aload_n 0, 1) := by decide +kernel
theorem dX7_gainOf_30 : decode cX7_gainOf 30 = .ok (.iload_n 1, 1) := by decide +kernel
theorem dX7_gainOf_31 : decode cX7_gainOf 31 = .ok (.iconst 5, 1) := by decide +kernel
theorem dX7_gainOf_32 : decode cX7_gainOf 32 = .ok (.iconst 1, 1) := by decide +kernel
theorem dX7_gainOf_33 : decode cX7_gainOf 33 = .ok (.aload_n 0, 1) := by decide +kernel
theorem dX7_gainOf_34 : decode cX7_gainOf 34 = .ok (.iload_n 1, 1) := by decide +kernel
theorem dX7_gainOf_35 : decode cX7_gainOf 35 = .ok (.iconst 5, 1) := by decide +kernel
theorem dX7_gainOf_36 : decode cX7_gainOf 36 = .ok (.invokevirtual 166, 3) := by decide +kernel
theorem dX7_gainOf_39 : decode cX7_gainOf 39 = .ok (.isub, 1) := by decide +kernel
theorem dX7_gainOf_40 : decode cX7_gainOf 40 = .ok (.invokevirtual 274, 3) := by decide +kernel
theorem dX7_gainOf_43 : decode cX7_gainOf 43 = .ok (.iload_n 2, 1) := by decide +kernel
theorem dX7_gainOf_44 : decode cX7_gainOf 44 = .ok (.aload_n 0, 1) := by decide +kernel
theorem dX7_gainOf_45 : decode cX7_gainOf 45 = .ok (.getfield 32, 3) := by decide +kernel
theorem dX7_gainOf_48 : decode cX7_gainOf 48 = .ok (.iload_n 1, 1) := by decide +kernel
theorem dX7_gainOf_49 : decode cX7_gainOf 49 = .ok (.iaload, 1) := by decide +kernel
theorem dX7_gainOf_50 : decode cX7_gainOf 50 = .ok (.isub, 1) := by decide +kernel
theorem dX7_gainOf_51 : decode cX7_gainOf 51 = .ok (.ireturn, 1) := by decide +kernel
theorem dX7_gain_0 : decode cX7_gain 0 = .ok (.aload_n 0, 1) := by decide +kernel
theorem dX7_gain_1 : decode cX7_gain 1 = .ok (.iload_n 1, 1) := by decide +kernel
theorem dX7_gain_2 : decode cX7_gain 2 = .ok (.invokevirtual 237, 3) := by decide +kernel
theorem dX7_gain_5 : decode cX7_gain 5 = .ok (.ifCond .ne 5, 3) := by decide +kernel
theorem dX7_gain_8 : decode cX7_gain 8 = .ok (.iconst (-1), 1) := by decide +kernel
theorem dX7_gain_9 : decode cX7_gain 9 = .ok (.ireturn, 1) := by decide +kernel
theorem dX7_gain_10 : decode cX7_gain 10 = .ok (.aload_n 0, 1) := by decide +kernel
theorem dX7_gain_11 : decode cX7_gain 11 = .ok (.invokevirtual 228, 3) := by decide +kernel
theorem dX7_gain_14 : decode cX7_gain 14 = .ok (.sipush 1000, 3) := by decide +kernel
theorem dX7_gain_17 : decode cX7_gain 17 = .ok (.aload_n 0, 1) := by decide +kernel
theorem dX7_gain_18 : decode cX7_gain 18 = .ok (.iload_n 1, 1) := by decide +kernel
theorem dX7_gain_19 : decode cX7_gain 19 = .ok (.invokevirtual 278, 3) := by decide +kernel
theorem dX7_gain_22 : decode cX7_gain 22 = .ok (.iadd, 1) := by decide +kernel
theorem dX7_gain_23 : decode cX7_gain 23 = .ok (.ireturn, 1) := by decide +kernel
theorem dX7_isCalm_0 : decode cX7_isCalm 0 = .ok (.iconst 1, 1) := by decide +kernel
theorem dX7_isCalm_1 : decode cX7_isCalm 1 = .ok (.istore_n 1, 1) := by decide +kernel
theorem dX7_isCalm_2 : decode cX7_isCalm 2 = .ok (.iconst 0, 1) := by decide +kernel
theorem dX7_isCalm_3 : decode cX7_isCalm 3 = .ok (.istore_n 2, 1) := by decide +kernel
theorem dX7_isCalm_4 : decode cX7_isCalm 4 = .ok (.iload_n 2, 1) := by decide +kernel
theorem dX7_isCalm_5 : decode cX7_isCalm 5 = .ok (.aload_n 0, 1) := by decide +kernel
theorem dX7_isCalm_6 : decode cX7_isCalm 6 = .ok (.getfield 69, 3) := by decide +kernel
theorem dX7_isCalm_9 : decode cX7_isCalm 9 = .ok (.if_icmp .ge 27, 3) := by decide +kernel
theorem dX7_isCalm_12 : decode cX7_isCalm 12 = .ok (.iload_n 1, 1) := by decide +kernel
theorem dX7_isCalm_13 : decode cX7_isCalm 13 = .ok (.ifCond .eq 15, 3) := by decide +kernel
theorem dX7_isCalm_16 : decode cX7_isCalm 16 = .ok (.aload_n 0, 1) := by decide +kernel
theorem dX7_isCalm_17 : decode cX7_isCalm 17 = .ok (.iload_n 2, 1) := by decide +kernel
theorem dX7_isCalm_18 : decode cX7_isCalm 18 = .ok (.invokevirtual 278, 3) := by decide +kernel
theorem dX7_isCalm_21 : decode cX7_isCalm 21 = .ok (.ifCond .gt 7, 3) := by decide +kernel
theorem dX7_isCalm_24 : decode cX7_isCalm 24 = .ok (.iconst 1, 1) := by decide +kernel
theorem dX7_isCalm_25 : decode cX7_isCalm 25 = .ok (.goto 4, 3) := by decide +kernel
theorem dX7_isCalm_28 : decode cX7_isCalm 28 = .ok (.iconst 0, 1) := by decide +kernel
theorem dX7_isCalm_29 : decode cX7_isCalm 29 = .ok (.istore_n 1, 1) := by decide +kernel
theorem dX7_isCalm_30 : decode cX7_isCalm 30 = .ok (.iinc 2 1, 3) := by decide +kernel
theorem dX7_isCalm_33 : decode cX7_isCalm 33 = .ok (.goto (-29), 3) := by decide +kernel
theorem dX7_isCalm_36 : decode cX7_isCalm 36 = .ok (.iload_n 1, 1) := by decide +kernel
theorem dX7_isCalm_37 : decode cX7_isCalm 37 = .ok (.ireturn, 1) := by decide +kernel
theorem dX7_calm_0 : decode cX7_calm 0 = .ok (.iconst 0, 1) := by decide +kernel
theorem dX7_calm_1 : decode cX7_calm 1 = .ok (.istore_n 1, 1) := by decide +kernel
theorem dX7_calm_2 : decode cX7_calm 2 = .ok (.iconst 0, 1) := by decide +kernel
theorem dX7_calm_3 : decode cX7_calm 3 = .ok (.istore_n 2, 1) := by decide +kernel
theorem dX7_calm_4 : decode cX7_calm 4 = .ok (.iload_n 2, 1) := by decide +kernel
theorem dX7_calm_5 : decode cX7_calm 5 = .ok (.iconst 5, 1) := by decide +kernel
theorem dX7_calm_6 : decode cX7_calm 6 = .ok (.if_icmp .ge 32, 3) := by decide +kernel
theorem dX7_calm_9 : decode cX7_calm 9 = .ok (.aload_n 0, 1) := by decide +kernel
theorem dX7_calm_10 : decode cX7_calm 10 = .ok (.invokevirtual 228, 3) := by decide +kernel
theorem dX7_calm_13 : decode cX7_calm 13 = .ok (.aload_n 0, 1) := by decide +kernel
theorem dX7_calm_14 : decode cX7_calm 14 = .ok (.getfield 13, 3) := by decide +kernel
theorem dX7_calm_17 : decode cX7_calm 17 = .ok (.iconst 3, 1) := by decide +kernel
theorem dX7_calm_18 : decode cX7_calm 18 = .ok (.iload_n 2, 1) := by decide +kernel
theorem dX7_calm_19 : decode cX7_calm 19 = .ok (.iastore, 1) := by decide +kernel
theorem dX7_calm_20 : decode cX7_calm 20 = .ok (.iload_n 1, 1) := by decide +kernel
theorem dX7_calm_21 : decode cX7_calm 21 = .ok (.aload_n 0, 1) := by decide +kernel
theorem dX7_calm_22 : decode cX7_calm 22 = .ok (.invokevirtual 281, 3) := by decide +kernel
theorem dX7_calm_25 : decode cX7_calm 25 = .ok (.invokestatic 184, 3) := by decide +kernel
theorem dX7_calm_28 : decode cX7_calm 28 = .ok (.iload_n 2, 1) := by decide +kernel
theorem dX7_calm_29 : decode cX7_calm 29 = .ok (.ishl, 1) := by decide +kernel
theorem dX7_calm_30 : decode cX7_calm 30 = .ok (.ior, 1) := by decide +kernel
theorem dX7_calm_31 : decode cX7_calm 31 = .ok (.istore_n 1, 1) := by decide +kernel
theorem dX7_calm_32 : decode cX7_calm 32 = .ok (.iinc 2 1, 3) := by decide +kernel
theorem dX7_calm_35 : decode cX7_calm 35 = .ok (.goto (-31), 3) := by decide +kernel
theorem dX7_calm_38 : decode cX7_calm 38 = .ok (.iload_n 1, 1) := by decide +kernel
theorem dX7_calm_39 : decode cX7_calm 39 = .ok (.ireturn, 1) := by decide +kernel
theorem dX7_liesBy_0 : decode cX7_liesBy 0 = .ok (.iconst 0, 1) := by decide +kernel
theorem dX7_liesBy_1 : decode cX7_liesBy 1 = .ok (.istore_n 2, 1) := by decide +kernel
theorem dX7_liesBy_2 : decode cX7_liesBy 2 = .ok (.iload_n 2, 1) := by decide +kernel
theorem dX7_liesBy_3 : decode cX7_liesBy 3 = .ok (.aload_n 0, 1) := by decide +kernel
theorem dX7_liesBy_4 : decode cX7_liesBy 4 = .ok (.getfield 69, 3) := by decide +kernel
theorem dX7_liesBy_7 : decode cX7_liesBy 7 = .ok (.if_icmp .ge 20, 3) := by decide +kernel
theorem dX7_liesBy_10 : decode cX7_liesBy 10 = .ok (.aload_n 0, 1) := by decide +kernel
theorem dX7_liesBy_11 : decode cX7_liesBy 11 = .ok (.iload_n 2, 1) := by decide +kernel
theorem dX7_liesBy_12 : decode cX7_liesBy 12 = .ok (.iconst 5, 1) := by decide +kernel
theorem dX7_liesBy_13 : decode cX7_liesBy 13 = .ok (.iload_n 1, 1) := by decide +kernel
theorem dX7_liesBy_14 : decode cX7_liesBy 14 = .ok (.iload_n 2, 1) := by decide +kernel
theorem dX7_liesBy_15 : decode cX7_liesBy 15 = .ok (.ishr, 1) := by decide +kernel
theorem dX7_liesBy_16 : decode cX7_liesBy 16 = .ok (.iconst 1, 1) := by decide +kernel
theorem dX7_liesBy_17 : decode cX7_liesBy 17 = .ok (.iand, 1) := by decide +kernel
theorem dX7_liesBy_18 : decode cX7_liesBy 18 = .ok (.invokevirtual 274, 3) := by decide +kernel
theorem dX7_liesBy_21 : decode cX7_liesBy 21 = .ok (.iinc 2 1, 3) := by decide +kernel
theorem dX7_liesBy_24 : decode cX7_liesBy 24 = .ok (.goto (-22), 3) := by decide +kernel
theorem dX7_liesBy_27 : decode cX7_liesBy 27 = .ok (.return_, 1) := by decide +kernel
theorem dX7_rests_0 : decode cX7_rests 0 = .ok (.iload_n 1, 1) := by decide +kernel
theorem dX7_rests_1 : decode cX7_rests 1 = .ok (.invokestatic 285, 3) := by decide +kernel
theorem dX7_rests_4 : decode cX7_rests 4 = .ok (.ifCond .ne 5, 3) := by decide +kernel
theorem dX7_rests_7 : decode cX7_rests 7 = .ok (.iconst (-1), 1) := by decide +kernel
theorem dX7_rests_8 : decode cX7_rests 8 = .ok (.ireturn, 1) := by decide +kernel
theorem dX7_rests_9 : decode cX7_rests 9 = .ok (.iconst 0, 1) := by decide +kernel
theorem dX7_rests_10 : decode cX7_rests 10 = .ok (.istore_n 2, 1) := by decide +kernel
theorem dX7_rests_11 : decode cX7_rests 11 = .ok (.bipush (-4), 2) := by decide +kernel
theorem dX7_rests_13 : decode cX7_rests 13 = .ok (.istore_n 3, 1) := by decide +kernel
theorem dX7_rests_14 : decode cX7_rests 14 = .ok (.iconst 0, 1) := by decide +kernel
theorem dX7_rests_15 : decode cX7_rests 15 = .ok (.istore 4, 2) := by decide +kernel
theorem dX7_rests_17 : decode cX7_rests 17 = .ok (.iload 4, 2) := by decide +kernel
theorem dX7_rests_19 : decode cX7_rests 19 = .ok (.iconst 1, 1) := by decide +kernel
theorem dX7_rests_20 : decode cX7_rests 20 = .ok (.aload_n 0, 1) := by decide +kernel
theorem dX7_rests_21 : decode cX7_rests 21 = .ok (.getfield 69, 3) := by decide +kernel
theorem dX7_rests_24 : decode cX7_rests 24 = .ok (.ishl, 1) := by decide +kernel
theorem dX7_rests_25 : decode cX7_rests 25 = .ok (.if_icmp .ge 40, 3) := by decide +kernel
theorem dX7_rests_28 : decode cX7_rests 28 = .ok (.aload_n 0, 1) := by decide +kernel
theorem dX7_rests_29 : decode cX7_rests 29 = .ok (.invokevirtual 228, 3) := by decide +kernel
theorem dX7_rests_32 : decode cX7_rests 32 = .ok (.aload_n 0, 1) := by decide +kernel
theorem dX7_rests_33 : decode cX7_rests 33 = .ok (.iload 4, 2) := by decide +kernel
theorem dX7_rests_35 : decode cX7_rests 35 = .ok (.invokevirtual 288, 3) := by decide +kernel
theorem dX7_rests_38 : decode cX7_rests 38 = .ok (.aload_n 0, 1) := by decide +kernel
theorem dX7_rests_39 : decode cX7_rests 39 = .ok (.invokevirtual 281, 3) := by decide +kernel
theorem dX7_rests_42 : decode cX7_rests 42 = .ok (.ifCond .eq 17, 3) := by decide +kernel
theorem dX7_rests_45 : decode cX7_rests 45 = .ok (.iload_n 2, 1) := by decide +kernel
theorem dX7_rests_46 : decode cX7_rests 46 = .ok (.ifCond .ne 8, 3) := by decide +kernel
theorem dX7_rests_49 : decode cX7_rests 49 = .ok (.iload 4, 2) := by decide +kernel
theorem dX7_rests_51 : decode cX7_rests 51 = .ok (.goto 4, 3) := by decide +kernel
theorem dX7_rests_54 : decode cX7_rests 54 = .ok (.iload_n 3, 1) := by decide +kernel
theorem dX7_rests_55 : decode cX7_rests 55 = .ok (.istore_n 3, 1) := by decide +kernel
theorem dX7_rests_56 : decode cX7_rests 56 = .ok (.iinc 2 1, 3) := by decide +kernel
theorem dX7_rests_59 : decode cX7_rests 59 = .ok (.iinc 4 1, 3) := by decide +kernel
theorem dX7_rests_62 : decode cX7_rests 62 = .ok (.goto (-45), 3) := by decide +kernel
theorem dX7_rests_65 : decode cX7_rests 65 = .ok (.iload_n 1, 1) := by decide +kernel
theorem dX7_rests_66 : decode cX7_rests 66 = .ok (.ifCond .ne 7, 3) := by decide +kernel
theorem dX7_rests_69 : decode cX7_rests 69 = .ok (.iload_n 2, 1) := by decide +kernel
theorem dX7_rests_70 : decode cX7_rests 70 = .ok (.goto 4, 3) := by decide +kernel
theorem dX7_rests_73 : decode cX7_rests 73 = .ok (.iload_n 3, 1) := by decide +kernel
theorem dX7_rests_74 : decode cX7_rests 74 = .ok (.ireturn, 1) := by decide +kernel
theorem dX7_boy_0 : decode cX7_boy 0 = .ok (.aload_n 0, 1) := by decide +kernel
theorem dX7_boy_1 : decode cX7_boy 1 = .ok (.iload_n 1, 1) := by decide +kernel
theorem dX7_boy_2 : decode cX7_boy 2 = .ok (.invokevirtual 237, 3) := by decide +kernel
theorem dX7_boy_5 : decode cX7_boy 5 = .ok (.ifCond .eq 16, 3) := by decide +kernel
theorem dX7_boy_8 : decode cX7_boy 8 = .ok (.aload_n 0, 1) := by decide +kernel
theorem dX7_boy_9 : decode cX7_boy 9 = .ok (.iload_n 2, 1) := by decide +kernel
theorem dX7_boy_10 : decode cX7_boy 10 = .ok (.invokevirtual 237, 3) := by decide +kernel
theorem dX7_boy_13 : decode cX7_boy 13 = .ok (.ifCond .eq 8, 3) := by decide +kernel
theorem dX7_boy_16 : decode cX7_boy 16 = .ok (.iload_n 1, 1) := by decide +kernel
theorem dX7_boy_17 : decode cX7_boy 17 = .ok (.iload_n 2, 1) := by decide +kernel
theorem dX7_boy_18 : decode cX7_boy 18 = .ok (.if_icmp .ne 5, 3) := by decide +kernel
theorem dX7_boy_21 : decode cX7_boy 21 = .ok (.iconst (-1), 1) := by decide +kernel
theorem dX7_boy_22 : decode cX7_boy 22 = .ok (.ireturn, 1) := by decide +kernel
theorem dX7_boy_23 : decode cX7_boy 23 = .ok (.iconst 0, 1) := by decide +kernel
theorem dX7_boy_24 : decode cX7_boy 24 = .ok (.istore_n 3, 1) := by decide +kernel
theorem dX7_boy_25 : decode cX7_boy 25 = .ok (.iload_n 3, 1) := by decide +kernel
theorem dX7_boy_26 : decode cX7_boy 26 = .ok (.bipush 9, 2) := by decide +kernel
theorem dX7_boy_28 : decode cX7_boy 28 = .ok (.if_icmp .gt 39, 3) := by decide +kernel
theorem dX7_boy_31 : decode cX7_boy 31 = .ok (.aload_n 0, 1) := by decide +kernel
theorem dX7_boy_32 : decode cX7_boy 32 = .ok (.invokevirtual 228, 3) := by decide +kernel
theorem dX7_boy_35 : decode cX7_boy 35 = .ok (.aload_n 0, 1) := by decide +kernel
theorem dX7_boy_36 : decode cX7_boy 36 = .ok (.iload_n 1, 1) := by decide +kernel
theorem dX7_boy_37 : decode cX7_boy 37 = .ok (.iconst 4, 1) := by decide +kernel
theorem dX7_boy_38 : decode cX7_boy 38 = .ok (.iload_n 3, 1) := by decide +kernel
theorem dX7_boy_39 : decode cX7_boy 39 = .ok (.invokevirtual 274, 3) := by decide +kernel
theorem dX7_boy_42 : decode cX7_boy 42 = .ok (.aload_n 0, 1) := by decide +kernel
theorem dX7_boy_43 : decode cX7_boy 43 = .ok (.invokevirtual 231, 3) := by decide +kernel
theorem dX7_boy_46 : decode cX7_boy 46 = .ok (.aload_n 0, 1) := by decide +kernel
theorem dX7_boy_47 : decode cX7_boy 47 = .ok (.iload_n 1, 1) := by decide +kernel
theorem dX7_boy_48 : decode cX7_boy 48 = .ok (.invokevirtual 291, 3) := by decide +kernel
theorem dX7_boy_51 : decode cX7_boy 51 = .ok (.aload_n 0, 1) := by decide +kernel
theorem dX7_boy_52 : decode cX7_boy 52 = .ok (.iload_n 2, 1) := by decide +kernel
theorem dX7_boy_53 : decode cX7_boy 53 = .ok (.invokevirtual 291, 3) := by decide +kernel
theorem dX7_boy_56 : decode cX7_boy 56 = .ok (.if_icmp .ge 5, 3) := by decide +kernel
theorem dX7_boy_59 : decode cX7_boy 59 = .ok (.iload_n 3, 1) := by decide +kernel
theorem dX7_boy_60 : decode cX7_boy 60 = .ok (.ireturn, 1) := by decide +kernel
theorem dX7_boy_61 : decode cX7_boy 61 = .ok (.iinc 3 1, 3) := by decide +kernel
theorem dX7_boy_64 : decode cX7_boy 64 = .ok (.goto (-39), 3) := by decide +kernel
theorem dX7_boy_67 : decode cX7_boy 67 = .ok (.bipush (-4), 2) := by decide +kernel
theorem dX7_boy_69 : decode cX7_boy 69 = .ok (.ireturn, 1) := by decide +kernel
theorem dX7_post_0 : decode cX7_post 0 = .ok (.iload_n 1, 1) := by decide +kernel
theorem dX7_post_1 : decode cX7_post 1 = .ok (.invokestatic 285, 3) := by decide +kernel
theorem dX7_post_4 : decode cX7_post 4 = .ok (.ifCond .ne 5, 3) := by decide +kernel
theorem dX7_post_7 : decode cX7_post 7 = .ok (.iconst (-1), 1) := by decide +kernel
theorem dX7_post_8 : decode cX7_post 8 = .ok (.ireturn, 1) := by decide +kernel
theorem dX7_post_9 : decode cX7_post 9 = .ok (.ldc 191, 2) := by decide +kernel
theorem dX7_post_11 : decode cX7_post 11 = .ok (.istore_n 2, 1) := by decide +kernel
theorem dX7_post_12 : decode cX7_post 12 = .ok (.iconst 0, 1) := by decide +kernel
theorem dX7_post_13 : decode cX7_post 13 = .ok (.istore_n 3, 1) := by decide +kernel
theorem dX7_post_14 : decode cX7_post 14 = .ok (.iconst 0, 1) := by decide +kernel
theorem dX7_post_15 : decode cX7_post 15 = .ok (.istore 4, 2) := by decide +kernel
theorem dX7_post_17 : decode cX7_post 17 = .ok (.iload 4, 2) := by decide +kernel
theorem dX7_post_19 : decode cX7_post 19 = .ok (.bipush 9, 2) := by decide +kernel
theorem dX7_post_21 : decode cX7_post 21 = .ok (.if_icmp .gt 57, 3) := by decide +kernel
theorem dX7_post_24 : decode cX7_post 24 = .ok (.aload_n 0, 1) := by decide +kernel
theorem dX7_post_25 : decode cX7_post 25 = .ok (.invokevirtual 228, 3) := by decide +kernel
theorem dX7_post_28 : decode cX7_post 28 = .ok (.aload_n 0, 1) := by decide +kernel
theorem dX7_post_29 : decode cX7_post 29 = .ok (.getfield 13, 3) := by decide +kernel
theorem dX7_post_32 : decode cX7_post 32 = .ok (.iconst 4, 1) := by decide +kernel
theorem dX7_post_33 : decode cX7_post 33 = .ok (.iload 4, 2) := by decide +kernel
theorem dX7_post_35 : decode cX7_post 35 = .ok (.iastore, 1) := by decide +kernel
theorem dX7_post_36 : decode cX7_post 36 = .ok (.aload_n 0, 1) := by decide +kernel
theorem dX7_post_37 : decode cX7_post 37 = .ok (.invokevirtual 231, 3) := by decide +kernel
theorem dX7_post_40 : decode cX7_post 40 = .ok (.aload_n 0, 1) := by decide +kernel
theorem dX7_post_41 : decode cX7_post 41 = .ok (.invokevirtual 225, 3) := by decide +kernel
theorem dX7_post_44 : decode cX7_post 44 = .ok (.istore 5, 2) := by decide +kernel
theorem dX7_post_46 : decode cX7_post 46 = .ok (.iload 5, 2) := by decide +kernel
theorem dX7_post_48 : decode cX7_post 48 = .ok (.iload_n 2, 1) := by decide +kernel
theorem dX7_post_49 : decode cX7_post 49 = .ok (.if_icmp .ge 8, 3) := by decide +kernel
theorem dX7_post_52 : decode cX7_post 52 = .ok (.iload 4, 2) := by decide +kernel
theorem dX7_post_54 : decode cX7_post 54 = .ok (.goto 4, 3) := by decide +kernel
theorem dX7_post_57 : decode cX7_post 57 = .ok (.iload_n 3, 1) := by decide +kernel
theorem dX7_post_58 : decode cX7_post 58 = .ok (.istore_n 3, 1) := by decide +kernel
theorem dX7_post_59 : decode cX7_post 59 = .ok (.iload 5, 2) := by decide +kernel
theorem dX7_post_61 : decode cX7_post 61 = .ok (.iload_n 2, 1) := by decide +kernel
theorem dX7_post_62 : decode cX7_post 62 = .ok (.if_icmp .ge 8, 3) := by decide +kernel
theorem dX7_post_65 : decode cX7_post 65 = .ok (.iload 5, 2) := by decide +kernel
theorem dX7_post_67 : decode cX7_post 67 = .ok (.goto 4, 3) := by decide +kernel
theorem dX7_post_70 : decode cX7_post 70 = .ok (.iload_n 2, 1) := by decide +kernel
theorem dX7_post_71 : decode cX7_post 71 = .ok (.istore_n 2, 1) := by decide +kernel
theorem dX7_post_72 : decode cX7_post 72 = .ok (.iinc 4 1, 3) := by decide +kernel
theorem dX7_post_75 : decode cX7_post 75 = .ok (.goto (-58), 3) := by decide +kernel
theorem dX7_post_78 : decode cX7_post 78 = .ok (.iload_n 1, 1) := by decide +kernel
theorem dX7_post_79 : decode cX7_post 79 = .ok (.ifCond .ne 7, 3) := by decide +kernel
theorem dX7_post_82 : decode cX7_post 82 = .ok (.iload_n 3, 1) := by decide +kernel
theorem dX7_post_83 : decode cX7_post 83 = .ok (.goto 4, 3) := by decide +kernel
theorem dX7_post_86 : decode cX7_post 86 = .ok (.iload_n 2, 1) := by decide +kernel
theorem dX7_post_87 : decode cX7_post 87 = .ok (.ireturn, 1) := by decide +kernel
theorem dX7_late_0 : decode cX7_late 0 = .ok (.aload_n 0, 1) := by decide +kernel
theorem dX7_late_1 : decode cX7_late 1 = .ok (.iload_n 1, 1) := by decide +kernel
theorem dX7_late_2 : decode cX7_late 2 = .ok (.invokevirtual 237, 3) := by decide +kernel
theorem dX7_late_5 : decode cX7_late 5 = .ok (.ifCond .ne 5, 3) := by decide +kernel
theorem dX7_late_8 : decode cX7_late 8 = .ok (.iconst (-1), 1) := by decide +kernel
theorem dX7_late_9 : decode cX7_late 9 = .ok (.ireturn, 1) := by decide +kernel
theorem dX7_late_10 : decode cX7_late 10 = .ok (.aload_n 0, 1) := by decide +kernel
theorem dX7_late_11 : decode cX7_late 11 = .ok (.invokevirtual 256, 3) := by decide +kernel
theorem dX7_late_14 : decode cX7_late 14 = .ok (.aload_n 0, 1) := by decide +kernel
theorem dX7_late_15 : decode cX7_late 15 = .ok (.getfield 29, 3) := by decide +kernel
theorem dX7_late_18 : decode cX7_late 18 = .ok (.iload_n 1, 1) := by decide +kernel
theorem dX7_late_19 : decode cX7_late 19 = .ok (.iaload, 1) := by decide +kernel
theorem dX7_late_20 : decode cX7_late 20 = .ok (.istore_n 2, 1) := by decide +kernel
theorem dX7_late_21 : decode cX7_late 21 = .ok (.iconst 0, 1) := by decide +kernel
theorem dX7_late_22 : decode cX7_late 22 = .ok (.istore_n 3, 1) := by decide +kernel
theorem dX7_late_23 : decode cX7_late 23 = .ok (.iconst 1, 1) := by decide +kernel
theorem dX7_late_24 : decode cX7_late 24 = .ok (.istore 4, 2) := by decide +kernel
theorem dX7_late_26 : decode cX7_late 26 = .ok (.iload 4, 2) := by decide +kernel
theorem dX7_late_28 : decode cX7_late 28 = .ok (.bipush 60, 2) := by decide +kernel
theorem dX7_late_30 : decode cX7_late 30 = .ok (.if_icmp .gt 49, 3) := by decide +kernel
theorem dX7_late_33 : decode cX7_late 33 = .ok (.aload_n 0, 1) := by decide +kernel
theorem dX7_late_34 : decode cX7_late 34 = .ok (.invokevirtual 228, 3) := by decide +kernel
theorem dX7_late_37 : decode cX7_late 37 = .ok (.aload_n 0, 1) := by decide +kernel
theorem dX7_late_38 : decode cX7_late 38 = .ok (.iload_n 1, 1) := by decide +kernel
theorem dX7_late_39 : decode cX7_late 39 = .ok (.iconst 2, 1) := by decide +kernel
theorem dX7_late_40 : decode cX7_late 40 = .ok (.aload_n 0, 1) := by decide +kernel
theorem dX7_late_41 : decode cX7_late 41 = .ok (.iload_n 1, 1) := by decide +kernel
theorem dX7_late_42 : decode cX7_late 42 = .ok (.iconst 2, 1) := by decide +kernel
theorem dX7_late_43 : decode cX7_late 43 = .ok (.invokevirtual 166, 3) := by decide +kernel
theorem dX7_late_46 : decode cX7_late 46 = .ok (.iload 4, 2) := by decide +kernel
theorem dX7_late_48 : decode cX7_late 48 = .ok (.iadd, 1) := by decide +kernel
theorem dX7_late_49 : decode cX7_late 49 = .ok (.invokevirtual 274, 3) := by decide +kernel
theorem dX7_late_52 : decode cX7_late 52 = .ok (.aload_n 0, 1) := by decide +kernel
theorem dX7_late_53 : decode cX7_late 53 = .ok (.invokevirtual 231, 3) := by decide +kernel
theorem dX7_late_56 : decode cX7_late 56 = .ok (.aload_n 0, 1) := by decide +kernel
theorem dX7_late_57 : decode cX7_late 57 = .ok (.getfield 29, 3) := by decide +kernel
theorem dX7_late_60 : decode cX7_late 60 = .ok (.iload_n 1, 1) := by decide +kernel
theorem dX7_late_61 : decode cX7_late 61 = .ok (.iaload, 1) := by decide +kernel
theorem dX7_late_62 : decode cX7_late 62 = .ok (.iload_n 2, 1) := by decide +kernel
theorem dX7_late_63 : decode cX7_late 63 = .ok (.if_icmp .gt 8, 3) := by decide +kernel
theorem dX7_late_66 : decode cX7_late 66 = .ok (.iload 4, 2) := by decide +kernel
theorem dX7_late_68 : decode cX7_late 68 = .ok (.goto 4, 3) := by decide +kernel
theorem dX7_late_71 : decode cX7_late 71 = .ok (.iload_n 3, 1) := by decide +kernel
theorem dX7_late_72 : decode cX7_late 72 = .ok (.istore_n 3, 1) := by decide +kernel
theorem dX7_late_73 : decode cX7_late 73 = .ok (.iinc 4 1, 3) := by decide +kernel
theorem dX7_late_76 : decode cX7_late 76 = .ok (.goto (-50), 3) := by decide +kernel
theorem dX7_late_79 : decode cX7_late 79 = .ok (.iload_n 3, 1) := by decide +kernel
theorem dX7_late_80 : decode cX7_late 80 = .ok (.ireturn, 1) := by decide +kernel
theorem dX7_deal_0 : decode cX7_deal 0 = .ok (.aload_n 0, 1) := by decide +kernel
theorem dX7_deal_1 : decode cX7_deal 1 = .ok (.iload_n 1, 1) := by decide +kernel
theorem dX7_deal_2 : decode cX7_deal 2 = .ok (.invokevirtual 237, 3) := by decide +kernel
theorem dX7_deal_5 : decode cX7_deal 5 = .ok (.ifCond .eq 28, 3) := by decide +kernel
theorem dX7_deal_8 : decode cX7_deal 8 = .ok (.aload_n 0, 1) := by decide +kernel
theorem dX7_deal_9 : decode cX7_deal 9 = .ok (.iload_n 2, 1) := by decide +kernel
theorem dX7_deal_10 : decode cX7_deal 10 = .ok (.invokevirtual 237, 3) := by decide +kernel
theorem dX7_deal_13 : decode cX7_deal 13 = .ok (.ifCond .eq 20, 3) := by decide +kernel
theorem dX7_deal_16 : decode cX7_deal 16 = .ok (.iload_n 1, 1) := by decide +kernel
theorem dX7_deal_17 : decode cX7_deal 17 = .ok (.iload_n 2, 1) := by decide +kernel
theorem dX7_deal_18 : decode cX7_deal 18 = .ok (.if_icmp .eq 15, 3) := by decide +kernel
theorem dX7_deal_21 : decode cX7_deal 21 = .ok (.iload_n 3, 1) := by decide +kernel
theorem dX7_deal_22 : decode cX7_deal 22 = .ok (.i2l, 1) := by decide +kernel
theorem dX7_deal_23 : decode cX7_deal 23 = .ok (.lconst 0, 1) := by decide +kernel
theorem dX7_deal_24 : decode cX7_deal 24 = .ok (.ldc2_w 153, 3) := by decide +kernel
theorem dX7_deal_27 : decode cX7_deal 27 = .ok (.invokestatic 74, 3) := by decide +kernel
theorem dX7_deal_30 : decode cX7_deal 30 = .ok (.ifCond .ne 5, 3) := by decide +kernel
theorem dX7_deal_33 : decode cX7_deal 33 = .ok (.iconst (-1), 1) := by decide +kernel
theorem dX7_deal_34 : decode cX7_deal 34 = .ok (.ireturn, 1) := by decide +kernel
theorem dX7_deal_35 : decode cX7_deal 35 = .ok (.aload_n 0, 1) := by decide +kernel
theorem dX7_deal_36 : decode cX7_deal 36 = .ok (.invokevirtual 256, 3) := by decide +kernel
theorem dX7_deal_39 : decode cX7_deal 39 = .ok (.aload_n 0, 1) := by decide +kernel
theorem dX7_deal_40 : decode cX7_deal 40 = .ok (.getfield 32, 3) := by decide +kernel
theorem dX7_deal_43 : decode cX7_deal 43 = .ok (.iload_n 1, 1) := by decide +kernel
theorem dX7_deal_44 : decode cX7_deal 44 = .ok (.iaload, 1) := by decide +kernel
theorem dX7_deal_45 : decode cX7_deal 45 = .ok (.aload_n 0, 1) := by decide +kernel
theorem dX7_deal_46 : decode cX7_deal 46 = .ok (.iload_n 1, 1) := by decide +kernel
theorem dX7_deal_47 : decode cX7_deal 47 = .ok (.iconst 3, 1) := by decide +kernel
theorem dX7_deal_48 : decode cX7_deal 48 = .ok (.invokevirtual 166, 3) := by decide +kernel
theorem dX7_deal_51 : decode cX7_deal 51 = .ok (.imul, 1) := by decide +kernel
theorem dX7_deal_52 : decode cX7_deal 52 = .ok (.istore 4, 2) := by decide +kernel
theorem dX7_deal_54 : decode cX7_deal 54 = .ok (.aload_n 0, 1) := by decide +kernel
theorem dX7_deal_55 : decode cX7_deal 55 = .ok (.getfield 32, 3) := by decide +kernel
theorem dX7_deal_58 : decode cX7_deal 58 = .ok (.iload_n 2, 1) := by decide +kernel
theorem dX7_deal_59 : decode cX7_deal 59 = .ok (.iaload, 1) := by decide +kernel
theorem dX7_deal_60 : decode cX7_deal 60 = .ok (.aload_n 0, 1) := by decide +kernel
theorem dX7_deal_61 : decode cX7_deal 61 = .ok (.iload_n 2, 1) := by decide +kernel
theorem dX7_deal_62 : decode cX7_deal 62 = .ok (.iconst 3, 1) := by decide +kernel
theorem dX7_deal_63 : decode cX7_deal 63 = .ok (.invokevirtual 166, 3) := by decide +kernel
theorem dX7_deal_66 : decode cX7_deal 66 = .ok (.imul, 1) := by decide +kernel
theorem dX7_deal_67 : decode cX7_deal 67 = .ok (.istore 5, 2) := by decide +kernel
theorem dX7_deal_69 : decode cX7_deal 69 = .ok (.aload_n 0, 1) := by decide +kernel
theorem dX7_deal_70 : decode cX7_deal 70 = .ok (.invokevirtual 225, 3) := by decide +kernel
theorem dX7_deal_73 : decode cX7_deal 73 = .ok (.istore 6, 2) := by decide +kernel
theorem dX7_deal_75 : decode cX7_deal 75 = .ok (.iconst 0, 1) := by decide +kernel
theorem dX7_deal_76 : decode cX7_deal 76 = .ok (.istore 7, 2) := by decide +kernel
theorem dX7_deal_78 : decode cX7_deal 78 = .ok (.iload 7, 2) := by decide +kernel
theorem dX7_deal_80 : decode cX7_deal 80 = .ok (.aload_n 0, 1) := by decide +kernel
theorem dX7_deal_81 : decode cX7_deal 81 = .ok (.getfield 69, 3) := by decide +kernel
theorem dX7_deal_84 : decode cX7_deal 84 = .ok (.if_icmp .ge 53, 3) := by decide +kernel
theorem dX7_deal_87 : decode cX7_deal 87 = .ok (.aload_n 0, 1) := by decide +kernel
theorem dX7_deal_88 : decode cX7_deal 88 = .ok (.getfield 35, 3) := by decide +kernel
theorem dX7_deal_91 : decode cX7_deal 91 = .ok (.iload 7, 2) := by decide +kernel
theorem dX7_deal_93 : decode cX7_deal 93 = .ok (.aload_n 0, 1) := by decide +kernel
theorem dX7_deal_94 : decode cX7_deal 94 = .ok (.getfield 26, 3) := by decide +kernel
theorem dX7_deal_97 : decode cX7_deal 97 = .ok (.iload 7, 2) := by decide +kernel
theorem dX7_deal_99 : decode cX7_deal 99 = .ok (.iaload, 1) := by decide +kernel
theorem dX7_deal_100 : decode cX7_deal 100 = .ok (.iload_n 1, 1) := by decide +kernel
theorem dX7_deal_101 : decode cX7_deal 101 = .ok (.if_icmp .ne 7, 3) := by decide +kernel
theorem dX7_deal_104 : decode cX7_deal 104 = .ok (.iload_n 2, 1) := by decide +kernel
theorem dX7_deal_105 : decode cX7_deal 105 = .ok (.goto 25, 3) := by decide +kernel
theorem dX7_deal_108 : decode cX7_deal 108 = .ok (.aload_n 0, 1) := by decide +kernel
theorem dX7_deal_109 : decode cX7_deal 109 = .ok (.getfield 26, 3) := by decide +kernel
theorem dX7_deal_112 : decode cX7_deal 112 = .ok (.iload 7, 2) := by decide +kernel
theorem dX7_deal_114 : decode cX7_deal 114 = .ok (.iaload, 1) := by decide +kernel
theorem dX7_deal_115 : decode cX7_deal 115 = .ok (.iload_n 2, 1) := by decide +kernel
theorem dX7_deal_116 : decode cX7_deal 116 = .ok (.if_icmp .ne 7, 3) := by decide +kernel
theorem dX7_deal_119 : decode cX7_deal 119 = .ok (.iload_n 1, 1) := by decide +kernel
theorem dX7_deal_120 : decode cX7_deal 120 = .ok (.goto 10, 3) := by decide +kernel
theorem dX7_deal_123 : decode cX7_deal 123 = .ok (.aload_n 0, 1) := by decide +kernel
theorem dX7_deal_124 : decode cX7_deal 124 = .ok (.getfield 26, 3) := by decide +kernel
theorem dX7_deal_127 : decode cX7_deal 127 = .ok (.iload 7, 2) := by decide +kernel
theorem dX7_deal_129 : decode cX7_deal 129 = .ok (.iaload, 1) := by decide +kernel
theorem dX7_deal_130 : decode cX7_deal 130 = .ok (.iastore, 1) := by decide +kernel
theorem dX7_deal_131 : decode cX7_deal 131 = .ok (.iinc 7 1, 3) := by decide +kernel
theorem dX7_deal_134 : decode cX7_deal 134 = .ok (.goto (-56), 3) := by decide +kernel
theorem dX7_deal_137 : decode cX7_deal 137 = .ok (.aload_n 0, 1) := by decide +kernel
theorem dX7_deal_138 : decode cX7_deal 138 = .ok (.invokevirtual 271, 3) := by decide +kernel
theorem dX7_deal_141 : decode cX7_deal 141 = .ok (.iload_n 3, 1) := by decide +kernel
theorem dX7_deal_142 : decode cX7_deal 142 = .ok (.ifCond .ne 22, 3) := by decide +kernel
theorem dX7_deal_145 : decode cX7_deal 145 = .ok (.iload 4, 2) := by decide +kernel
theorem dX7_deal_147 : decode cX7_deal 147 = .ok (.aload_n 0, 1) := by decide +kernel
theorem dX7_deal_148 : decode cX7_deal 148 = .ok (.getfield 32, 3) := by decide +kernel
theorem dX7_deal_151 : decode cX7_deal 151 = .ok (.iload_n 1, 1) := by decide +kernel
theorem dX7_deal_152 : decode cX7_deal 152 = .ok (.iaload, 1) := by decide +kernel
theorem dX7_deal_153 : decode cX7_deal 153 = .ok (.aload_n 0, 1) := by decide +kernel
theorem dX7_deal_154 : decode cX7_deal 154 = .ok (.iload_n 1, 1) := by decide +kernel
theorem dX7_deal_155 : decode cX7_deal 155 = .ok (.iconst 3, 1) := by decide +kernel
theorem dX7_deal_156 : decode cX7_deal 156 = .ok (.invokevirtual 166, 3) := by decide +kernel
theorem dX7_deal_159 : decode cX7_deal 159 = .ok (.imul, 1) := by decide +kernel
theorem dX7_deal_160 : decode cX7_deal 160 = .ok (.isub, 1) := by decide +kernel
theorem dX7_deal_161 : decode cX7_deal 161 = .ok (.goto 34, 3) := by decide +kernel
theorem dX7_deal_164 : decode cX7_deal 164 = .ok (.iload_n 3, 1) := by decide +kernel
theorem dX7_deal_165 : decode cX7_deal 165 = .ok (.iconst 1, 1) := by decide +kernel
theorem dX7_deal_166 : decode cX7_deal 166 = .ok (.if_icmp .ne 22, 3) := by decide +kernel
theorem dX7_deal_169 : decode cX7_deal 169 = .ok (.iload 5, 2) := by decide +kernel
theorem dX7_deal_171 : decode cX7_deal 171 = .ok (.aload_n 0, 1) := by decide +kernel
theorem dX7_deal_172 : decode cX7_deal 172 = .ok (.getfield 32, 3) := by decide +kernel
theorem dX7_deal_175 : decode cX7_deal 175 = .ok (.iload_n 2, 1) := by decide +kernel
theorem dX7_deal_176 : decode cX7_deal 176 = .ok (.iaload, 1) := by decide +kernel
theorem dX7_deal_177 : decode cX7_deal 177 = .ok (.aload_n 0, 1) := by decide +kernel
theorem dX7_deal_178 : decode cX7_deal 178 = .ok (.iload_n 2, 1) := by decide +kernel
theorem dX7_deal_179 : decode cX7_deal 179 = .ok (.iconst 3, 1) := by decide +kernel
theorem dX7_deal_180 : decode cX7_deal 180 = .ok (.invokevirtual 166, 3) := by decide +kernel
theorem dX7_deal_183 : decode cX7_deal 183 = .ok (.imul, 1) := by decide +kernel
theorem dX7_deal_184 : decode cX7_deal 184 = .ok (.isub, 1) := by decide +kernel
theorem dX7_deal_185 : decode cX7_deal 185 = .ok (.goto 10, 3) := by decide +kernel
theorem dX7_deal_188 : decode cX7_deal 188 = .ok (.iload 6, 2) := by decide +kernel
theorem dX7_deal_190 : decode cX7_deal 190 = .ok (.aload_n 0, 1) := by decide +kernel
theorem dX7_deal_191 : decode cX7_deal 191 = .ok (.invokevirtual 225, 3) := by decide +kernel
theorem dX7_deal_194 : decode cX7_deal 194 = .ok (.isub, 1) := by decide +kernel
theorem dX7_deal_195 : decode cX7_deal 195 = .ok (.istore 7, 2) := by decide +kernel
theorem dX7_deal_197 : decode cX7_deal 197 = .ok (.sipush 10000, 3) := by decide +kernel
theorem dX7_deal_200 : decode cX7_deal 200 = .ok (.iload 7, 2) := by decide +kernel
theorem dX7_deal_202 : decode cX7_deal 202 = .ok (.iadd, 1) := by decide +kernel
theorem dX7_deal_203 : decode cX7_deal 203 = .ok (.ireturn, 1) := by decide +kernel
theorem dX7_common_0 : decode cX7_common 0 = .ok (.lload_n 0, 1) := by decide +kernel
theorem dX7_common_1 : decode cX7_common 1 = .ok (.lstore 4, 2) := by decide +kernel
theorem dX7_common_3 : decode cX7_common 3 = .ok (.lload_n 2, 1) := by decide +kernel
theorem dX7_common_4 : decode cX7_common 4 = .ok (.lstore 6, 2) := by decide +kernel
theorem dX7_common_6 : decode cX7_common 6 = .ok (.lload 6, 2) := by decide +kernel
theorem dX7_common_8 : decode cX7_common 8 = .ok (.lconst 0, 1) := by decide +kernel
theorem dX7_common_9 : decode cX7_common 9 = .ok (.lcmp, 1) := by decide +kernel
theorem dX7_common_10 : decode cX7_common 10 = .ok (.ifCond .eq 21, 3) := by decide +kernel
theorem dX7_common_13 : decode cX7_common 13 = .ok (.lload 4, 2) := by decide +kernel
theorem dX7_common_15 : decode cX7_common 15 = .ok (.lload 6, 2) := by decide +kernel
theorem dX7_common_17 : decode cX7_common 17 = .ok (.lrem, 1) := by decide +kernel
theorem dX7_common_18 : decode cX7_common 18 = .ok (.lstore 8, 2) := by decide +kernel
theorem dX7_common_20 : decode cX7_common 20 = .ok (.lload 6, 2) := by decide +kernel
theorem dX7_common_22 : decode cX7_common 22 = .ok (.lstore 4, 2) := by decide +kernel
theorem dX7_common_24 : decode cX7_common 24 = .ok (.lload 8, 2) := by decide +kernel
theorem dX7_common_26 : decode cX7_common 26 = .ok (.lstore 6, 2) := by decide +kernel
theorem dX7_common_28 : decode cX7_common 28 = .ok (.goto (-22), 3) := by decide +kernel
theorem dX7_common_31 : decode cX7_common 31 = .ok (.lload 4, 2) := by decide +kernel
theorem dX7_common_33 : decode cX7_common 33 = .ok (.lreturn, 1) := by decide +kernel
theorem dX7_told_0 : decode cX7_told 0 = .ok (.lload_n 2, 1) := by decide +kernel
theorem dX7_told_1 : decode cX7_told 1 = .ok (.lload_n 0, 1) := by decide +kernel
theorem dX7_told_2 : decode cX7_told 2 = .ok (.invokestatic 294, 3) := by decide +kernel
theorem dX7_told_5 : decode cX7_told 5 = .ok (.lstore 5, 2) := by decide +kernel
theorem dX7_told_7 : decode cX7_told 7 = .ok (.iload 4, 2) := by decide +kernel
theorem dX7_told_9 : decode cX7_told 9 = .ok (.ifCond .ne 10, 3) := by decide +kernel
theorem dX7_told_12 : decode cX7_told 12 = .ok (.lload_n 0, 1) := by decide +kernel
theorem dX7_told_13 : decode cX7_told 13 = .ok (.lload 5, 2) := by decide +kernel
theorem dX7_told_15 : decode cX7_told 15 = .ok (.ldiv, 1) := by decide +kernel
theorem dX7_told_16 : decode cX7_told 16 = .ok (.goto 7, 3) := by decide +kernel
theorem dX7_told_19 : decode cX7_told 19 = .ok (.lload_n 2, 1) := by decide +kernel
theorem dX7_told_20 : decode cX7_told 20 = .ok (.lload 5, 2) := by decide +kernel
theorem dX7_told_22 : decode cX7_told 22 = .ok (.ldiv, 1) := by decide +kernel
theorem dX7_told_23 : decode cX7_told 23 = .ok (.lreturn, 1) := by decide +kernel
theorem dX7_waysOf_0 : decode cX7_waysOf 0 = .ok (.lconst 1, 1) := by decide +kernel
theorem dX7_waysOf_1 : decode cX7_waysOf 1 = .ok (.lstore_n 3, 1) := by decide +kernel
theorem dX7_waysOf_2 : decode cX7_waysOf 2 = .ok (.iconst 0, 1) := by decide +kernel
theorem dX7_waysOf_3 : decode cX7_waysOf 3 = .ok (.istore 5, 2) := by decide +kernel
theorem dX7_waysOf_5 : decode cX7_waysOf 5 = .ok (.iload 5, 2) := by decide +kernel
theorem dX7_waysOf_7 : decode cX7_waysOf 7 = .ok (.aload_n 0, 1) := by decide +kernel
theorem dX7_waysOf_8 : decode cX7_waysOf 8 = .ok (.getfield 69, 3) := by decide +kernel
theorem dX7_waysOf_11 : decode cX7_waysOf 11 = .ok (.if_icmp .ge 52, 3) := by decide +kernel
theorem dX7_waysOf_14 : decode cX7_waysOf 14 = .ok (.iload_n 1, 1) := by decide +kernel
theorem dX7_waysOf_15 : decode cX7_waysOf 15 = .ok (.iload 5, 2) := by decide +kernel
theorem dX7_waysOf_17 : decode cX7_waysOf 17 = .ok (.ishr, 1) := by decide +kernel
theorem dX7_waysOf_18 : decode cX7_waysOf 18 = .ok (.iconst 1, 1) := by decide +kernel
theorem dX7_waysOf_19 : decode cX7_waysOf 19 = .ok (.iand, 1) := by decide +kernel
theorem dX7_waysOf_20 : decode cX7_waysOf 20 = .ok (.iconst 1, 1) := by decide +kernel
theorem dX7_waysOf_21 : decode cX7_waysOf 21 = .ok (.if_icmp .ne 7, 3) := by decide +kernel
theorem dX7_waysOf_24 : decode cX7_waysOf 24 = .ok (.iload_n 2, 1) := by decide +kernel
theorem dX7_waysOf_25 : decode cX7_waysOf 25 = .ok (.goto 7, 3) := by decide +kernel
theorem dX7_waysOf_28 : decode cX7_waysOf 28 = .ok (.bipush 10, 2) := by decide +kernel
theorem dX7_waysOf_30 : decode cX7_waysOf 30 = .ok (.iload_n 2, 1) := by decide +kernel
theorem dX7_waysOf_31 : decode cX7_waysOf 31 = .ok (.isub, 1) := by decide +kernel
theorem dX7_waysOf_32 : decode cX7_waysOf 32 = .ok (.istore 6, 2) := by decide +kernel
theorem dX7_waysOf_34 : decode cX7_waysOf 34 = .ok (.lload_n 3, 1) := by decide +kernel
theorem dX7_waysOf_35 : decode cX7_waysOf 35 = .ok (.aload_n 0, 1) := by decide +kernel
theorem dX7_waysOf_36 : decode cX7_waysOf 36 = .ok (.invokevirtual 234, 3) := by decide +kernel
theorem dX7_waysOf_39 : decode cX7_waysOf 39 = .ok (.iload 5, 2) := by decide +kernel
theorem dX7_waysOf_41 : decode cX7_waysOf 41 = .ok (.ishr, 1) := by decide +kernel
theorem dX7_waysOf_42 : decode cX7_waysOf 42 = .ok (.iconst 1, 1) := by decide +kernel
theorem dX7_waysOf_43 : decode cX7_waysOf 43 = .ok (.iand, 1) := by decide +kernel
theorem dX7_waysOf_44 : decode cX7_waysOf 44 = .ok (.iconst 1, 1) := by decide +kernel
theorem dX7_waysOf_45 : decode cX7_waysOf 45 = .ok (.if_icmp .ne 9, 3) := by decide +kernel
theorem dX7_waysOf_48 : decode cX7_waysOf 48 = .ok (.iload 6, 2) := by decide +kernel
theorem dX7_waysOf_50 : decode cX7_waysOf 50 = .ok (.i2l, 1) := by decide +kernel
theorem dX7_waysOf_51 : decode cX7_waysOf 51 = .ok (.goto 4, 3) := by decide +kernel
theorem dX7_waysOf_54 : decode cX7_waysOf 54 = .ok (.lconst 1, 1) := by decide +kernel
theorem dX7_waysOf_55 : decode cX7_waysOf 55 = .ok (.lmul, 1) := by decide +kernel
theorem dX7_waysOf_56 : decode cX7_waysOf 56 = .ok (.lstore_n 3, 1) := by decide +kernel
theorem dX7_waysOf_57 : decode cX7_waysOf 57 = .ok (.iinc 5 1, 3) := by decide +kernel
theorem dX7_waysOf_60 : decode cX7_waysOf 60 = .ok (.goto (-55), 3) := by decide +kernel
theorem dX7_waysOf_63 : decode cX7_waysOf 63 = .ok (.lload_n 3, 1) := by decide +kernel
theorem dX7_waysOf_64 : decode cX7_waysOf 64 = .ok (.lreturn, 1) := by decide +kernel
theorem dX7_allWays_0 : decode cX7_allWays 0 = .ok (.lconst 1, 1) := by decide +kernel
theorem dX7_allWays_1 : decode cX7_allWays 1 = .ok (.lstore_n 1, 1) := by decide +kernel
theorem dX7_allWays_2 : decode cX7_allWays 2 = .ok (.iconst 0, 1) := by decide +kernel
theorem dX7_allWays_3 : decode cX7_allWays 3 = .ok (.istore_n 3, 1) := by decide +kernel
theorem dX7_allWays_4 : decode cX7_allWays 4 = .ok (.iload_n 3, 1) := by decide +kernel
theorem dX7_allWays_5 : decode cX7_allWays 5 = .ok (.aload_n 0, 1) := by decide +kernel
theorem dX7_allWays_6 : decode cX7_allWays 6 = .ok (.invokevirtual 234, 3) := by decide +kernel
theorem dX7_allWays_9 : decode cX7_allWays 9 = .ok (.invokestatic 195, 3) := by decide +kernel
theorem dX7_allWays_12 : decode cX7_allWays 12 = .ok (.if_icmp .ge 15, 3) := by decide +kernel
theorem dX7_allWays_15 : decode cX7_allWays 15 = .ok (.lload_n 1, 1) := by decide +kernel
theorem dX7_allWays_16 : decode cX7_allWays 16 = .ok (.ldc2_w 298, 3) := by decide +kernel
theorem dX7_allWays_19 : decode cX7_allWays 19 = .ok (.lmul, 1) := by decide +kernel
theorem dX7_allWays_20 : decode cX7_allWays 20 = .ok (.lstore_n 1, 1) := by decide +kernel
theorem dX7_allWays_21 : decode cX7_allWays 21 = .ok (.iinc 3 1, 3) := by decide +kernel
theorem dX7_allWays_24 : decode cX7_allWays 24 = .ok (.goto (-20), 3) := by decide +kernel
theorem dX7_allWays_27 : decode cX7_allWays 27 = .ok (.lload_n 1, 1) := by decide +kernel
theorem dX7_allWays_28 : decode cX7_allWays 28 = .ok (.lreturn, 1) := by decide +kernel
theorem dX7_dayCaught_0 : decode cX7_dayCaught 0 = .ok (.aload_n 0, 1) := by decide +kernel
theorem dX7_dayCaught_1 : decode cX7_dayCaught 1 = .ok (.invokevirtual 228, 3) := by decide +kernel
theorem dX7_dayCaught_4 : decode cX7_dayCaught 4 = .ok (.aload_n 0, 1) := by decide +kernel
theorem dX7_dayCaught_5 : decode cX7_dayCaught 5 = .ok (.iload_n 1, 1) := by decide +kernel
theorem dX7_dayCaught_6 : decode cX7_dayCaught 6 = .ok (.putfield 163, 3) := by decide +kernel
theorem dX7_dayCaught_9 : decode cX7_dayCaught 9 = .ok (.aload_n 0, 1) := by decide +kernel
theorem dX7_dayCaught_10 : decode cX7_dayCaught 10 = .ok (.invokevirtual 231, 3) := by decide +kernel
theorem dX7_dayCaught_13 : decode cX7_dayCaught 13 = .ok (.return_, 1) := by decide +kernel
theorem dX7_mean_0 : decode cX7_mean 0 = .ok (.iload_n 1, 1) := by decide +kernel
theorem dX7_mean_1 : decode cX7_mean 1 = .ok (.i2l, 1) := by decide +kernel
theorem dX7_mean_2 : decode cX7_mean 2 = .ok (.lconst 0, 1) := by decide +kernel
theorem dX7_mean_3 : decode cX7_mean 3 = .ok (.ldc2_w 298, 3) := by decide +kernel
theorem dX7_mean_6 : decode cX7_mean 6 = .ok (.invokestatic 74, 3) := by decide +kernel
theorem dX7_mean_9 : decode cX7_mean 9 = .ok (.ifCond .eq 18, 3) := by decide +kernel
theorem dX7_mean_12 : decode cX7_mean 12 = .ok (.aload_n 0, 1) := by decide +kernel
theorem dX7_mean_13 : decode cX7_mean 13 = .ok (.iload_n 2, 1) := by decide +kernel
theorem dX7_mean_14 : decode cX7_mean 14 = .ok (.invokevirtual 237, 3) := by decide +kernel
theorem dX7_mean_17 : decode cX7_mean 17 = .ok (.ifCond .eq 10, 3) := by decide +kernel
theorem dX7_mean_20 : decode cX7_mean 20 = .ok (.iload_n 3, 1) := by decide +kernel
theorem dX7_mean_21 : decode cX7_mean 21 = .ok (.invokestatic 285, 3) := by decide +kernel
theorem dX7_mean_24 : decode cX7_mean 24 = .ok (.ifCond .ne 7, 3) := by decide +kernel
theorem dX7_mean_27 : decode cX7_mean 27 = .ok (.ldc2_w 300, 3) := by decide +kernel
theorem dX7_mean_30 : decode cX7_mean 30 = .ok (.lreturn, 1) := by decide +kernel
theorem dX7_mean_31 : decode cX7_mean 31 = .ok (.lconst 0, 1) := by decide +kernel
theorem dX7_mean_32 : decode cX7_mean 32 = .ok (.lstore 4, 2) := by decide +kernel
theorem dX7_mean_34 : decode cX7_mean 34 = .ok (.iconst 0, 1) := by decide +kernel
theorem dX7_mean_35 : decode cX7_mean 35 = .ok (.istore 6, 2) := by decide +kernel
theorem dX7_mean_37 : decode cX7_mean 37 = .ok (.iload 6, 2) := by decide +kernel
theorem dX7_mean_39 : decode cX7_mean 39 = .ok (.iconst 1, 1) := by decide +kernel
theorem dX7_mean_40 : decode cX7_mean 40 = .ok (.aload_n 0, 1) := by decide +kernel
theorem dX7_mean_41 : decode cX7_mean 41 = .ok (.getfield 69, 3) := by decide +kernel
theorem dX7_mean_44 : decode cX7_mean 44 = .ok (.ishl, 1) := by decide +kernel
theorem dX7_mean_45 : decode cX7_mean 45 = .ok (.if_icmp .ge 47, 3) := by decide +kernel
theorem dX7_mean_48 : decode cX7_mean 48 = .ok (.iload 6, 2) := by decide +kernel
theorem dX7_mean_50 : decode cX7_mean 50 = .ok (.aload_n 0, 1) := by decide +kernel
theorem dX7_mean_51 : decode cX7_mean 51 = .ok (.invokevirtual 234, 3) := by decide +kernel
theorem dX7_mean_54 : decode cX7_mean 54 = .ok (.iconst (-1), 1) := by decide +kernel
theorem dX7_mean_55 : decode cX7_mean 55 = .ok (.ixor, 1) := by decide +kernel
theorem dX7_mean_56 : decode cX7_mean 56 = .ok (.iand, 1) := by decide +kernel
theorem dX7_mean_57 : decode cX7_mean 57 = .ok (.ifCond .ne 29, 3) := by decide +kernel
theorem dX7_mean_60 : decode cX7_mean 60 = .ok (.aload_n 0, 1) := by decide +kernel
theorem dX7_mean_61 : decode cX7_mean 61 = .ok (.iload 6, 2) := by decide +kernel
theorem dX7_mean_63 : decode cX7_mean 63 = .ok (.invokevirtual 302, 3) := by decide +kernel
theorem dX7_mean_66 : decode cX7_mean 66 = .ok (.lload 4, 2) := by decide +kernel
theorem dX7_mean_68 : decode cX7_mean 68 = .ok (.aload_n 0, 1) := by decide +kernel
theorem dX7_mean_69 : decode cX7_mean 69 = .ok (.iload 6, 2) := by decide +kernel
theorem dX7_mean_71 : decode cX7_mean 71 = .ok (.iload_n 1, 1) := by decide +kernel
theorem dX7_mean_72 : decode cX7_mean 72 = .ok (.invokevirtual 305, 3) := by decide +kernel
theorem dX7_mean_75 : decode cX7_mean 75 = .ok (.aload_n 0, 1) := by decide +kernel
theorem dX7_mean_76 : decode cX7_mean 76 = .ok (.getfield 32, 3) := by decide +kernel
theorem dX7_mean_79 : decode cX7_mean 79 = .ok (.iload_n 2, 1) := by decide +kernel
theorem dX7_mean_80 : decode cX7_mean 80 = .ok (.iaload, 1) := by decide +kernel
theorem dX7_mean_81 : decode cX7_mean 81 = .ok (.i2l, 1) := by decide +kernel
theorem dX7_mean_82 : decode cX7_mean 82 = .ok (.lmul, 1) := by decide +kernel
theorem dX7_mean_83 : decode cX7_mean 83 = .ok (.ladd, 1) := by decide +kernel
theorem dX7_mean_84 : decode cX7_mean 84 = .ok (.lstore 4, 2) := by decide +kernel
theorem dX7_mean_86 : decode cX7_mean 86 = .ok (.iinc 6 1, 3) := by decide +kernel
theorem dX7_mean_89 : decode cX7_mean 89 = .ok (.goto (-52), 3) := by decide +kernel
theorem dX7_mean_92 : decode cX7_mean 92 = .ok (.lload 4, 2) := by decide +kernel
theorem dX7_mean_94 : decode cX7_mean 94 = .ok (.aload_n 0, 1) := by decide +kernel
theorem dX7_mean_95 : decode cX7_mean 95 = .ok (.invokevirtual 309, 3) := by decide +kernel
theorem dX7_mean_98 : decode cX7_mean 98 = .ok (.iload_n 3, 1) := by decide +kernel
theorem dX7_mean_99 : decode cX7_mean 99 = .ok (.invokestatic 313, 3) := by decide +kernel
theorem dX7_mean_102 : decode cX7_mean 102 = .ok (.lreturn, 1) := by decide +kernel
theorem dX7_luck_0 : decode cX7_luck 0 = .ok (.iload_n 1, 1) := by decide +kernel
theorem dX7_luck_1 : decode cX7_luck 1 = .ok (.i2l, 1) := by decide +kernel
theorem dX7_luck_2 : decode cX7_luck 2 = .ok (.lconst 0, 1) := by decide +kernel
theorem dX7_luck_3 : decode cX7_luck 3 = .ok (.ldc2_w 298, 3) := by decide +kernel
theorem dX7_luck_6 : decode cX7_luck 6 = .ok (.invokestatic 74, 3) := by decide +kernel
theorem dX7_luck_9 : decode cX7_luck 9 = .ok (.ifCond .eq 27, 3) := by decide +kernel
theorem dX7_luck_12 : decode cX7_luck 12 = .ok (.aload_n 0, 1) := by decide +kernel
theorem dX7_luck_13 : decode cX7_luck 13 = .ok (.iload_n 2, 1) := by decide +kernel
theorem dX7_luck_14 : decode cX7_luck 14 = .ok (.invokevirtual 237, 3) := by decide +kernel
theorem dX7_luck_17 : decode cX7_luck 17 = .ok (.ifCond .eq 19, 3) := by decide +kernel
theorem dX7_luck_20 : decode cX7_luck 20 = .ok (.aload_n 0, 1) := by decide +kernel
theorem dX7_luck_21 : decode cX7_luck 21 = .ok (.iload_n 3, 1) := by decide +kernel
theorem dX7_luck_22 : decode cX7_luck 22 = .ok (.invokevirtual 237, 3) := by decide +kernel
theorem dX7_luck_25 : decode cX7_luck 25 = .ok (.ifCond .eq 11, 3) := by decide +kernel
theorem dX7_luck_28 : decode cX7_luck 28 = .ok (.iload 4, 2) := by decide +kernel
theorem dX7_luck_30 : decode cX7_luck 30 = .ok (.invokestatic 285, 3) := by decide +kernel
theorem dX7_luck_33 : decode cX7_luck 33 = .ok (.ifCond .ne 7, 3) := by decide +kernel
theorem dX7_luck_36 : decode cX7_luck 36 = .ok (.ldc2_w 300, 3) := by decide +kernel
theorem dX7_luck_39 : decode cX7_luck 39 = .ok (.lreturn, 1) := by decide +kernel
theorem dX7_luck_40 : decode cX7_luck 40 = .ok (.lconst 0, 1) := by decide +kernel
theorem dX7_luck_41 : decode cX7_luck 41 = .ok (.lstore 5, 2) := by decide +kernel
theorem dX7_luck_43 : decode cX7_luck 43 = .ok (.iconst 0, 1) := by decide +kernel
theorem dX7_luck_44 : decode cX7_luck 44 = .ok (.istore 7, 2) := by decide +kernel
theorem dX7_luck_46 : decode cX7_luck 46 = .ok (.iload 7, 2) := by decide +kernel
theorem dX7_luck_48 : decode cX7_luck 48 = .ok (.iconst 1, 1) := by decide +kernel
theorem dX7_luck_49 : decode cX7_luck 49 = .ok (.aload_n 0, 1) := by decide +kernel
theorem dX7_luck_50 : decode cX7_luck 50 = .ok (.getfield 69, 3) := by decide +kernel
theorem dX7_luck_53 : decode cX7_luck 53 = .ok (.ishl, 1) := by decide +kernel
theorem dX7_luck_54 : decode cX7_luck 54 = .ok (.if_icmp .ge 53, 3) := by decide +kernel
theorem dX7_luck_57 : decode cX7_luck 57 = .ok (.iload 7, 2) := by decide +kernel
theorem dX7_luck_59 : decode cX7_luck 59 = .ok (.aload_n 0, 1) := by decide +kernel
theorem dX7_luck_60 : decode cX7_luck 60 = .ok (.invokevirtual 234, 3) := by decide +kernel
theorem dX7_luck_63 : decode cX7_luck 63 = .ok (.iconst (-1), 1) := by decide +kernel
theorem dX7_luck_64 : decode cX7_luck 64 = .ok (.ixor, 1) := by decide +kernel
theorem dX7_luck_65 : decode cX7_luck 65 = .ok (.iand, 1) := by decide +kernel
theorem dX7_luck_66 : decode cX7_luck 66 = .ok (.ifCond .ne 35, 3) := by decide +kernel
theorem dX7_luck_69 : decode cX7_luck 69 = .ok (.aload_n 0, 1) := by decide +kernel
theorem dX7_luck_70 : decode cX7_luck 70 = .ok (.iload 7, 2) := by decide +kernel
theorem dX7_luck_72 : decode cX7_luck 72 = .ok (.invokevirtual 302, 3) := by decide +kernel
theorem dX7_luck_75 : decode cX7_luck 75 = .ok (.lload 5, 2) := by decide +kernel
theorem dX7_luck_77 : decode cX7_luck 77 = .ok (.aload_n 0, 1) := by decide +kernel
theorem dX7_luck_78 : decode cX7_luck 78 = .ok (.getfield 26, 3) := by decide +kernel
theorem dX7_luck_81 : decode cX7_luck 81 = .ok (.iload_n 3, 1) := by decide +kernel
theorem dX7_luck_82 : decode cX7_luck 82 = .ok (.iaload, 1) := by decide +kernel
theorem dX7_luck_83 : decode cX7_luck 83 = .ok (.iload_n 2, 1) := by decide +kernel
theorem dX7_luck_84 : decode cX7_luck 84 = .ok (.if_icmp .ne 13, 3) := by decide +kernel
theorem dX7_luck_87 : decode cX7_luck 87 = .ok (.aload_n 0, 1) := by decide +kernel
theorem dX7_luck_88 : decode cX7_luck 88 = .ok (.iload 7, 2) := by decide +kernel
theorem dX7_luck_90 : decode cX7_luck 90 = .ok (.iload_n 1, 1) := by decide +kernel
theorem dX7_luck_91 : decode cX7_luck 91 = .ok (.invokevirtual 305, 3) := by decide +kernel
theorem dX7_luck_94 : decode cX7_luck 94 = .ok (.goto 4, 3) := by decide +kernel
theorem dX7_luck_97 : decode cX7_luck 97 = .ok (.lconst 0, 1) := by decide +kernel
theorem dX7_luck_98 : decode cX7_luck 98 = .ok (.ladd, 1) := by decide +kernel
theorem dX7_luck_99 : decode cX7_luck 99 = .ok (.lstore 5, 2) := by decide +kernel
theorem dX7_luck_101 : decode cX7_luck 101 = .ok (.iinc 7 1, 3) := by decide +kernel
theorem dX7_luck_104 : decode cX7_luck 104 = .ok (.goto (-58), 3) := by decide +kernel
theorem dX7_luck_107 : decode cX7_luck 107 = .ok (.lload 5, 2) := by decide +kernel
theorem dX7_luck_109 : decode cX7_luck 109 = .ok (.aload_n 0, 1) := by decide +kernel
theorem dX7_luck_110 : decode cX7_luck 110 = .ok (.invokevirtual 309, 3) := by decide +kernel
theorem dX7_luck_113 : decode cX7_luck 113 = .ok (.iload 4, 2) := by decide +kernel
theorem dX7_luck_115 : decode cX7_luck 115 = .ok (.invokestatic 313, 3) := by decide +kernel
theorem dX7_luck_118 : decode cX7_luck 118 = .ok (.lreturn, 1) := by decide +kernel
theorem dX7_see_0 : decode cX7_see 0 = .ok (.aload_n 0, 1) := by decide +kernel
theorem dX7_see_1 : decode cX7_see 1 = .ok (.iload_n 1, 1) := by decide +kernel
theorem dX7_see_2 : decode cX7_see 2 = .ok (.invokevirtual 237, 3) := by decide +kernel
theorem dX7_see_5 : decode cX7_see 5 = .ok (.ifCond .eq 11, 3) := by decide +kernel
theorem dX7_see_8 : decode cX7_see 8 = .ok (.aload_n 0, 1) := by decide +kernel
theorem dX7_see_9 : decode cX7_see 9 = .ok (.iload_n 2, 1) := by decide +kernel
theorem dX7_see_10 : decode cX7_see 10 = .ok (.invokevirtual 237, 3) := by decide +kernel
theorem dX7_see_13 : decode cX7_see 13 = .ok (.ifCond .ne 5, 3) := by decide +kernel
theorem dX7_see_16 : decode cX7_see 16 = .ok (.iconst (-1), 1) := by decide +kernel
theorem dX7_see_17 : decode cX7_see 17 = .ok (.ireturn, 1) := by decide +kernel
theorem dX7_see_18 : decode cX7_see 18 = .ok (.aload_n 0, 1) := by decide +kernel
theorem dX7_see_19 : decode cX7_see 19 = .ok (.getfield 7, 3) := by decide +kernel
theorem dX7_see_22 : decode cX7_see 22 = .ok (.bipush 42, 2) := by decide +kernel
theorem dX7_see_24 : decode cX7_see 24 = .ok (.iaload, 1) := by decide +kernel
theorem dX7_see_25 : decode cX7_see 25 = .ok (.bipush 6, 2) := by decide +kernel
theorem dX7_see_27 : decode cX7_see 27 = .ok (.if_icmp .ne 6, 3) := by decide +kernel
theorem dX7_see_30 : decode cX7_see 30 = .ok (.bipush (-3), 2) := by decide +kernel
theorem dX7_see_32 : decode cX7_see 32 = .ok (.ireturn, 1) := by decide +kernel
theorem dX7_see_33 : decode cX7_see 33 = .ok (.aload_n 0, 1) := by decide +kernel
theorem dX7_see_34 : decode cX7_see 34 = .ok (.getfield 7, 3) := by decide +kernel
theorem dX7_see_37 : decode cX7_see 37 = .ok (.bipush 43, 2) := by decide +kernel
theorem dX7_see_39 : decode cX7_see 39 = .ok (.iconst 2, 1) := by decide +kernel
theorem dX7_see_40 : decode cX7_see 40 = .ok (.aload_n 0, 1) := by decide +kernel
theorem dX7_see_41 : decode cX7_see 41 = .ok (.getfield 7, 3) := by decide +kernel
theorem dX7_see_44 : decode cX7_see 44 = .ok (.bipush 42, 2) := by decide +kernel
theorem dX7_see_46 : decode cX7_see 46 = .ok (.iaload, 1) := by decide +kernel
theorem dX7_see_47 : decode cX7_see 47 = .ok (.imul, 1) := by decide +kernel
theorem dX7_see_48 : decode cX7_see 48 = .ok (.iadd, 1) := by decide +kernel
theorem dX7_see_49 : decode cX7_see 49 = .ok (.iload_n 1, 1) := by decide +kernel
theorem dX7_see_50 : decode cX7_see 50 = .ok (.iastore, 1) := by decide +kernel
theorem dX7_see_51 : decode cX7_see 51 = .ok (.aload_n 0, 1) := by decide +kernel
theorem dX7_see_52 : decode cX7_see 52 = .ok (.getfield 7, 3) := by decide +kernel
theorem dX7_see_55 : decode cX7_see 55 = .ok (.bipush 43, 2) := by decide +kernel
theorem dX7_see_57 : decode cX7_see 57 = .ok (.iconst 2, 1) := by decide +kernel
theorem dX7_see_58 : decode cX7_see 58 = .ok (.aload_n 0, 1) := by decide +kernel
theorem dX7_see_59 : decode cX7_see 59 = .ok (.getfield 7, 3) := by decide +kernel
theorem dX7_see_62 : decode cX7_see 62 = .ok (.bipush 42, 2) := by decide +kernel
theorem dX7_see_64 : decode cX7_see 64 = .ok (.iaload, 1) := by decide +kernel
theorem dX7_see_65 : decode cX7_see 65 = .ok (.imul, 1) := by decide +kernel
theorem dX7_see_66 : decode cX7_see 66 = .ok (.iadd, 1) := by decide +kernel
theorem dX7_see_67 : decode cX7_see 67 = .ok (.iconst 1, 1) := by decide +kernel
theorem dX7_see_68 : decode cX7_see 68 = .ok (.iadd, 1) := by decide +kernel
theorem dX7_see_69 : decode cX7_see 69 = .ok (.iload_n 2, 1) := by decide +kernel
theorem dX7_see_70 : decode cX7_see 70 = .ok (.iastore, 1) := by decide +kernel
theorem dX7_see_71 : decode cX7_see 71 = .ok (.aload_n 0, 1) := by decide +kernel
theorem dX7_see_72 : decode cX7_see 72 = .ok (.getfield 7, 3) := by decide +kernel
theorem dX7_see_75 : decode cX7_see 75 = .ok (.bipush 42, 2) := by decide +kernel
theorem dX7_see_77 : decode cX7_see 77 = .ok (.dup2, 1) := by decide +kernel
theorem dX7_see_78 : decode cX7_see 78 = .ok (.iaload, 1) := by decide +kernel
theorem dX7_see_79 : decode cX7_see 79 = .ok (.iconst 1, 1) := by decide +kernel
theorem dX7_see_80 : decode cX7_see 80 = .ok (.iadd, 1) := by decide +kernel
theorem dX7_see_81 : decode cX7_see 81 = .ok (.iastore, 1) := by decide +kernel
theorem dX7_see_82 : decode cX7_see 82 = .ok (.aload_n 0, 1) := by decide +kernel
theorem dX7_see_83 : decode cX7_see 83 = .ok (.getfield 7, 3) := by decide +kernel
theorem dX7_see_86 : decode cX7_see 86 = .ok (.bipush 42, 2) := by decide +kernel
theorem dX7_see_88 : decode cX7_see 88 = .ok (.iaload, 1) := by decide +kernel
theorem dX7_see_89 : decode cX7_see 89 = .ok (.ireturn, 1) := by decide +kernel
theorem dX7_forget_0 : decode cX7_forget 0 = .ok (.iload_n 1, 1) := by decide +kernel
theorem dX7_forget_1 : decode cX7_forget 1 = .ok (.i2l, 1) := by decide +kernel
theorem dX7_forget_2 : decode cX7_forget 2 = .ok (.lconst 0, 1) := by decide +kernel
theorem dX7_forget_3 : decode cX7_forget 3 = .ok (.aload_n 0, 1) := by decide +kernel
theorem dX7_forget_4 : decode cX7_forget 4 = .ok (.getfield 7, 3) := by decide +kernel
theorem dX7_forget_7 : decode cX7_forget 7 = .ok (.bipush 42, 2) := by decide +kernel
theorem dX7_forget_9 : decode cX7_forget 9 = .ok (.iaload, 1) := by decide +kernel
theorem dX7_forget_10 : decode cX7_forget 10 = .ok (.i2l, 1) := by decide +kernel
theorem dX7_forget_11 : decode cX7_forget 11 = .ok (.invokestatic 74, 3) := by decide +kernel
theorem dX7_forget_14 : decode cX7_forget 14 = .ok (.ifCond .eq 13, 3) := by decide +kernel
theorem dX7_forget_17 : decode cX7_forget 17 = .ok (.aload_n 0, 1) := by decide +kernel
theorem dX7_forget_18 : decode cX7_forget 18 = .ok (.bipush 42, 2) := by decide +kernel
theorem dX7_forget_20 : decode cX7_forget 20 = .ok (.iload_n 1, 1) := by decide +kernel
theorem dX7_forget_21 : decode cX7_forget 21 = .ok (.invokevirtual 245, 3) := by decide +kernel
theorem dX7_forget_24 : decode cX7_forget 24 = .ok (.goto 4, 3) := by decide +kernel
theorem dX7_forget_27 : decode cX7_forget 27 = .ok (.iconst (-1), 1) := by decide +kernel
theorem dX7_forget_28 : decode cX7_forget 28 = .ok (.ireturn, 1) := by decide +kernel
theorem dX7_isSo_0 : decode cX7_isSo 0 = .ok (.iconst 1, 1) := by decide +kernel
theorem dX7_isSo_1 : decode cX7_isSo 1 = .ok (.istore_n 3, 1) := by decide +kernel
theorem dX7_isSo_2 : decode cX7_isSo 2 = .ok (.aload_n 0, 1) := by decide +kernel
theorem dX7_isSo_3 : decode cX7_isSo 3 = .ok (.invokevirtual 228, 3) := by decide +kernel
theorem dX7_isSo_6 : decode cX7_isSo 6 = .ok (.aload_n 0, 1) := by decide +kernel
theorem dX7_isSo_7 : decode cX7_isSo 7 = .ok (.getfield 13, 3) := by decide +kernel
theorem dX7_isSo_10 : decode cX7_isSo 10 = .ok (.iconst 3, 1) := by decide +kernel
theorem dX7_isSo_11 : decode cX7_isSo 11 = .ok (.iload_n 1, 1) := by decide +kernel
theorem dX7_isSo_12 : decode cX7_isSo 12 = .ok (.iastore, 1) := by decide +kernel
theorem dX7_isSo_13 : decode cX7_isSo 13 = .ok (.aload_n 0, 1) := by decide +kernel
theorem dX7_isSo_14 : decode cX7_isSo 14 = .ok (.iload_n 2, 1) := by decide +kernel
theorem dX7_isSo_15 : decode cX7_isSo 15 = .ok (.invokevirtual 288, 3) := by decide +kernel
theorem dX7_isSo_18 : decode cX7_isSo 18 = .ok (.aload_n 0, 1) := by decide +kernel
theorem dX7_isSo_19 : decode cX7_isSo 19 = .ok (.invokevirtual 231, 3) := by decide +kernel
theorem dX7_isSo_22 : decode cX7_isSo 22 = .ok (.iconst 0, 1) := by decide +kernel
theorem dX7_isSo_23 : decode cX7_isSo 23 = .ok (.istore 4, 2) := by decide +kernel
theorem dX7_isSo_25 : decode cX7_isSo 25 = .ok (.iload 4, 2) := by decide +kernel
theorem dX7_isSo_27 : decode cX7_isSo 27 = .ok (.aload_n 0, 1) := by decide +kernel
theorem dX7_isSo_28 : decode cX7_isSo 28 = .ok (.getfield 7, 3) := by decide +kernel
theorem dX7_isSo_31 : decode cX7_isSo 31 = .ok (.bipush 42, 2) := by decide +kernel
theorem dX7_isSo_33 : decode cX7_isSo 33 = .ok (.iaload, 1) := by decide +kernel
theorem dX7_isSo_34 : decode cX7_isSo 34 = .ok (.if_icmp .ge 53, 3) := by decide +kernel
theorem dX7_isSo_37 : decode cX7_isSo 37 = .ok (.iload_n 3, 1) := by decide +kernel
theorem dX7_isSo_38 : decode cX7_isSo 38 = .ok (.ifCond .eq 41, 3) := by decide +kernel
theorem dX7_isSo_41 : decode cX7_isSo 41 = .ok (.aload_n 0, 1) := by decide +kernel
theorem dX7_isSo_42 : decode cX7_isSo 42 = .ok (.getfield 26, 3) := by decide +kernel
theorem dX7_isSo_45 : decode cX7_isSo 45 = .ok (.aload_n 0, 1) := by decide +kernel
theorem dX7_isSo_46 : decode cX7_isSo 46 = .ok (.getfield 7, 3) := by decide +kernel
theorem dX7_isSo_49 : decode cX7_isSo 49 = .ok (.bipush 43, 2) := by decide +kernel
theorem dX7_isSo_51 : decode cX7_isSo 51 = .ok (.iconst 2, 1) := by decide +kernel
theorem dX7_isSo_52 : decode cX7_isSo 52 = .ok (.iload 4, 2) := by decide +kernel
theorem dX7_isSo_54 : decode cX7_isSo 54 = .ok (.imul, 1) := by decide +kernel
theorem dX7_isSo_55 : decode cX7_isSo 55 = .ok (.iadd, 1) := by decide +kernel
theorem dX7_isSo_56 : decode cX7_isSo 56 = .ok (.iaload, 1) := by decide +kernel
theorem dX7_isSo_57 : decode cX7_isSo 57 = .ok (.iaload, 1) := by decide +kernel
theorem dX7_isSo_58 : decode cX7_isSo 58 = .ok (.aload_n 0, 1) := by decide +kernel
theorem dX7_isSo_59 : decode cX7_isSo 59 = .ok (.getfield 7, 3) := by decide +kernel
theorem dX7_isSo_62 : decode cX7_isSo 62 = .ok (.bipush 43, 2) := by decide +kernel
theorem dX7_isSo_64 : decode cX7_isSo 64 = .ok (.iconst 2, 1) := by decide +kernel
theorem dX7_isSo_65 : decode cX7_isSo 65 = .ok (.iload 4, 2) := by decide +kernel
theorem dX7_isSo_67 : decode cX7_isSo 67 = .ok (.imul, 1) := by decide +kernel
theorem dX7_isSo_68 : decode cX7_isSo 68 = .ok (.iadd, 1) := by decide +kernel
theorem dX7_isSo_69 : decode cX7_isSo 69 = .ok (.iconst 1, 1) := by decide +kernel
theorem dX7_isSo_70 : decode cX7_isSo 70 = .ok (.iadd, 1) := by decide +kernel
theorem dX7_isSo_71 : decode cX7_isSo 71 = .ok (.iaload, 1) := by decide +kernel
theorem dX7_isSo_72 : decode cX7_isSo 72 = .ok (.if_icmp .ne 7, 3) := by decide +kernel
theorem dX7_isSo_75 : decode cX7_isSo 75 = .ok (.iconst 1, 1) := by decide +kernel
theorem dX7_isSo_76 : decode cX7_isSo 76 = .ok (.goto 4, 3) := by decide +kernel
theorem dX7_isSo_79 : decode cX7_isSo 79 = .ok (.iconst 0, 1) := by decide +kernel
theorem dX7_isSo_80 : decode cX7_isSo 80 = .ok (.istore_n 3, 1) := by decide +kernel
theorem dX7_isSo_81 : decode cX7_isSo 81 = .ok (.iinc 4 1, 3) := by decide +kernel
theorem dX7_isSo_84 : decode cX7_isSo 84 = .ok (.goto (-59), 3) := by decide +kernel
theorem dX7_isSo_87 : decode cX7_isSo 87 = .ok (.iload_n 3, 1) := by decide +kernel
theorem dX7_isSo_88 : decode cX7_isSo 88 = .ok (.ireturn, 1) := by decide +kernel
theorem dX7_fits_0 : decode cX7_fits 0 = .ok (.iload_n 1, 1) := by decide +kernel
theorem dX7_fits_1 : decode cX7_fits 1 = .ok (.i2l, 1) := by decide +kernel
theorem dX7_fits_2 : decode cX7_fits 2 = .ok (.lconst 0, 1) := by decide +kernel
theorem dX7_fits_3 : decode cX7_fits 3 = .ok (.ldc2_w 250, 3) := by decide +kernel
theorem dX7_fits_6 : decode cX7_fits 6 = .ok (.invokestatic 74, 3) := by decide +kernel
theorem dX7_fits_9 : decode cX7_fits 9 = .ok (.ifCond .ne 5, 3) := by decide +kernel
theorem dX7_fits_12 : decode cX7_fits 12 = .ok (.iconst (-1), 1) := by decide +kernel
theorem dX7_fits_13 : decode cX7_fits 13 = .ok (.ireturn, 1) := by decide +kernel
theorem dX7_fits_14 : decode cX7_fits 14 = .ok (.iconst 1, 1) := by decide +kernel
theorem dX7_fits_15 : decode cX7_fits 15 = .ok (.aload_n 0, 1) := by decide +kernel
theorem dX7_fits_16 : decode cX7_fits 16 = .ok (.getfield 69, 3) := by decide +kernel
theorem dX7_fits_19 : decode cX7_fits 19 = .ok (.ishl, 1) := by decide +kernel
theorem dX7_fits_20 : decode cX7_fits 20 = .ok (.iconst 1, 1) := by decide +kernel
theorem dX7_fits_21 : decode cX7_fits 21 = .ok (.isub, 1) := by decide +kernel
theorem dX7_fits_22 : decode cX7_fits 22 = .ok (.istore_n 2, 1) := by decide +kernel
theorem dX7_fits_23 : decode cX7_fits 23 = .ok (.iconst 0, 1) := by decide +kernel
theorem dX7_fits_24 : decode cX7_fits 24 = .ok (.istore_n 3, 1) := by decide +kernel
theorem dX7_fits_25 : decode cX7_fits 25 = .ok (.iconst 0, 1) := by decide +kernel
theorem dX7_fits_26 : decode cX7_fits 26 = .ok (.istore 4, 2) := by decide +kernel
theorem dX7_fits_28 : decode cX7_fits 28 = .ok (.iload_n 2, 1) := by decide +kernel
theorem dX7_fits_29 : decode cX7_fits 29 = .ok (.istore 5, 2) := by decide +kernel
theorem dX7_fits_31 : decode cX7_fits 31 = .ok (.iconst 0, 1) := by decide +kernel
theorem dX7_fits_32 : decode cX7_fits 32 = .ok (.istore 6, 2) := by decide +kernel
theorem dX7_fits_34 : decode cX7_fits 34 = .ok (.iconst 0, 1) := by decide +kernel
theorem dX7_fits_35 : decode cX7_fits 35 = .ok (.istore 7, 2) := by decide +kernel
theorem dX7_fits_37 : decode cX7_fits 37 = .ok (.iload 7, 2) := by decide +kernel
theorem dX7_fits_39 : decode cX7_fits 39 = .ok (.iconst 5, 1) := by decide +kernel
theorem dX7_fits_40 : decode cX7_fits 40 = .ok (.if_icmp .ge 61, 3) := by decide +kernel
theorem dX7_fits_43 : decode cX7_fits 43 = .ok (.iconst 0, 1) := by decide +kernel
theorem dX7_fits_44 : decode cX7_fits 44 = .ok (.istore 8, 2) := by decide +kernel
theorem dX7_fits_46 : decode cX7_fits 46 = .ok (.iload 8, 2) := by decide +kernel
theorem dX7_fits_48 : decode cX7_fits 48 = .ok (.iload_n 2, 1) := by decide +kernel
theorem dX7_fits_49 : decode cX7_fits 49 = .ok (.if_icmp .gt 46, 3) := by decide +kernel
theorem dX7_fits_52 : decode cX7_fits 52 = .ok (.aload_n 0, 1) := by decide +kernel
theorem dX7_fits_53 : decode cX7_fits 53 = .ok (.iload 7, 2) := by decide +kernel
theorem dX7_fits_55 : decode cX7_fits 55 = .ok (.iload 8, 2) := by decide +kernel
theorem dX7_fits_57 : decode cX7_fits 57 = .ok (.invokevirtual 317, 3) := by decide +kernel
theorem dX7_fits_60 : decode cX7_fits 60 = .ok (.ifCond .eq 29, 3) := by decide +kernel
theorem dX7_fits_63 : decode cX7_fits 63 = .ok (.iinc 3 1, 3) := by decide +kernel
theorem dX7_fits_66 : decode cX7_fits 66 = .ok (.iload 4, 2) := by decide +kernel
theorem dX7_fits_68 : decode cX7_fits 68 = .ok (.iconst 1, 1) := by decide +kernel
theorem dX7_fits_69 : decode cX7_fits 69 = .ok (.iload 7, 2) := by decide +kernel
theorem dX7_fits_71 : decode cX7_fits 71 = .ok (.ishl, 1) := by decide +kernel
theorem dX7_fits_72 : decode cX7_fits 72 = .ok (.ior, 1) := by decide +kernel
theorem dX7_fits_73 : decode cX7_fits 73 = .ok (.istore 4, 2) := by decide +kernel
theorem dX7_fits_75 : decode cX7_fits 75 = .ok (.iload 5, 2) := by decide +kernel
theorem dX7_fits_77 : decode cX7_fits 77 = .ok (.iload 8, 2) := by decide +kernel
theorem dX7_fits_79 : decode cX7_fits 79 = .ok (.iand, 1) := by decide +kernel
theorem dX7_fits_80 : decode cX7_fits 80 = .ok (.istore 5, 2) := by decide +kernel
theorem dX7_fits_82 : decode cX7_fits 82 = .ok (.iload 6, 2) := by decide +kernel
theorem dX7_fits_84 : decode cX7_fits 84 = .ok (.iload 8, 2) := by decide +kernel
theorem dX7_fits_86 : decode cX7_fits 86 = .ok (.ior, 1) := by decide +kernel
theorem dX7_fits_87 : decode cX7_fits 87 = .ok (.istore 6, 2) := by decide +kernel
theorem dX7_fits_89 : decode cX7_fits 89 = .ok (.iinc 8 1, 3) := by decide +kernel
theorem dX7_fits_92 : decode cX7_fits 92 = .ok (.goto (-46), 3) := by decide +kernel
theorem dX7_fits_95 : decode cX7_fits 95 = .ok (.iinc 7 1, 3) := by decide +kernel
theorem dX7_fits_98 : decode cX7_fits 98 = .ok (.goto (-61), 3) := by decide +kernel
theorem dX7_fits_101 : decode cX7_fits 101 = .ok (.iload_n 1, 1) := by decide +kernel
theorem dX7_fits_102 : decode cX7_fits 102 = .ok (.iconst 2, 1) := by decide +kernel
theorem dX7_fits_103 : decode cX7_fits 103 = .ok (.if_icmp .ge 14, 3) := by decide +kernel
theorem dX7_fits_106 : decode cX7_fits 106 = .ok (.iload_n 1, 1) := by decide +kernel
theorem dX7_fits_107 : decode cX7_fits 107 = .ok (.ifCond .ne 7, 3) := by decide +kernel
theorem dX7_fits_110 : decode cX7_fits 110 = .ok (.iload_n 3, 1) := by decide +kernel
theorem dX7_fits_111 : decode cX7_fits 111 = .ok (.goto 5, 3) := by decide +kernel
theorem dX7_fits_114 : decode cX7_fits 114 = .ok (.iload 4, 2) := by decide +kernel
theorem dX7_fits_116 : decode cX7_fits 116 = .ok (.ireturn, 1) := by decide +kernel
theorem dX7_fits_117 : decode cX7_fits 117 = .ok (.iload_n 3, 1) := by decide +kernel
theorem dX7_fits_118 : decode cX7_fits 118 = .ok (.ifCond .ne 8, 3) := by decide +kernel
theorem dX7_fits_121 : decode cX7_fits 121 = .ok (.bipush (-4), 2) := by decide +kernel
theorem dX7_fits_123 : decode cX7_fits 123 = .ok (.goto 19, 3) := by decide +kernel
theorem dX7_fits_126 : decode cX7_fits 126 = .ok (.iload_n 1, 1) := by decide +kernel
theorem dX7_fits_127 : decode cX7_fits 127 = .ok (.iconst 2, 1) := by decide +kernel
theorem dX7_fits_128 : decode cX7_fits 128 = .ok (.if_icmp .ne 8, 3) := by decide +kernel
theorem dX7_fits_131 : decode cX7_fits 131 = .ok (.iload 5, 2) := by decide +kernel
theorem dX7_fits_133 : decode cX7_fits 133 = .ok (.goto 9, 3) := by decide +kernel
theorem dX7_fits_136 : decode cX7_fits 136 = .ok (.iload_n 2, 1) := by decide +kernel
theorem dX7_fits_137 : decode cX7_fits 137 = .ok (.iload 6, 2) := by decide +kernel
theorem dX7_fits_139 : decode cX7_fits 139 = .ok (.iconst (-1), 1) := by decide +kernel
theorem dX7_fits_140 : decode cX7_fits 140 = .ok (.ixor, 1) := by decide +kernel
theorem dX7_fits_141 : decode cX7_fits 141 = .ok (.iand, 1) := by decide +kernel
theorem dX7_fits_142 : decode cX7_fits 142 = .ok (.ireturn, 1) := by decide +kernel
theorem dX7_drift_0 : decode cX7_drift 0 = .ok (.iload_n 2, 1) := by decide +kernel
theorem dX7_drift_1 : decode cX7_drift 1 = .ok (.i2l, 1) := by decide +kernel
theorem dX7_drift_2 : decode cX7_drift 2 = .ok (.lconst 1, 1) := by decide +kernel
theorem dX7_drift_3 : decode cX7_drift 3 = .ok (.ldc2_w 321, 3) := by decide +kernel
theorem dX7_drift_6 : decode cX7_drift 6 = .ok (.invokestatic 74, 3) := by decide +kernel
theorem dX7_drift_9 : decode cX7_drift 9 = .ok (.ifCond .eq 10, 3) := by decide +kernel
theorem dX7_drift_12 : decode cX7_drift 12 = .ok (.iload_n 3, 1) := by decide +kernel
theorem dX7_drift_13 : decode cX7_drift 13 = .ok (.invokestatic 285, 3) := by decide +kernel
theorem dX7_drift_16 : decode cX7_drift 16 = .ok (.ifCond .ne 5, 3) := by decide +kernel
theorem dX7_drift_19 : decode cX7_drift 19 = .ok (.iconst (-1), 1) := by decide +kernel
theorem dX7_drift_20 : decode cX7_drift 20 = .ok (.ireturn, 1) := by decide +kernel
theorem dX7_drift_21 : decode cX7_drift 21 = .ok (.iload_n 1, 1) := by decide +kernel
theorem dX7_drift_22 : decode cX7_drift 22 = .ok (.istore 4, 2) := by decide +kernel
theorem dX7_drift_24 : decode cX7_drift 24 = .ok (.iconst 0, 1) := by decide +kernel
theorem dX7_drift_25 : decode cX7_drift 25 = .ok (.istore 5, 2) := by decide +kernel
theorem dX7_drift_27 : decode cX7_drift 27 = .ok (.aload_n 0, 1) := by decide +kernel
theorem dX7_drift_28 : decode cX7_drift 28 = .ok (.invokevirtual 228, 3) := by decide +kernel
theorem dX7_drift_31 : decode cX7_drift 31 = .ok (.iconst 0, 1) := by decide +kernel
theorem dX7_drift_32 : decode cX7_drift 32 = .ok (.istore 6, 2) := by decide +kernel
theorem dX7_drift_34 : decode cX7_drift 34 = .ok (.iload 6, 2) := by decide +kernel
theorem dX7_drift_36 : decode cX7_drift 36 = .ok (.iload_n 2, 1) := by decide +kernel
theorem dX7_drift_37 : decode cX7_drift 37 = .ok (.if_icmp .ge 82, 3) := by decide +kernel
theorem dX7_drift_40 : decode cX7_drift 40 = .ok (.iconst 0, 1) := by decide +kernel
theorem dX7_drift_41 : decode cX7_drift 41 = .ok (.istore 7, 2) := by decide +kernel
theorem dX7_drift_43 : decode cX7_drift 43 = .ok (.iload 7, 2) := by decide +kernel
theorem dX7_drift_45 : decode cX7_drift 45 = .ok (.aload_n 0, 1) := by decide +kernel
theorem dX7_drift_46 : decode cX7_drift 46 = .ok (.getfield 69, 3) := by decide +kernel
theorem dX7_drift_49 : decode cX7_drift 49 = .ok (.if_icmp .ge 40, 3) := by decide +kernel
theorem dX7_drift_52 : decode cX7_drift 52 = .ok (.iload 4, 2) := by decide +kernel
theorem dX7_drift_54 : decode cX7_drift 54 = .ok (.ldc_w 323, 3) := by decide +kernel
theorem dX7_drift_57 : decode cX7_drift 57 = .ok (.imul, 1) := by decide +kernel
theorem dX7_drift_58 : decode cX7_drift 58 = .ok (.sipush 12345, 3) := by decide +kernel
theorem dX7_drift_61 : decode cX7_drift 61 = .ok (.iadd, 1) := by decide +kernel
theorem dX7_drift_62 : decode cX7_drift 62 = .ok (.istore 4, 2) := by decide +kernel
theorem dX7_drift_64 : decode cX7_drift 64 = .ok (.aload_n 0, 1) := by decide +kernel
theorem dX7_drift_65 : decode cX7_drift 65 = .ok (.iload 7, 2) := by decide +kernel
theorem dX7_drift_67 : decode cX7_drift 67 = .ok (.iconst 2, 1) := by decide +kernel
theorem dX7_drift_68 : decode cX7_drift 68 = .ok (.iload 4, 2) := by decide +kernel
theorem dX7_drift_70 : decode cX7_drift 70 = .ok (.bipush 16, 2) := by decide +kernel
theorem dX7_drift_72 : decode cX7_drift 72 = .ok (.ishr, 1) := by decide +kernel
theorem dX7_drift_73 : decode cX7_drift 73 = .ok (.sipush 32767, 3) := by decide +kernel
theorem dX7_drift_76 : decode cX7_drift 76 = .ok (.iand, 1) := by decide +kernel
theorem dX7_drift_77 : decode cX7_drift 77 = .ok (.bipush 40, 2) := by decide +kernel
theorem dX7_drift_79 : decode cX7_drift 79 = .ok (.irem, 1) := by decide +kernel
theorem dX7_drift_80 : decode cX7_drift 80 = .ok (.invokevirtual 274, 3) := by decide +kernel
theorem dX7_drift_83 : decode cX7_drift 83 = .ok (.iinc 7 1, 3) := by decide +kernel
theorem dX7_drift_86 : decode cX7_drift 86 = .ok (.goto (-43), 3) := by decide +kernel
theorem dX7_drift_89 : decode cX7_drift 89 = .ok (.aload_n 0, 1) := by decide +kernel
theorem dX7_drift_90 : decode cX7_drift 90 = .ok (.invokevirtual 231, 3) := by decide +kernel
theorem dX7_drift_93 : decode cX7_drift 93 = .ok (.iload 5, 2) := by decide +kernel
theorem dX7_drift_95 : decode cX7_drift 95 = .ok (.iload_n 3, 1) := by decide +kernel
theorem dX7_drift_96 : decode cX7_drift 96 = .ok (.ifCond .ne 10, 3) := by decide +kernel
theorem dX7_drift_99 : decode cX7_drift 99 = .ok (.aload_n 0, 1) := by decide +kernel
theorem dX7_drift_100 : decode cX7_drift 100 = .ok (.invokevirtual 225, 3) := by decide +kernel
theorem dX7_drift_103 : decode cX7_drift 103 = .ok (.goto 7, 3) := by decide +kernel
theorem dX7_drift_106 : decode cX7_drift 106 = .ok (.aload_n 0, 1) := by decide +kernel
theorem dX7_drift_107 : decode cX7_drift 107 = .ok (.getfield 178, 3) := by decide +kernel
theorem dX7_drift_110 : decode cX7_drift 110 = .ok (.iadd, 1) := by decide +kernel
theorem dX7_drift_111 : decode cX7_drift 111 = .ok (.istore 5, 2) := by decide +kernel
theorem dX7_drift_113 : decode cX7_drift 113 = .ok (.iinc 6 1, 3) := by decide +kernel
theorem dX7_drift_116 : decode cX7_drift 116 = .ok (.goto (-82), 3) := by decide +kernel
theorem dX7_drift_119 : decode cX7_drift 119 = .ok (.iload 5, 2) := by decide +kernel
theorem dX7_drift_121 : decode cX7_drift 121 = .ok (.ireturn, 1) := by decide +kernel
theorem dX7_copies_0 : decode cX7_copies 0 = .ok (.iconst 0, 1) := by decide +kernel
theorem dX7_copies_1 : decode cX7_copies 1 = .ok (.istore_n 3, 1) := by decide +kernel
theorem dX7_copies_2 : decode cX7_copies 2 = .ok (.iload_n 3, 1) := by decide +kernel
theorem dX7_copies_3 : decode cX7_copies 3 = .ok (.bipush 55, 2) := by decide +kernel
theorem dX7_copies_5 : decode cX7_copies 5 = .ok (.if_icmp .ge 25, 3) := by decide +kernel
theorem dX7_copies_8 : decode cX7_copies 8 = .ok (.aload_n 0, 1) := by decide +kernel
theorem dX7_copies_9 : decode cX7_copies 9 = .ok (.getfield 7, 3) := by decide +kernel
theorem dX7_copies_12 : decode cX7_copies 12 = .ok (.iload_n 1, 1) := by decide +kernel
theorem dX7_copies_13 : decode cX7_copies 13 = .ok (.iload_n 3, 1) := by decide +kernel
theorem dX7_copies_14 : decode cX7_copies 14 = .ok (.iadd, 1) := by decide +kernel
theorem dX7_copies_15 : decode cX7_copies 15 = .ok (.aload_n 0, 1) := by decide +kernel
theorem dX7_copies_16 : decode cX7_copies 16 = .ok (.getfield 7, 3) := by decide +kernel
theorem dX7_copies_19 : decode cX7_copies 19 = .ok (.iload_n 2, 1) := by decide +kernel
theorem dX7_copies_20 : decode cX7_copies 20 = .ok (.iload_n 3, 1) := by decide +kernel
theorem dX7_copies_21 : decode cX7_copies 21 = .ok (.iadd, 1) := by decide +kernel
theorem dX7_copies_22 : decode cX7_copies 22 = .ok (.iaload, 1) := by decide +kernel
theorem dX7_copies_23 : decode cX7_copies 23 = .ok (.iastore, 1) := by decide +kernel
theorem dX7_copies_24 : decode cX7_copies 24 = .ok (.iinc 3 1, 3) := by decide +kernel
theorem dX7_copies_27 : decode cX7_copies 27 = .ok (.goto (-25), 3) := by decide +kernel
theorem dX7_copies_30 : decode cX7_copies 30 = .ok (.return_, 1) := by decide +kernel
theorem dX7_keep_0 : decode cX7_keep 0 = .ok (.iload_n 1, 1) := by decide +kernel
theorem dX7_keep_1 : decode cX7_keep 1 = .ok (.i2l, 1) := by decide +kernel
theorem dX7_keep_2 : decode cX7_keep 2 = .ok (.lconst 0, 1) := by decide +kernel
theorem dX7_keep_3 : decode cX7_keep 3 = .ok (.lconst 1, 1) := by decide +kernel
theorem dX7_keep_4 : decode cX7_keep 4 = .ok (.invokestatic 74, 3) := by decide +kernel
theorem dX7_keep_7 : decode cX7_keep 7 = .ok (.ifCond .ne 5, 3) := by decide +kernel
theorem dX7_keep_10 : decode cX7_keep 10 = .ok (.iconst (-1), 1) := by decide +kernel
theorem dX7_keep_11 : decode cX7_keep 11 = .ok (.ireturn, 1) := by decide +kernel
theorem dX7_keep_12 : decode cX7_keep 12 = .ok (.aload_n 0, 1) := by decide +kernel
theorem dX7_keep_13 : decode cX7_keep 13 = .ok (.getfield 16, 3) := by decide +kernel
theorem dX7_keep_16 : decode cX7_keep 16 = .ok (.iload_n 1, 1) := by decide +kernel
theorem dX7_keep_17 : decode cX7_keep 17 = .ok (.baload, 1) := by decide +kernel
theorem dX7_keep_18 : decode cX7_keep 18 = .ok (.invokestatic 184, 3) := by decide +kernel
theorem dX7_keep_21 : decode cX7_keep 21 = .ok (.istore_n 2, 1) := by decide +kernel
theorem dX7_keep_22 : decode cX7_keep 22 = .ok (.aload_n 0, 1) := by decide +kernel
theorem dX7_keep_23 : decode cX7_keep 23 = .ok (.getfield 16, 3) := by decide +kernel
theorem dX7_keep_26 : decode cX7_keep 26 = .ok (.iload_n 1, 1) := by decide +kernel
theorem dX7_keep_27 : decode cX7_keep 27 = .ok (.iconst 1, 1) := by decide +kernel
theorem dX7_keep_28 : decode cX7_keep 28 = .ok (.bastore, 1) := by decide +kernel
theorem dX7_keep_29 : decode cX7_keep 29 = .ok (.aload_n 0, 1) := by decide +kernel
theorem dX7_keep_30 : decode cX7_keep 30 = .ok (.bipush 55, 2) := by decide +kernel
theorem dX7_keep_32 : decode cX7_keep 32 = .ok (.iload_n 1, 1) := by decide +kernel
theorem dX7_keep_33 : decode cX7_keep 33 = .ok (.iconst 1, 1) := by decide +kernel
theorem dX7_keep_34 : decode cX7_keep 34 = .ok (.iadd, 1) := by decide +kernel
theorem dX7_keep_35 : decode cX7_keep 35 = .ok (.imul, 1) := by decide +kernel
theorem dX7_keep_36 : decode cX7_keep 36 = .ok (.iconst 0, 1) := by decide +kernel
theorem dX7_keep_37 : decode cX7_keep 37 = .ok (.invokevirtual 324, 3) := by decide +kernel
theorem dX7_keep_40 : decode cX7_keep 40 = .ok (.iload_n 2, 1) := by decide +kernel
theorem dX7_keep_41 : decode cX7_keep 41 = .ok (.ireturn, 1) := by decide +kernel
theorem dX7_back_0 : decode cX7_back 0 = .ok (.iload_n 1, 1) := by decide +kernel
theorem dX7_back_1 : decode cX7_back 1 = .ok (.i2l, 1) := by decide +kernel
theorem dX7_back_2 : decode cX7_back 2 = .ok (.lconst 0, 1) := by decide +kernel
theorem dX7_back_3 : decode cX7_back 3 = .ok (.lconst 1, 1) := by decide +kernel
theorem dX7_back_4 : decode cX7_back 4 = .ok (.invokestatic 74, 3) := by decide +kernel
theorem dX7_back_7 : decode cX7_back 7 = .ok (.ifCond .ne 5, 3) := by decide +kernel
theorem dX7_back_10 : decode cX7_back 10 = .ok (.iconst (-1), 1) := by decide +kernel
theorem dX7_back_11 : decode cX7_back 11 = .ok (.ireturn, 1) := by decide +kernel
theorem dX7_back_12 : decode cX7_back 12 = .ok (.aload_n 0, 1) := by decide +kernel
theorem dX7_back_13 : decode cX7_back 13 = .ok (.getfield 16, 3) := by decide +kernel
theorem dX7_back_16 : decode cX7_back 16 = .ok (.iload_n 1, 1) := by decide +kernel
theorem dX7_back_17 : decode cX7_back 17 = .ok (.baload, 1) := by decide +kernel
theorem dX7_back_18 : decode cX7_back 18 = .ok (.ifCond .ne 6, 3) := by decide +kernel
theorem dX7_back_21 : decode cX7_back 21 = .ok (.bipush (-2), 2) := by decide +kernel
theorem dX7_back_23 : decode cX7_back 23 = .ok (.ireturn, 1) := by decide +kernel
theorem dX7_back_24 : decode cX7_back 24 = .ok (.aload_n 0, 1) := by decide +kernel
theorem dX7_back_25 : decode cX7_back 25 = .ok (.iconst 0, 1) := by decide +kernel
theorem dX7_back_26 : decode cX7_back 26 = .ok (.bipush 55, 2) := by decide +kernel
theorem dX7_back_28 : decode cX7_back 28 = .ok (.iload_n 1, 1) := by decide +kernel
theorem dX7_back_29 : decode cX7_back 29 = .ok (.iconst 1, 1) := by decide +kernel
theorem dX7_back_30 : decode cX7_back 30 = .ok (.iadd, 1) := by decide +kernel
theorem dX7_back_31 : decode cX7_back 31 = .ok (.imul, 1) := by decide +kernel
theorem dX7_back_32 : decode cX7_back 32 = .ok (.invokevirtual 324, 3) := by decide +kernel
theorem dX7_back_35 : decode cX7_back 35 = .ok (.aload_n 0, 1) := by decide +kernel
theorem dX7_back_36 : decode cX7_back 36 = .ok (.invokevirtual 256, 3) := by decide +kernel
theorem dX7_back_39 : decode cX7_back 39 = .ok (.aload_n 0, 1) := by decide +kernel
theorem dX7_back_40 : decode cX7_back 40 = .ok (.iconst 3, 1) := by decide +kernel
theorem dX7_back_41 : decode cX7_back 41 = .ok (.invokevirtual 259, 3) := by decide +kernel
theorem dX7_back_44 : decode cX7_back 44 = .ok (.ireturn, 1) := by decide +kernel
theorem dX7_isSheet_0 : decode cX7_isSheet 0 = .ok (.iload_n 0, 1) := by decide +kernel
theorem dX7_isSheet_1 : decode cX7_isSheet 1 = .ok (.i2l, 1) := by decide +kernel
theorem dX7_isSheet_2 : decode cX7_isSheet 2 = .ok (.lconst 0, 1) := by decide +kernel
theorem dX7_isSheet_3 : decode cX7_isSheet 3 = .ok (.ldc2_w 250, 3) := by decide +kernel
theorem dX7_isSheet_6 : decode cX7_isSheet 6 = .ok (.invokestatic 74, 3) := by decide +kernel
theorem dX7_isSheet_9 : decode cX7_isSheet 9 = .ok (.ifCond .eq 19, 3) := by decide +kernel
theorem dX7_isSheet_12 : decode cX7_isSheet 12 = .ok (.iload_n 1, 1) := by decide +kernel
theorem dX7_isSheet_13 : decode cX7_isSheet 13 = .ok (.i2l, 1) := by decide +kernel
theorem dX7_isSheet_14 : decode cX7_isSheet 14 = .ok (.lconst 0, 1) := by decide +kernel
theorem dX7_isSheet_15 : decode cX7_isSheet 15 = .ok (.ldc2_w 153, 3) := by decide +kernel
theorem dX7_isSheet_18 : decode cX7_isSheet 18 = .ok (.invokestatic 74, 3) := by decide +kernel
theorem dX7_isSheet_21 : decode cX7_isSheet 21 = .ok (.ifCond .eq 7, 3) := by decide +kernel
theorem dX7_isSheet_24 : decode cX7_isSheet 24 = .ok (.iconst 1, 1) := by decide +kernel
theorem dX7_isSheet_25 : decode cX7_isSheet 25 = .ok (.goto 4, 3) := by decide +kernel
theorem dX7_isSheet_28 : decode cX7_isSheet 28 = .ok (.iconst 0, 1) := by decide +kernel
theorem dX7_isSheet_29 : decode cX7_isSheet 29 = .ok (.ireturn, 1) := by decide +kernel
theorem dX7_sheet_0 : decode cX7_sheet 0 = .ok (.iload_n 1, 1) := by decide +kernel
theorem dX7_sheet_1 : decode cX7_sheet 1 = .ok (.iload_n 2, 1) := by decide +kernel
theorem dX7_sheet_2 : decode cX7_sheet 2 = .ok (.invokestatic 328, 3) := by decide +kernel
theorem dX7_sheet_5 : decode cX7_sheet 5 = .ok (.ifCond .eq 9, 3) := by decide +kernel
theorem dX7_sheet_8 : decode cX7_sheet 8 = .ok (.iload_n 3, 1) := by decide +kernel
theorem dX7_sheet_9 : decode cX7_sheet 9 = .ok (.bipush 40, 2) := by decide +kernel
theorem dX7_sheet_11 : decode cX7_sheet 11 = .ok (.if_icmp .le 5, 3) := by decide +kernel
theorem dX7_sheet_14 : decode cX7_sheet 14 = .ok (.iconst (-1), 1) := by decide +kernel
theorem dX7_sheet_15 : decode cX7_sheet 15 = .ok (.ireturn, 1) := by decide +kernel
theorem dX7_sheet_16 : decode cX7_sheet 16 = .ok (.iload_n 3, 1) := by decide +kernel
theorem dX7_sheet_17 : decode cX7_sheet 17 = .ok (.ifCond .ge 6, 3) := by decide +kernel
theorem dX7_sheet_20 : decode cX7_sheet 20 = .ok (.bipush (-14), 2) := by decide +kernel
theorem dX7_sheet_22 : decode cX7_sheet 22 = .ok (.ireturn, 1) := by decide +kernel
theorem dX7_sheet_23 : decode cX7_sheet 23 = .ok (.aload_n 0, 1) := by decide +kernel
theorem dX7_sheet_24 : decode cX7_sheet 24 = .ok (.getfield 38, 3) := by decide +kernel
theorem dX7_sheet_27 : decode cX7_sheet 27 = .ok (.iload_n 1, 1) := by decide +kernel
theorem dX7_sheet_28 : decode cX7_sheet 28 = .ok (.iload_n 2, 1) := by decide +kernel
theorem dX7_sheet_29 : decode cX7_sheet 29 = .ok (.iastore, 1) := by decide +kernel
theorem dX7_sheet_30 : decode cX7_sheet 30 = .ok (.aload_n 0, 1) := by decide +kernel
theorem dX7_sheet_31 : decode cX7_sheet 31 = .ok (.getfield 41, 3) := by decide +kernel
theorem dX7_sheet_34 : decode cX7_sheet 34 = .ok (.iload_n 1, 1) := by decide +kernel
theorem dX7_sheet_35 : decode cX7_sheet 35 = .ok (.iload_n 3, 1) := by decide +kernel
theorem dX7_sheet_36 : decode cX7_sheet 36 = .ok (.iastore, 1) := by decide +kernel
theorem dX7_sheet_37 : decode cX7_sheet 37 = .ok (.iconst 0, 1) := by decide +kernel
theorem dX7_sheet_38 : decode cX7_sheet 38 = .ok (.istore 4, 2) := by decide +kernel
theorem dX7_sheet_40 : decode cX7_sheet 40 = .ok (.iload 4, 2) := by decide +kernel
theorem dX7_sheet_42 : decode cX7_sheet 42 = .ok (.bipush 40, 2) := by decide +kernel
theorem dX7_sheet_44 : decode cX7_sheet 44 = .ok (.if_icmp .ge 22, 3) := by decide +kernel
theorem dX7_sheet_47 : decode cX7_sheet 47 = .ok (.aload_n 0, 1) := by decide +kernel
theorem dX7_sheet_48 : decode cX7_sheet 48 = .ok (.getfield 44, 3) := by decide +kernel
theorem dX7_sheet_51 : decode cX7_sheet 51 = .ok (.bipush 40, 2) := by decide +kernel
theorem dX7_sheet_53 : decode cX7_sheet 53 = .ok (.iload_n 1, 1) := by decide +kernel
theorem dX7_sheet_54 : decode cX7_sheet 54 = .ok (.imul, 1) := by decide +kernel
theorem dX7_sheet_55 : decode cX7_sheet 55 = .ok (.iload 4, 2) := by decide +kernel
theorem dX7_sheet_57 : decode cX7_sheet 57 = .ok (.iadd, 1) := by decide +kernel
theorem dX7_sheet_58 : decode cX7_sheet 58 = .ok (.iconst 0, 1) := by decide +kernel
theorem dX7_sheet_59 : decode cX7_sheet 59 = .ok (.iastore, 1) := by decide +kernel
theorem dX7_sheet_60 : decode cX7_sheet 60 = .ok (.iinc 4 1, 3) := by decide +kernel
theorem dX7_sheet_63 : decode cX7_sheet 63 = .ok (.goto (-23), 3) := by decide +kernel
theorem dX7_sheet_66 : decode cX7_sheet 66 = .ok (.iconst 1, 1) := by decide +kernel
theorem dX7_sheet_67 : decode cX7_sheet 67 = .ok (.ireturn, 1) := by decide +kernel
theorem dX7_lay_0 : decode cX7_lay 0 = .ok (.iload_n 1, 1) := by decide +kernel
theorem dX7_lay_1 : decode cX7_lay 1 = .ok (.iconst 0, 1) := by decide +kernel
theorem dX7_lay_2 : decode cX7_lay 2 = .ok (.invokestatic 328, 3) := by decide +kernel
theorem dX7_lay_5 : decode cX7_lay 5 = .ok (.ifCond .ne 5, 3) := by decide +kernel
theorem dX7_lay_8 : decode cX7_lay 8 = .ok (.iconst (-1), 1) := by decide +kernel
theorem dX7_lay_9 : decode cX7_lay 9 = .ok (.ireturn, 1) := by decide +kernel
theorem dX7_lay_10 : decode cX7_lay 10 = .ok (.aload_n 0, 1) := by decide +kernel
theorem dX7_lay_11 : decode cX7_lay 11 = .ok (.getfield 38, 3) := by decide +kernel
theorem dX7_lay_14 : decode cX7_lay 14 = .ok (.iload_n 1, 1) := by decide +kernel
theorem dX7_lay_15 : decode cX7_lay 15 = .ok (.iaload, 1) := by decide +kernel
theorem dX7_lay_16 : decode cX7_lay 16 = .ok (.bipush (-4), 2) := by decide +kernel
theorem dX7_lay_18 : decode cX7_lay 18 = .ok (.if_icmp .ne 6, 3) := by decide +kernel
theorem dX7_lay_21 : decode cX7_lay 21 = .ok (.bipush (-11), 2) := by decide +kernel
theorem dX7_lay_23 : decode cX7_lay 23 = .ok (.ireturn, 1) := by decide +kernel
theorem dX7_lay_24 : decode cX7_lay 24 = .ok (.iload_n 2, 1) := by decide +kernel
theorem dX7_lay_25 : decode cX7_lay 25 = .ok (.i2l, 1) := by decide +kernel
theorem dX7_lay_26 : decode cX7_lay 26 = .ok (.lconst 0, 1) := by decide +kernel
theorem dX7_lay_27 : decode cX7_lay 27 = .ok (.aload_n 0, 1) := by decide +kernel
theorem dX7_lay_28 : decode cX7_lay 28 = .ok (.getfield 41, 3) := by decide +kernel
theorem dX7_lay_31 : decode cX7_lay 31 = .ok (.iload_n 1, 1) := by decide +kernel
theorem dX7_lay_32 : decode cX7_lay 32 = .ok (.iaload, 1) := by decide +kernel
theorem dX7_lay_33 : decode cX7_lay 33 = .ok (.iconst 1, 1) := by decide +kernel
theorem dX7_lay_34 : decode cX7_lay 34 = .ok (.isub, 1) := by decide +kernel
theorem dX7_lay_35 : decode cX7_lay 35 = .ok (.i2l, 1) := by decide +kernel
theorem dX7_lay_36 : decode cX7_lay 36 = .ok (.invokestatic 74, 3) := by decide +kernel
theorem dX7_lay_39 : decode cX7_lay 39 = .ok (.ifCond .ne 6, 3) := by decide +kernel
theorem dX7_lay_42 : decode cX7_lay 42 = .ok (.bipush (-12), 2) := by decide +kernel
theorem dX7_lay_44 : decode cX7_lay 44 = .ok (.ireturn, 1) := by decide +kernel
theorem dX7_lay_45 : decode cX7_lay 45 = .ok (.aload_n 0, 1) := by decide +kernel
theorem dX7_lay_46 : decode cX7_lay 46 = .ok (.getfield 44, 3) := by decide +kernel
theorem dX7_lay_49 : decode cX7_lay 49 = .ok (.bipush 40, 2) := by decide +kernel
theorem dX7_lay_51 : decode cX7_lay 51 = .ok (.iload_n 1, 1) := by decide +kernel
theorem dX7_lay_52 : decode cX7_lay 52 = .ok (.imul, 1) := by decide +kernel
theorem dX7_lay_53 : decode cX7_lay 53 = .ok (.iload_n 2, 1) := by decide +kernel
theorem dX7_lay_54 : decode cX7_lay 54 = .ok (.iadd, 1) := by decide +kernel
theorem dX7_lay_55 : decode cX7_lay 55 = .ok (.aload_n 0, 1) := by decide +kernel
theorem dX7_lay_56 : decode cX7_lay 56 = .ok (.getfield 38, 3) := by decide +kernel
theorem dX7_lay_59 : decode cX7_lay 59 = .ok (.iload_n 1, 1) := by decide +kernel
theorem dX7_lay_60 : decode cX7_lay 60 = .ok (.iaload, 1) := by decide +kernel
theorem dX7_lay_61 : decode cX7_lay 61 = .ok (.ifCond .ne 8, 3) := by decide +kernel
theorem dX7_lay_64 : decode cX7_lay 64 = .ok (.iload_n 3, 1) := by decide +kernel
theorem dX7_lay_65 : decode cX7_lay 65 = .ok (.i2b, 1) := by decide +kernel
theorem dX7_lay_66 : decode cX7_lay 66 = .ok (.goto 19, 3) := by decide +kernel
theorem dX7_lay_69 : decode cX7_lay 69 = .ok (.aload_n 0, 1) := by decide +kernel
theorem dX7_lay_70 : decode cX7_lay 70 = .ok (.getfield 38, 3) := by decide +kernel
theorem dX7_lay_73 : decode cX7_lay 73 = .ok (.iload_n 1, 1) := by decide +kernel
theorem dX7_lay_74 : decode cX7_lay 74 = .ok (.iaload, 1) := by decide +kernel
theorem dX7_lay_75 : decode cX7_lay 75 = .ok (.iconst 1, 1) := by decide +kernel
theorem dX7_lay_76 : decode cX7_lay 76 = .ok (.if_icmp .ne 8, 3) := by decide +kernel
theorem dX7_lay_79 : decode cX7_lay 79 = .ok (.iload_n 3, 1) := by decide +kernel
theorem dX7_lay_80 : decode cX7_lay 80 = .ok (.i2s, 1) := by decide +kernel
theorem dX7_lay_81 : decode cX7_lay 81 = .ok (.goto 4, 3) := by decide +kernel
theorem dX7_lay_84 : decode cX7_lay 84 = .ok (.iload_n 3, 1) := by decide +kernel
theorem dX7_lay_85 : decode cX7_lay 85 = .ok (.iastore, 1) := by decide +kernel
theorem dX7_lay_86 : decode cX7_lay 86 = .ok (.iconst 1, 1) := by decide +kernel
theorem dX7_lay_87 : decode cX7_lay 87 = .ok (.ireturn, 1) := by decide +kernel
theorem dX7_read_0 : decode cX7_read 0 = .ok (.iload_n 1, 1) := by decide +kernel
theorem dX7_read_1 : decode cX7_read 1 = .ok (.iload_n 2, 1) := by decide +kernel
theorem dX7_read_2 : decode cX7_read 2 = .ok (.invokestatic 328, 3) := by decide +kernel
theorem dX7_read_5 : decode cX7_read 5 = .ok (.ifCond .eq 16, 3) := by decide +kernel
theorem dX7_read_8 : decode cX7_read 8 = .ok (.iload 4, 2) := by decide +kernel
theorem dX7_read_10 : decode cX7_read 10 = .ok (.i2l, 1) := by decide +kernel
theorem dX7_read_11 : decode cX7_read 11 = .ok (.lconst 0, 1) := by decide +kernel
theorem dX7_read_12 : decode cX7_read 12 = .ok (.ldc2_w 321, 3) := by decide +kernel
theorem dX7_read_15 : decode cX7_read 15 = .ok (.invokestatic 74, 3) := by decide +kernel
theorem dX7_read_18 : decode cX7_read 18 = .ok (.ifCond .ne 5, 3) := by decide +kernel
theorem dX7_read_21 : decode cX7_read 21 = .ok (.iconst (-1), 1) := by decide +kernel
theorem dX7_read_22 : decode cX7_read 22 = .ok (.ireturn, 1) := by decide +kernel
theorem dX7_read_23 : decode cX7_read 23 = .ok (.iconst 0, 1) := by decide +kernel
theorem dX7_read_24 : decode cX7_read 24 = .ok (.istore 5, 2) := by decide +kernel
theorem dX7_read_26 : decode cX7_read 26 = .ok (.iload 5, 2) := by decide +kernel
theorem dX7_read_28 : decode cX7_read 28 = .ok (.bipush 55, 2) := by decide +kernel
theorem dX7_read_30 : decode cX7_read 30 = .ok (.if_icmp .ge 23, 3) := by decide +kernel
theorem dX7_read_33 : decode cX7_read 33 = .ok (.aload_n 0, 1) := by decide +kernel
theorem dX7_read_34 : decode cX7_read 34 = .ok (.getfield 47, 3) := by decide +kernel
theorem dX7_read_37 : decode cX7_read 37 = .ok (.iload 5, 2) := by decide +kernel
theorem dX7_read_39 : decode cX7_read 39 = .ok (.aload_n 0, 1) := by decide +kernel
theorem dX7_read_40 : decode cX7_read 40 = .ok (.getfield 7, 3) := by decide +kernel
theorem dX7_read_43 : decode cX7_read 43 = .ok (.iload 5, 2) := by decide +kernel
theorem dX7_read_45 : decode cX7_read 45 = .ok (.iaload, 1) := by decide +kernel
theorem dX7_read_46 : decode cX7_read 46 = .ok (.iastore, 1) := by decide +kernel
theorem dX7_read_47 : decode cX7_read 47 = .ok (.iinc 5 1, 3) := by decide +kernel
theorem dX7_read_50 : decode cX7_read 50 = .ok (.goto (-24), 3) := by decide +kernel
theorem dX7_read_53 : decode cX7_read 53 = .ok (.iconst 0, 1) := by decide +kernel
theorem dX7_read_54 : decode cX7_read 54 = .ok (.istore 5, 2) := by decide +kernel
theorem dX7_read_56 : decode cX7_read 56 = .ok (.iconst 0, 1) := by decide +kernel
theorem dX7_read_57 : decode cX7_read 57 = .ok (.istore 6, 2) := by decide +kernel
theorem dX7_read_59 : decode cX7_read 59 = .ok (.iconst 0, 1) := by decide +kernel
theorem dX7_read_60 : decode cX7_read 60 = .ok (.istore 7, 2) := by decide +kernel
theorem dX7_read_62 : decode cX7_read 62 = .ok (.iload 7, 2) := by decide +kernel
theorem dX7_read_64 : decode cX7_read 64 = .ok (.iload 4, 2) := by decide +kernel
theorem dX7_read_66 : decode cX7_read 66 = .ok (.if_icmp .ge 186, 3) := by decide +kernel
theorem dX7_read_69 : decode cX7_read 69 = .ok (.iload 5, 2) := by decide +kernel
theorem dX7_read_71 : decode cX7_read 71 = .ok (.ifCond .ne 181, 3) := by decide +kernel
theorem dX7_read_74 : decode cX7_read 74 = .ok (.iconst 0, 1) := by decide +kernel
theorem dX7_read_75 : decode cX7_read 75 = .ok (.istore 8, 2) := by decide +kernel
theorem dX7_read_77 : decode cX7_read 77 = .ok (.iload 8, 2) := by decide +kernel
theorem dX7_read_79 : decode cX7_read 79 = .ok (.iconst 2, 1) := by decide +kernel
theorem dX7_read_80 : decode cX7_read 80 = .ok (.if_icmp .ge 84, 3) := by decide +kernel
theorem dX7_read_83 : decode cX7_read 83 = .ok (.iload 5, 2) := by decide +kernel
theorem dX7_read_85 : decode cX7_read 85 = .ok (.ifCond .ne 79, 3) := by decide +kernel
theorem dX7_read_88 : decode cX7_read 88 = .ok (.iload_n 3, 1) := by decide +kernel
theorem dX7_read_89 : decode cX7_read 89 = .ok (.i2l, 1) := by decide +kernel
theorem dX7_read_90 : decode cX7_read 90 = .ok (.iconst 2, 1) := by decide +kernel
theorem dX7_read_91 : decode cX7_read 91 = .ok (.iload 7, 2) := by decide +kernel
theorem dX7_read_93 : decode cX7_read 93 = .ok (.imul, 1) := by decide +kernel
theorem dX7_read_94 : decode cX7_read 94 = .ok (.i2l, 1) := by decide +kernel
theorem dX7_read_95 : decode cX7_read 95 = .ok (.ladd, 1) := by decide +kernel
theorem dX7_read_96 : decode cX7_read 96 = .ok (.iload 8, 2) := by decide +kernel
theorem dX7_read_98 : decode cX7_read 98 = .ok (.i2l, 1) := by decide +kernel
theorem dX7_read_99 : decode cX7_read 99 = .ok (.ladd, 1) := by decide +kernel
theorem dX7_read_100 : decode cX7_read 100 = .ok (.lstore 9, 2) := by decide +kernel
theorem dX7_read_102 : decode cX7_read 102 = .ok (.aload_n 0, 1) := by decide +kernel
theorem dX7_read_103 : decode cX7_read 103 = .ok (.getfield 38, 3) := by decide +kernel
theorem dX7_read_106 : decode cX7_read 106 = .ok (.iload_n 1, 1) := by decide +kernel
theorem dX7_read_107 : decode cX7_read 107 = .ok (.iaload, 1) := by decide +kernel
theorem dX7_read_108 : decode cX7_read 108 = .ok (.bipush (-4), 2) := by decide +kernel
theorem dX7_read_110 : decode cX7_read 110 = .ok (.if_icmp .ne 7, 3) := by decide +kernel
theorem dX7_read_113 : decode cX7_read 113 = .ok (.iconst 1, 1) := by decide +kernel
theorem dX7_read_114 : decode cX7_read 114 = .ok (.goto 42, 3) := by decide +kernel
theorem dX7_read_117 : decode cX7_read 117 = .ok (.aload_n 0, 1) := by decide +kernel
theorem dX7_read_118 : decode cX7_read 118 = .ok (.getfield 38, 3) := by decide +kernel
theorem dX7_read_121 : decode cX7_read 121 = .ok (.iload_n 1, 1) := by decide +kernel
theorem dX7_read_122 : decode cX7_read 122 = .ok (.iaload, 1) := by decide +kernel
theorem dX7_read_123 : decode cX7_read 123 = .ok (.iload_n 2, 1) := by decide +kernel
theorem dX7_read_124 : decode cX7_read 124 = .ok (.if_icmp .eq 7, 3) := by decide +kernel
theorem dX7_read_127 : decode cX7_read 127 = .ok (.iconst 3, 1) := by decide +kernel
theorem dX7_read_128 : decode cX7_read 128 = .ok (.goto 28, 3) := by decide +kernel
theorem dX7_read_131 : decode cX7_read 131 = .ok (.lload 9, 2) := by decide +kernel
theorem dX7_read_133 : decode cX7_read 133 = .ok (.lconst 0, 1) := by decide +kernel
theorem dX7_read_134 : decode cX7_read 134 = .ok (.lcmp, 1) := by decide +kernel
theorem dX7_read_135 : decode cX7_read 135 = .ok (.ifCond .lt 16, 3) := by decide +kernel
theorem dX7_read_138 : decode cX7_read 138 = .ok (.lload 9, 2) := by decide +kernel
theorem dX7_read_140 : decode cX7_read 140 = .ok (.aload_n 0, 1) := by decide +kernel
theorem dX7_read_141 : decode cX7_read 141 = .ok (.getfield 41, 3) := by decide +kernel
theorem dX7_read_144 : decode cX7_read 144 = .ok (.iload_n 1, 1) := by decide +kernel
theorem dX7_read_145 : decode cX7_read 145 = .ok (.iaload, 1) := by decide +kernel
theorem dX7_read_146 : decode cX7_read 146 = .ok (.i2l, 1) := by decide +kernel
theorem dX7_read_147 : decode cX7_read 147 = .ok (.lcmp, 1) := by decide +kernel
theorem dX7_read_148 : decode cX7_read 148 = .ok (.ifCond .lt 7, 3) := by decide +kernel
theorem dX7_read_151 : decode cX7_read 151 = .ok (.iconst 2, 1) := by decide +kernel
theorem dX7_read_152 : decode cX7_read 152 = .ok (.goto 4, 3) := by decide +kernel
theorem dX7_read_155 : decode cX7_read 155 = .ok (.iconst 0, 1) := by decide +kernel
theorem dX7_read_156 : decode cX7_read 156 = .ok (.istore 5, 2) := by decide +kernel
theorem dX7_read_158 : decode cX7_read 158 = .ok (.iinc 8 1, 3) := by decide +kernel
theorem dX7_read_161 : decode cX7_read 161 = .ok (.goto (-84), 3) := by decide +kernel
theorem dX7_read_164 : decode cX7_read 164 = .ok (.iload 5, 2) := by decide +kernel
theorem dX7_read_166 : decode cX7_read 166 = .ok (.ifCond .ne 80, 3) := by decide +kernel
theorem dX7_read_169 : decode cX7_read 169 = .ok (.bipush 40, 2) := by decide +kernel
theorem dX7_read_171 : decode cX7_read 171 = .ok (.iload_n 1, 1) := by decide +kernel
theorem dX7_read_172 : decode cX7_read 172 = .ok (.imul, 1) := by decide +kernel
theorem dX7_read_173 : decode cX7_read 173 = .ok (.iload_n 3, 1) := by decide +kernel
theorem dX7_read_174 : decode cX7_read 174 = .ok (.iadd, 1) := by decide +kernel
theorem dX7_read_175 : decode cX7_read 175 = .ok (.iconst 2, 1) := by decide +kernel
theorem dX7_read_176 : decode cX7_read 176 = .ok (.iload 7, 2) := by decide +kernel
theorem dX7_read_178 : decode cX7_read 178 = .ok (.imul, 1) := by decide +kernel
theorem dX7_read_179 : decode cX7_read 179 = .ok (.iadd, 1) := by decide +kernel
theorem dX7_read_180 : decode cX7_read 180 = .ok (.istore 8, 2) := by decide +kernel
theorem dX7_read_182 : decode cX7_read 182 = .ok (.aload_n 0, 1) := by decide +kernel
theorem dX7_read_183 : decode cX7_read 183 = .ok (.aload_n 0, 1) := by decide +kernel
theorem dX7_read_184 : decode cX7_read 184 = .ok (.getfield 44, 3) := by decide +kernel
theorem dX7_read_187 : decode cX7_read 187 = .ok (.iload 8, 2) := by decide +kernel
theorem dX7_read_189 : decode cX7_read 189 = .ok (.iaload, 1) := by decide +kernel
theorem dX7_read_190 : decode cX7_read 190 = .ok (.iconst 2, 1) := by decide +kernel
theorem dX7_read_191 : decode cX7_read 191 = .ok (.aload_n 0, 1) := by decide +kernel
theorem dX7_read_192 : decode cX7_read 192 = .ok (.getfield 44, 3) := by decide +kernel
theorem dX7_read_195 : decode cX7_read 195 = .ok (.iload 8, 2) := by decide +kernel
theorem dX7_read_197 : decode cX7_read 197 = .ok (.iconst 1, 1) := by decide +kernel
theorem dX7_read_198 : decode cX7_read 198 = .ok (.iadd, 1) := by decide +kernel
theorem dX7_read_199 : decode cX7_read 199 = .ok (.iaload, 1) := by decide +kernel
theorem dX7_read_200 : decode cX7_read 200 = .ok (.invokevirtual 331, 3) := by decide +kernel
theorem dX7_read_203 : decode cX7_read 203 = .ok (.iconst (-1), 1) := by decide +kernel
theorem dX7_read_204 : decode cX7_read 204 = .ok (.if_icmp .ne 39, 3) := by decide +kernel
theorem dX7_read_207 : decode cX7_read 207 = .ok (.iconst 0, 1) := by decide +kernel
theorem dX7_read_208 : decode cX7_read 208 = .ok (.istore 9, 2) := by decide +kernel
theorem dX7_read_210 : decode cX7_read 210 = .ok (.iload 9, 2) := by decide +kernel
theorem dX7_read_212 : decode cX7_read 212 = .ok (.bipush 55, 2) := by decide +kernel
theorem dX7_read_214 : decode cX7_read 214 = .ok (.if_icmp .ge 23, 3) := by decide +kernel
theorem dX7_read_217 : decode cX7_read 217 = .ok (.aload_n 0, 1) := by decide +kernel
theorem dX7_read_218 : decode cX7_read 218 = .ok (.getfield 7, 3) := by decide +kernel
theorem dX7_read_221 : decode cX7_read 221 = .ok (.iload 9, 2) := by decide +kernel
theorem dX7_read_223 : decode cX7_read 223 = .ok (.aload_n 0, 1) := by decide +kernel
theorem dX7_read_224 : decode cX7_read 224 = .ok (.getfield 47, 3) := by decide +kernel
theorem dX7_read_227 : decode cX7_read 227 = .ok (.iload 9, 2) := by decide +kernel
theorem dX7_read_229 : decode cX7_read 229 = .ok (.iaload, 1) := by decide +kernel
theorem dX7_read_230 : decode cX7_read 230 = .ok (.iastore, 1) := by decide +kernel
theorem dX7_read_231 : decode cX7_read 231 = .ok (.iinc 9 1, 3) := by decide +kernel
theorem dX7_read_234 : decode cX7_read 234 = .ok (.goto (-24), 3) := by decide +kernel
theorem dX7_read_237 : decode cX7_read 237 = .ok (.bipush (-20), 2) := by decide +kernel
theorem dX7_read_239 : decode cX7_read 239 = .ok (.iload 7, 2) := by decide +kernel
theorem dX7_read_241 : decode cX7_read 241 = .ok (.isub, 1) := by decide +kernel
theorem dX7_read_242 : decode cX7_read 242 = .ok (.ireturn, 1) := by decide +kernel
theorem dX7_read_243 : decode cX7_read 243 = .ok (.iinc 6 1, 3) := by decide +kernel
theorem dX7_read_246 : decode cX7_read 246 = .ok (.iinc 7 1, 3) := by decide +kernel
theorem dX7_read_249 : decode cX7_read 249 = .ok (.goto (-187), 3) := by decide +kernel
theorem dX7_read_252 : decode cX7_read 252 = .ok (.aload_n 0, 1) := by decide +kernel
theorem dX7_read_253 : decode cX7_read 253 = .ok (.iload 5, 2) := by decide +kernel
theorem dX7_read_255 : decode cX7_read 255 = .ok (.putfield 335, 3) := by decide +kernel
theorem dX7_read_258 : decode cX7_read 258 = .ok (.iload 6, 2) := by decide +kernel
theorem dX7_read_260 : decode cX7_read 260 = .ok (.ireturn, 1) := by decide +kernel
theorem dX7_torn_0 : decode cX7_torn 0 = .ok (.aload_n 0, 1) := by decide +kernel
theorem dX7_torn_1 : decode cX7_torn 1 = .ok (.getfield 335, 3) := by decide +kernel
theorem dX7_torn_4 : decode cX7_torn 4 = .ok (.ireturn, 1) := by decide +kernel
theorem dX7_count_0 : decode cX7_count 0 = .ok (.aload_n 0, 1) := by decide +kernel
theorem dX7_count_1 : decode cX7_count 1 = .ok (.invokevirtual 228, 3) := by decide +kernel
theorem dX7_count_4 : decode cX7_count 4 = .ok (.iload_n 1, 1) := by decide +kernel
theorem dX7_count_5 : decode cX7_count 5 = .ok (.tableswitch 120 0 5 #[39, 56, 64, 84, 89, 112], 39) := by decide +kernel
theorem dX7_count_44 : decode cX7_count 44 = .ok (.aload_n 0, 1) := by decide +kernel
theorem dX7_count_45 : decode cX7_count 45 = .ok (.iconst 1, 1) := by decide +kernel
theorem dX7_count_46 : decode cX7_count 46 = .ok (.aload_n 0, 1) := by decide +kernel
theorem dX7_count_47 : decode cX7_count 47 = .ok (.getfield 69, 3) := by decide +kernel
theorem dX7_count_50 : decode cX7_count 50 = .ok (.ishl, 1) := by decide +kernel
theorem dX7_count_51 : decode cX7_count 51 = .ok (.iconst 1, 1) := by decide +kernel
theorem dX7_count_52 : decode cX7_count 52 = .ok (.isub, 1) := by decide +kernel
theorem dX7_count_53 : decode cX7_count 53 = .ok (.iconst 0, 1) := by decide +kernel
theorem dX7_count_54 : decode cX7_count 54 = .ok (.invokevirtual 188, 3) := by decide +kernel
theorem dX7_count_57 : decode cX7_count 57 = .ok (.invokestatic 195, 3) := by decide +kernel
theorem dX7_count_60 : decode cX7_count 60 = .ok (.ireturn, 1) := by decide +kernel
theorem dX7_count_61 : decode cX7_count 61 = .ok (.aload_n 0, 1) := by decide +kernel
theorem dX7_count_62 : decode cX7_count 62 = .ok (.getfield 7, 3) := by decide +kernel
theorem dX7_count_65 : decode cX7_count 65 = .ok (.bipush 42, 2) := by decide +kernel
theorem dX7_count_67 : decode cX7_count 67 = .ok (.iaload, 1) := by decide +kernel
theorem dX7_count_68 : decode cX7_count 68 = .ok (.ireturn, 1) := by decide +kernel
theorem dX7_count_69 : decode cX7_count 69 = .ok (.aload_n 0, 1) := by decide +kernel
theorem dX7_count_70 : decode cX7_count 70 = .ok (.getfield 16, 3) := by decide +kernel
theorem dX7_count_73 : decode cX7_count 73 = .ok (.iconst 0, 1) := by decide +kernel
theorem dX7_count_74 : decode cX7_count 74 = .ok (.baload, 1) := by decide +kernel
theorem dX7_count_75 : decode cX7_count 75 = .ok (.invokestatic 184, 3) := by decide +kernel
theorem dX7_count_78 : decode cX7_count 78 = .ok (.aload_n 0, 1) := by decide +kernel
theorem dX7_count_79 : decode cX7_count 79 = .ok (.getfield 16, 3) := by decide +kernel
theorem dX7_count_82 : decode cX7_count 82 = .ok (.iconst 1, 1) := by decide +kernel
theorem dX7_count_83 : decode cX7_count 83 = .ok (.baload, 1) := by decide +kernel
theorem dX7_count_84 : decode cX7_count 84 = .ok (.invokestatic 184, 3) := by decide +kernel
theorem dX7_count_87 : decode cX7_count 87 = .ok (.iadd, 1) := by decide +kernel
theorem dX7_count_88 : decode cX7_count 88 = .ok (.ireturn, 1) := by decide +kernel
theorem dX7_count_89 : decode cX7_count 89 = .ok (.aload_n 0, 1) := by decide +kernel
theorem dX7_count_90 : decode cX7_count 90 = .ok (.getfield 78, 3) := by decide +kernel
theorem dX7_count_93 : decode cX7_count 93 = .ok (.ireturn, 1) := by decide +kernel
theorem dX7_count_94 : decode cX7_count 94 = .ok (.aload_n 0, 1) := by decide +kernel
theorem dX7_count_95 : decode cX7_count 95 = .ok (.getfield 38, 3) := by decide +kernel
theorem dX7_count_98 : decode cX7_count 98 = .ok (.iconst 0, 1) := by decide +kernel
theorem dX7_count_99 : decode cX7_count 99 = .ok (.iaload, 1) := by decide +kernel
theorem dX7_count_100 : decode cX7_count 100 = .ok (.bipush (-4), 2) := by decide +kernel
theorem dX7_count_102 : decode cX7_count 102 = .ok (.if_icmp .ne 8, 3) := by decide +kernel
theorem dX7_count_105 : decode cX7_count 105 = .ok (.bipush (-4), 2) := by decide +kernel
theorem dX7_count_107 : decode cX7_count 107 = .ok (.goto 9, 3) := by decide +kernel
theorem dX7_count_110 : decode cX7_count 110 = .ok (.aload_n 0, 1) := by decide +kernel
theorem dX7_count_111 : decode cX7_count 111 = .ok (.getfield 41, 3) := by decide +kernel
theorem dX7_count_114 : decode cX7_count 114 = .ok (.iconst 0, 1) := by decide +kernel
theorem dX7_count_115 : decode cX7_count 115 = .ok (.iaload, 1) := by decide +kernel
theorem dX7_count_116 : decode cX7_count 116 = .ok (.ireturn, 1) := by decide +kernel
theorem dX7_count_117 : decode cX7_count 117 = .ok (.aload_n 0, 1) := by decide +kernel
theorem dX7_count_118 : decode cX7_count 118 = .ok (.invokevirtual 234, 3) := by decide +kernel
theorem dX7_count_121 : decode cX7_count 121 = .ok (.invokestatic 195, 3) := by decide +kernel
theorem dX7_count_124 : decode cX7_count 124 = .ok (.ireturn, 1) := by decide +kernel
theorem dX7_count_125 : decode cX7_count 125 = .ok (.iconst (-1), 1) := by decide +kernel
theorem dX7_count_126 : decode cX7_count 126 = .ok (.ireturn, 1) := by decide +kernel
end
section
theorem w_acN : Cond.native arraycopyName ∈ z_WS := z_w 368 (by decide +kernel) rfl
theorem w_acS : Cond.static arraycopyName ∈ z_WS := z_w 367 (by decide +kernel) rfl
theorem ml_X1_32 : Cond.methodLink RX1 32 arraycopyName ∈ z_WS := z_w 366 (by decide +kernel) rfl
theorem ml_X2_37 : Cond.methodLink RX2 37 arraycopyName ∈ z_WS := z_w 668 (by decide +kernel) rfl
theorem ml_X6_191 : Cond.methodLink RX6 191 arraycopyName ∈ z_WS := z_w 707 (by decide +kernel) rfl
end
section
/-! ===== the world: cells by number, what they hold as w cell place; references never change ===== -/
abbrev zG : Type := va_G × (Nat → Nat) × (Nat → ClassId) × Value
abbrev zW : Type := Nat → Nat → Int32
abbrev zE : Type := (FieldType × Nat × Option (List Nat)) ⊕ (Nat × List (Option Nat))
def z_shp : List zE := [
  .inr (6, [some 1, some 6, some 26, none, some 27, some 29, some 30, some 36, some 39, some 40, some 41, none]),
  .inr (1, [some 2, some 3, none, none, none, some 4, some 5]), .inl (.int, 6, none), .inl (.int, 30, none), .inl (.int, 6, none), .inl (.int, 6, none),
  .inr (1, [some 7, some 8, none, none, none, some 9, some 10]), .inl (.int, 6, none), .inl (.int, 30, none), .inl (.int, 6, none), .inl (.int, 6, none),
  .inr (1, [some 12, some 13, none, none, none, some 14, some 15]), .inl (.int, 6, none), .inl (.int, 30, none), .inl (.int, 6, none), .inl (.int, 6, none),
  .inr (1, [some 17, some 18, none, none, none, some 19, some 20]), .inl (.int, 6, none), .inl (.int, 30, none), .inl (.int, 6, none), .inl (.int, 6, none),
  .inr (1, [some 22, some 23, none, none, none, some 24, some 25]), .inl (.int, 6, none), .inl (.int, 30, none), .inl (.int, 6, none), .inl (.int, 6, none),
  .inl (.object RX1, 2, some [11, 16]),
  .inr (4, [some 28, none, none, none, none, none]), .inl (.byte, 160, none),
  .inr (5, [some 21, none, some 27, none, none]),
  .inr (0, [some 31, some 32, some 33, some 34, some 35, none, none, none, none, none, none, none, none]), .inl (.int, 6, none), .inl (.int, 6, none), .inl (.int, 6, none), .inl (.int, 6, none), .inl (.int, 6, none),
  .inr (2, [none, some 37, some 38]), .inl (.int, 6, none), .inl (.int, 6, none),
  .inl (.int, 6, none), .inl (.int, 384, none),
  .inl (.object RX3, 4, some [42, 44, 46, 48]),
  .inr (3, [some 43, none, none]), .inl (.int, 40, none),
  .inr (3, [some 45, none, none]), .inl (.int, 40, none),
  .inr (3, [some 47, none, none]), .inl (.int, 40, none),
  .inr (3, [some 49, none, none]), .inl (.int, 40, none),
  .inr (7, [some 51, some 52, some 53, none, some 54, none, none, none, none, some 55, none, none, none, none, none, none, none, none, some 56, some 57, some 58, none, none, none, none, none, some 59, some 60, some 61, some 62, none, some 63]),
  .inl (.int, 165, none), .inl (.int, 55, none), .inl (.boolean, 2, none), .inl (.int, 55, none), .inl (.int, 160, none), .inl (.int, 6, none), .inl (.int, 6, none), .inl (.int, 6, none), .inl (.int, 6, none), .inl (.int, 4, none), .inl (.int, 4, none), .inl (.int, 160, none), .inl (.int, 55, none)]
def z_cv (G : zG) (v : Value) : Value := match v with
  | .ref k => .ref (G.2.1 k)
  | .null => G.2.2.2
  | v => v
def z_fv (G : zG) (w : zW) (k i : Nat) (o : Option Nat) : Value := match o with
  | none => .int (w k i)
  | some r => .ref (G.2.1 r)
def z_ce (G : zG) (w : zW) (k : Nat) (e : zE) : va_E := match e with
  | .inl (_, n, none) => .inl (G.2.2.1 k, n, .inl (w k))
  | .inl (_, n, some rs) => .inl (G.2.2.1 k, n, .inr (.inr (.inr (.inr fun j => (rs[j]?).map G.2.1))))
  | .inr (ci, fs) => .inr (ci, fs.mapIdx fun i o => z_fv G w k i o)
def z_cw (G : zG) (w : zW) : va_W := z_shp.mapIdx fun k e => (G.2.1 k, z_ce G w k e)
theorem z_cw_at {G : zG} {w : zW} {k : Nat} {e : zE} (h : z_shp[k]? = some e) : (z_cw G w)[k]? = some (G.2.1 k, z_ce G w k e) := by
  simp only [z_cw, List.getElem?_mapIdx, h, Option.map_some]
theorem z_ce_congr {G : zG} {w w' : zW} {k : Nat} {e : zE} (h : w' k = w k) : z_ce G w' k e = z_ce G w k e := by
  unfold z_ce z_fv
  rw [h]
theorem z_cw_set {G : zG} {w w' : zW} {k : Nat} {e : zE} (h : z_shp[k]? = some e) (hw : ∀ j, j ≠ k → w' j = w j) : (z_cw G w).set k (G.2.1 k, z_ce G w' k e) = z_cw G w' := by
  apply List.ext_getElem?
  intro j
  by_cases hj : j = k
  · subst hj
    have hl : j < (z_cw G w).length := (List.getElem?_eq_some_iff.mp (z_cw_at (G := G) (w := w) h)).1
    rw [List.getElem?_set_self hl, z_cw_at h]
  · rw [List.getElem?_set_ne (Ne.symm hj)]
    simp only [z_cw, List.getElem?_mapIdx]
    cases z_shp[j]? with
    | none => rfl
    | some e' =>
      simp only [Option.map_some]
      rw [z_ce_congr (hw j hj)]
/-- one place of a cell becomes v -/
def z_up (w : zW) (k i : Nat) (v : Int32) : zW := fun a b => if a = k then (if b = i then v else w a b) else w a b
/-- a whole row becomes f -/
def z_ua (w : zW) (k : Nat) (f : Nat → Int32) : zW := fun a => if a = k then f else w a
theorem z_up_k {w : zW} {k i : Nat} {v : Int32} : z_up w k i v k = upd (w k) i v := by
  funext b
  simp [z_up, upd]
theorem z_up_o {w : zW} {k i a : Nat} {v : Int32} (h : a ≠ k) : z_up w k i v a = w a := by
  funext b
  simp [z_up, h]
theorem z_up_s {w : zW} {k i : Nat} {v : Int32} : z_up w k i v k i = v := by simp [z_up]
theorem z_up_i {w : zW} {k i b : Nat} {v : Int32} (h : b ≠ i) : z_up w k i v k b = w k b := by simp [z_up, h]
theorem z_up_a {w : zW} {k i a b : Nat} {v : Int32} (h : a ≠ k) : z_up w k i v a b = w a b := by simp [z_up, h]
theorem z_ua_k {w : zW} {k : Nat} {f : Nat → Int32} : z_ua w k f k = f := by simp [z_ua]
theorem z_ua_o {w : zW} {k a : Nat} {f : Nat → Int32} (h : a ≠ k) : z_ua w k f a = w a := by simp [z_ua, h]
theorem z_ua_up {w : zW} {k i : Nat} {v : Int32} : z_ua w k (upd (w k) i v) = z_up w k i v := by
  funext a
  by_cases h : a = k
  · subst h
    rw [z_ua_k, z_up_k]
  · rw [z_ua_o h, z_up_o h]
theorem z_D_w {G : zG} {w w' : zW} {A : Nat → Prop} (h : va_D A (z_cw G w)) : va_D A (z_cw G w') := by
  have key : ∀ (k : Nat) (q : Nat × va_E), (z_cw G w')[k]? = some q → ∃ q0, (z_cw G w)[k]? = some q0 ∧ q0.1 = q.1 := by
    intro k q hk
    simp only [z_cw, List.getElem?_mapIdx] at hk
    cases hs : z_shp[k]? with
    | none => rw [hs] at hk; cases hk
    | some e =>
      rw [hs] at hk
      cases hk
      exact ⟨_, z_cw_at hs, rfl⟩
  refine ⟨fun i j x y hi hj hxy => ?_, fun k q hk => ?_⟩
  · obtain ⟨x0, h1, h2⟩ := key i x hi
    obtain ⟨y0, h3, h4⟩ := key j y hj
    exact h.1 i j x0 y0 h1 h3 (h2.trans (hxy.trans h4.symm))
  · obtain ⟨q0, h1, h2⟩ := key k q hk
    rw [← h2]
    exact h.2 k q0 h1
theorem z_A_w {G : zG} {w w' : zW} {sz q : Nat} (h : va_A (z_cw G w) sz q) : va_A (z_cw G w') sz q := by
  rcases h with ⟨k, e, h⟩ | h
  · simp only [z_cw, List.getElem?_mapIdx] at h
    cases hs : z_shp[k]? with
    | none => rw [hs] at h; cases h
    | some e' =>
      rw [hs] at h
      cases h
      exact Or.inl ⟨k, _, z_cw_at hs⟩
  · exact Or.inr h
theorem z_cat {G : zG} (hf : G.2.2.2.category = 1) (v : Value) : (z_cv G v).category = v.category := by
  cases v <;> first | rfl | exact hf
theorem z_cats {G : zG} (hf : G.2.2.2.category = 1) (st : List Value) : ((st.map (z_cv G)).map fun v => v.category).sum = (st.map fun v => v.category).sum := by
  congr 1
  rw [List.map_map]
  apply List.map_congr_left
  intro v _
  exact z_cat hf v
/-! ===== what the tables say ===== -/
def z_K (G : zG) (U : State) : Prop := va_K G.1 vwCl [] U ∧ (∀ (k : Nat) (ty : FieldType) (n : Nat) (r : Option (List Nat)), z_shp[k]? = some (.inl (ty, n, r)) → ArrOfT U (G.2.2.1 k) ty ∧ va_RA U (G.2.2.1 k) ty) ∧ G.2.2.2.category = 1
theorem z_K.moved {G : zG} {u U : State} (hvm : u.vm.Alike U.vm) (h : z_K G u) : z_K G U := ⟨va_K.moved hvm h.1, fun k ty n r hs => ⟨arrOfT_moved hvm (h.2.1 k ty n r hs).1, (h.2.1 k ty n r hs).2.moved hvm⟩, h.2.2⟩
theorem z_K.one {G : zG} {U : State} {k n : Nat} {ty : FieldType} {r : Option (List Nat)} (h : z_K G U) (hs : z_shp[k]? = some (.inl (ty, n, r))) : va_K G.1 vwCl [(G.2.2.1 k, ty)] U :=
  ⟨h.1.1, fun j q hq => by
    cases j with
    | zero => cases hq; exact h.2.1 k ty n r hs
    | succ j => simp at hq⟩
theorem z_K.two {G : zG} {U : State} {k k' n n' : Nat} {ty ty' : FieldType} {r r' : Option (List Nat)} (h : z_K G U) (hs : z_shp[k]? = some (.inl (ty, n, r))) (hs' : z_shp[k']? = some (.inl (ty', n', r'))) : va_K G.1 vwCl [(G.2.2.1 k, ty), (G.2.2.1 k', ty')] U :=
  (h.one hs).app (h.one hs')
def z_nst : List Cond := [.fieldLinkNest RX1 9 RX6 "RULE_AT_FIRST" "[I" RX6, .fieldLinkNest RX5 114 RX6 "MARK_MOST" "[I" RX6, .fieldLinkNest RX5 131 RX6 "RULE_LEAST" "[I" RX6, .fieldLinkNest RX5 134 RX6 "RULE_MOST" "[I" RX6, .methodLinkNest RX5 147 yX6_within RX6, .methodLinkNest RX0 118 yX6_otherSide RX6, .methodLinkNest RX0 121 yX6_within RX6, .methodLinkNest RX2 52 yX6_otherSide RX6, .methodLinkNest RX3 19 yX6_within RX6]
def z_six : List Nat := [63, 76, 78, 83, 91, 96, 98, 123, 125, 127, 129, 137, 139, 141, 143, 145]
def z_stx : List String := ["above", "below", "liar", "lock", "law", "post", "hand", "mail", "fish", "beer", "coal", "gate", "ready", "twos", "cargo", "queue"]
def z_sby : List (List Int32) := [[97, 98, 111, 118, 101], [98, 101, 108, 111, 119], [108, 105, 97, 114], [108, 111, 99, 107], [108, 97, 119], [112, 111, 115, 116], [104, 97, 110, 100], [109, 97, 105, 108], [102, 105, 115, 104], [98, 101, 101, 114], [99, 111, 97, 108], [103, 97, 116, 101], [114, 101, 97, 100, 121], [116, 119, 111, 115], [99, 97, 114, 103, 111], [113, 117, 101, 117, 101]]
def z_sln : List Nat := [5, 5, 4, 4, 3, 4, 4, 4, 4, 4, 4, 4, 5, 4, 5, 5]
def z_snm : List String := ["RULE_LEAST", "RULE_MOST", "RULE_AT_FIRST", "MARK_MOST"]
def z_sar : List (List Int32) := [[1, 0, 0, 0, 0, 0], [9, 9, 1, 4, 9, 1], [5, 2, 0, 0, 0, 0], [1, 3, 99, 9, 9]]
def z_N (G : zG) (U : State) : Prop := (∀ w ∈ z_nst, va_Nw w U) ∧ ∀ i, i < 16 → vk_R RX5 (z_six.getD i 0) (z_stx.getD i "") (G.2.1 (200 + i)) U
theorem z_N.warm {G : zG} {s U : State} (hW : s.WarmedH U.vm) (h : z_N G s) : z_N G U := by
  refine ⟨fun w hw => ?_, fun i hi => vk_R.warm hW (h.2 i hi)⟩
  have h0 := h.1 w hw
  simp only [z_nst, List.mem_cons, List.mem_nil_iff, or_false] at hw
  rcases hw with rfl | rfl | rfl | rfl | rfl | rfl | rfl | rfl | rfl
  · exact va_Nw.warmF hW h0
  · exact va_Nw.warmF hW h0
  · exact va_Nw.warmF hW h0
  · exact va_Nw.warmF hW h0
  · exact va_Nw.warmM hW h0
  · exact va_Nw.warmM hW h0
  · exact va_Nw.warmM hW h0
  · exact va_Nw.warmM hW h0
  · exact va_Nw.warmM hW h0
theorem z_N.same {G : zG} {u U : State} (hv : u.vm = U.vm) (h : z_N G u) : z_N G U := by
  refine ⟨fun w hw => ?_, fun i hi => vk_R.same hv.symm (h.2 i hi)⟩
  have h0 := h.1 w hw
  simp only [z_nst, List.mem_cons, List.mem_nil_iff, or_false] at hw
  rcases hw with rfl | rfl | rfl | rfl | rfl | rfl | rfl | rfl | rfl <;> exact va_Nw.same rfl hv h0
def z_S (G : zG) (A : Nat → Prop) (U : State) (H : Heap) : Prop :=
  (∀ j, j < 4 → va_Z RX6 (z_snm.getD j "") "[I" (.ref (G.2.1 (100 + j))) A U H ∧ va_X (G.2.1 (100 + j)) ((z_sar.getD j []).length) (fun i => (z_sar.getD j []).getD i 0) U H ∧ G.2.1 (100 + j) < H.size ∧ ¬ A (G.2.1 (100 + j))) ∧
  vk_S 16 z_sln z_sby (fun i => G.2.1 (200 + i)) (fun i => G.2.1 (300 + i)) A U H ∧
  va_Z "java/lang/String" "COMPACT_STRINGS" "Z" (.int 1) A U H ∧ va_Z "jdk/internal/util/Preconditions" "SIOOBE_FORMATTER" "Ljava/util/function/BiFunction;" G.2.2.2 A U H
theorem z_S.moved {G : zG} {A : Nat → Prop} {u U : State} {H : Heap} (hvm : u.vm.Alike U.vm) (h : z_S G A u H) : z_S G A U H :=
  ⟨fun j hj => ⟨(h.1 j hj).1.moved hvm, (h.1 j hj).2.1.moved hvm, (h.1 j hj).2.2⟩, h.2.1.moved hvm, h.2.2.1.moved hvm, h.2.2.2.moved hvm⟩
theorem z_S.kept {G : zG} {A : Nat → Prop} {U : State} {H H1 : Heap} (h : z_S G A U H) (hz : H.size ≤ H1.size) (hq : ∀ a : Nat, a < H.size → ¬ A a → H1[a]? = H[a]?) : z_S G A U H1 :=
  ⟨fun j hj => ⟨(h.1 j hj).1.kept hq, (h.1 j hj).2.1.kept (hq _ (h.1 j hj).2.2.1 (h.1 j hj).2.2.2), Nat.lt_of_lt_of_le (h.1 j hj).2.2.1 hz, (h.1 j hj).2.2.2⟩, h.2.1.kept hq, h.2.2.1.kept hq, h.2.2.2.kept hq⟩
theorem z_S.narrow {G : zG} {A B : Nat → Prop} {U : State} {H : Heap} (h : z_S G A U H) (hAB : ∀ q, B q → A q) : z_S G B U H :=
  ⟨fun j hj => ⟨(h.1 j hj).1.narrow hAB, (h.1 j hj).2.1, (h.1 j hj).2.2.1, fun z => (h.1 j hj).2.2.2 (hAB _ z)⟩, h.2.1.narrow hAB, h.2.2.1.narrow hAB, h.2.2.2.narrow hAB⟩
/-! ===== a frame ===== -/
abbrev zX : Type := Program × Launch × Env × Room × State × MethodId × Array Value × List Frame × Method × Code × (Nat × Nat) × (State → Prop) × zG × (Nat → Prop)
abbrev x_p (X : zX) : Program := X.1
abbrev x_l (X : zX) : Launch := X.2.1
abbrev x_e (X : zX) : Env := X.2.2.1
abbrev x_R (X : zX) : Room := X.2.2.2.1
abbrev x_s (X : zX) : State := X.2.2.2.2.1
abbrev x_m (X : zX) : MethodId := X.2.2.2.2.2.1
abbrev x_a (X : zX) : Array Value := X.2.2.2.2.2.2.1
abbrev x_b (X : zX) : List Frame := X.2.2.2.2.2.2.2.1
abbrev x_h (X : zX) : Method := X.2.2.2.2.2.2.2.2.1
abbrev x_c (X : zX) : Code := X.2.2.2.2.2.2.2.2.2.1
abbrev x_n (X : zX) : Nat × Nat := X.2.2.2.2.2.2.2.2.2.2.1
abbrev x_Q (X : zX) : State → Prop := X.2.2.2.2.2.2.2.2.2.2.2.1
abbrev x_G (X : zX) : zG := X.2.2.2.2.2.2.2.2.2.2.2.2.1
abbrev x_A (X : zX) : Nat → Prop := X.2.2.2.2.2.2.2.2.2.2.2.2.2
abbrev x_W (X : zX) (H : Heap) (locs : List Loc) (g : JFrame) : Prop := W (x_p X) (x_l X) (x_e X) (x_R X) (x_s X) (x_m X) (x_a X) (x_b X) (x_h X) (x_c X) H locs (x_n X).1 (x_n X).2 (x_Q X) g
def zOk (X : zX) (y : zM) (d : Nat) : Prop :=
  (x_p X).tables.exec = Jvm.exec ∧ (x_c X).code = y.2.1 ∧ (x_c X).maxLocals = y.2.2.1 ∧ (x_h X).sig.returnType = y.2.2.2 ∧ (x_h X).locks = false ∧
  (∀ w ∈ z_WS, w.before (x_a X) (x_s X) = true) ∧ (x_s X).vm.findClass y.1.cls = some (x_m X).cls ∧ (d ≤ (x_R X).frames ∧ 64 * d ≤ (x_R X).locals ∧ (x_n X).1 ≤ (x_R X).cells ∧ (x_n X).2 ≤ (x_R X).slots) ∧
  z_K (x_G X) (x_s X) ∧ z_N (x_G X) (x_s X) ∧ z_S (x_G X) (x_A X) (x_s X) (x_s X).heap ∧ ∀ q, (x_s X).heap.size ≤ q → x_A X q
/-- the locals -/
def z_lv (G : zG) (ls : Array Slot) (n : Nat) (L : List (Option Value)) : Prop := ls.size = n ∧ lv_wf ls ∧ ∀ (i : Nat) (v : Value), L[i]? = some (some v) → ls[i]? = some (.val (z_cv G v))
def zDy (X : zX) (y : zM) (L : List (Option Value)) (w : zW) (H : Heap) (locs : List Loc) (ls : Array Slot) : Prop :=
  va_P (x_G X).1 vwCl (z_cw (x_G X) w) H ∧ va_D (x_A X) (z_cw (x_G X) w) ∧ va_S (x_A X) (x_s X).heap H locs ∧ z_lv (x_G X) ls y.2.2.1 L
/-- from this frame the machine comes to what T asks -/
def WP (y : zM) (d : Nat) (T : zX → Prop) (pc : Nat) (L : List (Option Value)) (st : List Value) (w : zW) : Prop :=
  ∀ X, zOk X y d → T X → ∀ H locs ls, zDy X y L w H locs ls → x_W X H locs (F0 (x_m X) pc ls (st.map (z_cv (x_G X))))
/-! ===== contracts ===== -/
def z_wsm (y : zM) : List Cond := .code y.1 y.2.1 y.2.2.1 y.2.2.2 :: z_WS
def z_rm (d : Nat) : Room := { frames := d, cells := 0, slots := 0, locals := 64 * d }
def z_QC (G : zG) (A : Nat → Prop) (Q : Option Value → zW → Prop) : Array Value → State → Outcome → State → Prop := fun _ st o t =>
  (∃ (r : Option Value) (w : zW), o = .returned (r.map (z_cv G)) ∧ Q r w ∧ va_P G.1 vwCl (z_cw G w) t.heap) ∧ va_F A st t
def z_Pc (G : zG) (as : List Value) (w : zW) (sz : Nat) : Array Value → State → Prop := va_Pc (as.map (z_cv G)) (fun U => U.heap.size = sz ∧ va_P G.1 vwCl (z_cw G w) U.heap ∧ va_D (fun _ => True) (z_cw G w) ∧ z_K G U ∧ z_N G U ∧ z_S G (va_A (z_cw G w) sz) U U.heap)
def CT (y : zM) (d : Nat) (as : List Value) (w : zW) (Q : Option Value → zW → Prop) : Prop := ∀ (l : Launch) (G : zG) (sz : Nat), Met l y.1 (z_wsm y) (z_rm d) (z_Pc G as w sz) (z_QC G (va_A (z_cw G w) sz) Q) 0 0 (va_A (z_cw G w) sz)
def z_T (Q : Option Value → zW → Prop) : zX → Prop := fun X => x_Q X = MQ (x_b X) (z_QC (x_G X) (x_A X) Q) (x_a X) (x_s X) (x_n X).1 (x_n X).2 (x_A X)
/-- answers of an int (or less), a long, nothing -/
def z_i (P : Int32 → zW → Prop) : Option Value → zW → Prop := fun r w => ∃ x, r = some (.int x) ∧ P x w
def z_l (P : Int64 → zW → Prop) : Option Value → zW → Prop := fun r w => ∃ x, r = some (.long x) ∧ P x w
def z_v (P : zW → Prop) : Option Value → zW → Prop := fun r w => r = none ∧ P w
/-- the locals at the start -/
def z_en : List Value → List (Option Value)
  | [] => []
  | v :: vs => if v.category = 2 then some v :: none :: z_en vs else some v :: z_en vs
theorem z_en_len {G : zG} (hf : G.2.2.2.category = 1) : ∀ as : List Value, (lg_sl (as.map (z_cv G))).length = (z_en as).length
  | [] => rfl
  | v :: vs => by
    have ih := z_en_len hf vs
    have hc := z_cat hf v
    by_cases h : v.category = 2
    · simp only [List.map_cons, z_en, if_pos h, List.length_cons]
      simp only [lg_sl, List.flatMap_cons, List.length_append, if_pos (hc.trans h), List.length_cons, List.length_nil] at ih ⊢
      omega
    · simp only [List.map_cons, z_en, if_neg h, List.length_cons]
      simp only [lg_sl, List.flatMap_cons, List.length_append, if_neg (fun z => h (hc ▸ z)), List.length_cons, List.length_nil] at ih ⊢
      omega
theorem z_en_at {G : zG} (hf : G.2.2.2.category = 1) : ∀ (as : List Value) (o i : Nat) (v : Value), (z_en as)[i]? = some (some v) → (o + i, z_cv G v) ∈ lv_args o (as.map (z_cv G))
  | [], o, i, v, h => by simp [z_en] at h
  | a :: as, o, i, v, h => by
    have hc := z_cat hf a
    by_cases h2 : a.category = 2
    · simp only [z_en, if_pos h2] at h
      simp only [List.map_cons, lv_args, if_pos (hc.trans h2)]
      match i, h with
      | 0, h => cases h; exact List.mem_cons_self
      | 1, h => cases h
      | i + 2, h =>
        have := z_en_at hf as (o + 2) i v h
        exact List.mem_cons_of_mem _ (by rw [show o + (i + 2) = o + 2 + i by omega]; exact this)
    · simp only [z_en, if_neg h2] at h
      simp only [List.map_cons, lv_args, if_neg (fun z => h2 (hc ▸ z))]
      match i, h with
      | 0, h => cases h; exact List.mem_cons_self
      | i + 1, h =>
        have := z_en_at hf as (o + 1) i v h
        exact List.mem_cons_of_mem _ (by rw [show o + (i + 1) = o + 1 + i by omega]; exact this)
/-- what is plain of a method's name -/
def z_pl (y : zM) : Bool := plainName y.1.cls
set_option maxHeartbeats 4000000 in
theorem CT.of {y : zM} {d : Nat} {as : List Value} {w : zW} {Q : Option Value → zW → Prop} (L : List (Option Value)) (hy : z_pl y = true) (hl : (z_en as).length ≤ y.2.2.1) (hL : z_en as ++ List.replicate (y.2.2.1 - (z_en as).length) none = L) (h : WP y d (z_T Q) 0 L [] w) : CT y d as w Q := by
  intro l G sz
  refine Met.ofW (cc := y.2.1) (maxL := y.2.2.1) (ret := y.2.2.2) hy rfl ?_
  intro p e s m args below meth c s₁ B hml hv
  obtain ⟨rfl, hsz, hP, hD, hK, hN, hS⟩ := hv
  have hts := atoms_spec (ws := z_wsm y) B.pre
  have hlen := z_en_len hK.2.2 as
  have hl0 := lv_entry (as.map (z_cv G)) (n := y.2.2.1) (by rw [hlen]; exact hl)
  rw [lg_entry_eq]
  generalize (lg_sl (as.map (z_cv G)) ++ List.replicate (y.2.2.1 - (lg_sl (as.map (z_cv G))).length) Slot.unset).toArray = ls at hl0 ⊢
  subst hsz
  refine h (p, l, e, z_rm d, s, m, (as.map (z_cv G)).toArray, below, meth, c, (0, 0), MQ below (z_QC G (va_A (z_cw G w) s.heap.size) Q) (as.map (z_cv G)).toArray s 0 0 (va_A (z_cw G w) s.heap.size), G, va_A (z_cw G w) s.heap.size) ⟨B.exec, B.bytes, hml, B.returns, B.notSynchronized, fun q hq => hts q (List.mem_cons_of_mem _ hq), findClass_of_methodNamed B.named, ⟨Nat.le_refl _, Nat.le_refl _, Nat.le_refl _, Nat.le_refl _⟩, hK, hN, hS, fun q hq => Or.inr hq⟩ rfl s.heap [] ls ⟨hP, hD.self, va_S.rf, hl0.1, hl0.2.1, fun i v hv => ?_⟩
  subst hL
  rcases Nat.lt_or_ge i (z_en as).length with hi | hi
  · rw [List.getElem?_append_left hi] at hv
    have := z_en_at hK.2.2 as 0 i v hv
    rw [Nat.zero_add] at this
    exact hl0.2.2 _ this
  · rw [List.getElem?_append_right hi] at hv
    have := List.eq_of_mem_replicate (List.mem_of_getElem? hv)
    cases this
end
section
/-! ===== a row an instruction ===== -/
theorem zOk.exec {X : zX} {y : zM} {d : Nat} (h : zOk X y d) : (x_p X).tables.exec = Jvm.exec := h.1
theorem zOk.code {X : zX} {y : zM} {d : Nat} (h : zOk X y d) : (x_c X).code = y.2.1 := h.2.1
theorem zOk.maxL {X : zX} {y : zM} {d : Nat} (h : zOk X y d) : (x_c X).maxLocals = y.2.2.1 := h.2.2.1
theorem zOk.ret {X : zX} {y : zM} {d : Nat} (h : zOk X y d) : (x_h X).sig.returnType = y.2.2.2 := h.2.2.2.1
theorem zOk.locks {X : zX} {y : zM} {d : Nat} (h : zOk X y d) : (x_h X).locks = false := h.2.2.2.2.1
theorem zOk.words {X : zX} {y : zM} {d : Nat} (h : zOk X y d) : ∀ w ∈ z_WS, w.before (x_a X) (x_s X) = true := h.2.2.2.2.2.1
theorem zOk.own {X : zX} {y : zM} {d : Nat} (h : zOk X y d) : (x_s X).vm.findClass y.1.cls = some (x_m X).cls := h.2.2.2.2.2.2.1
theorem zOk.room {X : zX} {y : zM} {d : Nat} (h : zOk X y d) : d ≤ (x_R X).frames ∧ 64 * d ≤ (x_R X).locals ∧ (x_n X).1 ≤ (x_R X).cells ∧ (x_n X).2 ≤ (x_R X).slots := h.2.2.2.2.2.2.2.1
theorem zOk.K {X : zX} {y : zM} {d : Nat} (h : zOk X y d) : z_K (x_G X) (x_s X) := h.2.2.2.2.2.2.2.2.1
theorem zOk.N {X : zX} {y : zM} {d : Nat} (h : zOk X y d) : z_N (x_G X) (x_s X) := h.2.2.2.2.2.2.2.2.2.1
theorem zOk.S {X : zX} {y : zM} {d : Nat} (h : zOk X y d) : z_S (x_G X) (x_A X) (x_s X) (x_s X).heap := h.2.2.2.2.2.2.2.2.2.2.1
theorem zOk.A {X : zX} {y : zM} {d : Nat} (h : zOk X y d) : ∀ q, (x_s X).heap.size ≤ q → x_A X q := h.2.2.2.2.2.2.2.2.2.2.2
/-- no long ends at this place -/
def z_nl (L : List (Option Value)) (i : Nat) : Bool := match i with
  | 0 => true
  | j + 1 => match L[j]? with
    | some (some v) => v.category == 1
    | _ => true
def z_al (G : zG) (L : List (Option Value)) : List (Nat × Value) := L.zipIdx.filterMap (fun q => q.1.map fun v => (q.2, z_cv G v))
theorem z_al_mem {G : zG} {L : List (Option Value)} {i : Nat} {u : Value} : (i, u) ∈ z_al G L ↔ ∃ v, L[i]? = some (some v) ∧ u = z_cv G v := by
  unfold z_al
  rw [List.mem_filterMap]
  constructor
  · rintro ⟨⟨o, j⟩, h1, h2⟩
    have h3 := List.mem_zipIdx_iff_getElem?.mp h1
    cases o with
    | none => cases h2
    | some v => cases h2; exact ⟨v, h3, rfl⟩
  · rintro ⟨v, h1, rfl⟩
    exact ⟨(some v, i), List.mem_zipIdx_iff_getElem?.mpr h1, rfl⟩
theorem z_lv.has {G : zG} {ls : Array Slot} {n : Nat} {L : List (Option Value)} (h : z_lv G ls n L) : lv_has ls n (z_al G L) := by
  refine ⟨h.1, h.2.1, fun q hq => ?_⟩
  obtain ⟨i, u⟩ := q
  obtain ⟨v, h1, rfl⟩ := z_al_mem.mp hq
  exact h.2.2 i v h1
theorem z_lv.set1 {G : zG} (hf : G.2.2.2.category = 1) {ls' : Array Slot} {n i : Nat} {L : List (Option Value)} {v : Value} (hn : z_nl L i = true) (h : lv_has ls' n ((i, z_cv G v) :: (z_al G L).filter (fun q => !(q.1 == i) && !(q.1 + 1 == i && q.2.category == 2)))) : z_lv G ls' n (L.set i (some v)) := by
  refine ⟨h.1, h.2.1, fun j u hj => ?_⟩
  by_cases hji : j = i
  · subst hji
    by_cases hl : j < L.length
    · rw [List.getElem?_set_self hl] at hj
      cases hj
      exact h.2.2 _ List.mem_cons_self
    · rw [List.getElem?_eq_none (by rw [List.length_set]; omega)] at hj
      cases hj
  · rw [List.getElem?_set_ne (Ne.symm hji)] at hj
    refine h.2.2 (j, z_cv G u) (List.mem_cons_of_mem _ (List.mem_filter.mpr ⟨z_al_mem.mpr ⟨u, hj, rfl⟩, ?_⟩))
    have h1 : (j == i) = false := by simp [hji]
    by_cases h2 : j + 1 = i
    · subst h2
      simp only [z_nl, hj] at hn
      have h3 : u.category = 1 := by simpa using hn
      simp [h1, z_cat hf, h3]
    · simp [h1, h2]
theorem z_lv.set2 {G : zG} (hf : G.2.2.2.category = 1) {ls' : Array Slot} {n i : Nat} {L : List (Option Value)} {v : Value} (hn : z_nl L i = true) (h : lv_has ls' n ((i, z_cv G v) :: (z_al G L).filter (fun q => !(q.1 == i) && (!(q.1 == i + 1) && !(q.1 + 1 == i && q.2.category == 2))))) : z_lv G ls' n ((L.set i (some v)).set (i + 1) none) := by
  refine ⟨h.1, h.2.1, fun j u hj => ?_⟩
  by_cases hj1 : j = i + 1
  · subst hj1
    by_cases hl : i + 1 < (L.set i (some v)).length
    · rw [List.getElem?_set_self hl] at hj
      cases hj
    · rw [List.getElem?_eq_none (by rw [List.length_set]; omega)] at hj
      cases hj
  · rw [List.getElem?_set_ne (Ne.symm hj1)] at hj
    by_cases hji : j = i
    · subst hji
      by_cases hl : j < L.length
      · rw [List.getElem?_set_self hl] at hj
        cases hj
        exact h.2.2 _ List.mem_cons_self
      · rw [List.getElem?_eq_none (by rw [List.length_set]; omega)] at hj
        cases hj
    · rw [List.getElem?_set_ne (Ne.symm hji)] at hj
      refine h.2.2 (j, z_cv G u) (List.mem_cons_of_mem _ (List.mem_filter.mpr ⟨z_al_mem.mpr ⟨u, hj, rfl⟩, ?_⟩))
      have h1 : (j == i) = false := by simp [hji]
      have h1' : (j == i + 1) = false := by simp [hj1]
      by_cases h2 : j + 1 = i
      · subst h2
        simp only [z_nl, hj] at hn
        have h3 : u.category = 1 := by simpa using hn
        simp [z_cat hf, h3]
        omega
      · simp [h1, h1', h2]
section ROWS
variable {y : zM} {d : Nat} {T : zX → Prop} {pc : Nat} {L : List (Option Value)} {st : List Value} {w : zW}

theorem r_iconst {z : Int} {v : Int32} (n : Nat) (hd : decode y.2.1 pc = .ok (.iconst z, 1)) (hv : Int32.ofInt z = v) (hn : pc + 1 = n) (k : WP y d T n L (.int v :: st) w) : WP y d T pc L (st) w := by
  subst hn
  exact fun X h hT H locs ls hD => lv_iconst h.exec h.code hd hv (k X h hT H locs ls hD)
theorem r_bipush {z : Int} {v : Int32} (n : Nat) (hd : decode y.2.1 pc = .ok (.bipush z, 2)) (hv : (Int8.ofInt z).toInt32 = v) (hn : pc + 2 = n) (k : WP y d T n L (.int v :: st) w) : WP y d T pc L (st) w := by
  subst hn
  exact fun X h hT H locs ls hD => lv_bipush h.exec h.code hd hv (k X h hT H locs ls hD)
theorem r_sipush {z : Int} {v : Int32} (n : Nat) (hd : decode y.2.1 pc = .ok (.sipush z, 3)) (hv : (Int16.ofInt z).toInt32 = v) (hn : pc + 3 = n) (k : WP y d T n L (.int v :: st) w) : WP y d T pc L (st) w := by
  subst hn
  exact fun X h hT H locs ls hD => lv_sipush h.exec h.code hd hv (k X h hT H locs ls hD)
theorem r_lconst {z : Fin 2} {v : Int64} (n : Nat) (hd : decode y.2.1 pc = .ok (.lconst z, 1)) (hv : Int64.ofNat (z : Nat) = v) (hn : pc + 1 = n) (k : WP y d T n L (.long v :: st) w) : WP y d T pc L (st) w := by
  subst hn
  exact fun X h hT H locs ls hD => lv_lconst h.exec h.code hd hv (k X h hT H locs ls hD)
theorem r_iload_n {k : Fin 4} {x : Int32} (n : Nat) (hd : decode y.2.1 pc = .ok (.iload_n k, 1)) (hl : L[(k : Nat)]? = some (some (.int x))) (hn : pc + 1 = n) (kk : WP y d T n L (.int x :: st) w) : WP y d T pc L st w := by
  subst hn
  exact fun X h hT H locs ls hD => lv_iload_n h.exec h.code hd rfl (hD.2.2.2.2.2 _ _ hl) (kk X h hT H locs ls hD)
theorem r_lload_n {k : Fin 4} {x : Int64} (n : Nat) (hd : decode y.2.1 pc = .ok (.lload_n k, 1)) (hl : L[(k : Nat)]? = some (some (.long x))) (hn : pc + 1 = n) (kk : WP y d T n L (.long x :: st) w) : WP y d T pc L st w := by
  subst hn
  exact fun X h hT H locs ls hD => lv_lload_n h.exec h.code hd rfl (hD.2.2.2.2.2 _ _ hl) (kk X h hT H locs ls hD)
theorem r_aload_n {k : Fin 4} {x : Nat} (n : Nat) (hd : decode y.2.1 pc = .ok (.aload_n k, 1)) (hl : L[(k : Nat)]? = some (some (.ref x))) (hn : pc + 1 = n) (kk : WP y d T n L (.ref x :: st) w) : WP y d T pc L st w := by
  subst hn
  exact fun X h hT H locs ls hD => lv_aload_n h.exec h.code hd rfl (hD.2.2.2.2.2 _ _ hl) (kk X h hT H locs ls hD)
theorem r_iload {i : Nat} {x : Int32} (n : Nat) (hd : decode y.2.1 pc = .ok (.iload i, 2)) (hl : L[i]? = some (some (.int x))) (hn : pc + 2 = n) (kk : WP y d T n L (.int x :: st) w) : WP y d T pc L st w := by
  subst hn
  exact fun X h hT H locs ls hD => lv_iload h.exec h.code hd (hD.2.2.2.2.2 _ _ hl) (kk X h hT H locs ls hD)
theorem r_lload {i : Nat} {x : Int64} (n : Nat) (hd : decode y.2.1 pc = .ok (.lload i, 2)) (hl : L[i]? = some (some (.long x))) (hn : pc + 2 = n) (kk : WP y d T n L (.long x :: st) w) : WP y d T pc L st w := by
  subst hn
  exact fun X h hT H locs ls hD => lv_lload h.exec h.code hd (hD.2.2.2.2.2 _ _ hl) (kk X h hT H locs ls hD)
theorem r_aload {i : Nat} {x : Nat} (n : Nat) (hd : decode y.2.1 pc = .ok (.aload i, 2)) (hl : L[i]? = some (some (.ref x))) (hn : pc + 2 = n) (kk : WP y d T n L (.ref x :: st) w) : WP y d T pc L st w := by
  subst hn
  exact fun X h hT H locs ls hD => lv_aload h.exec h.code hd (hD.2.2.2.2.2 _ _ hl) (kk X h hT H locs ls hD)
theorem r_istore_n {k : Fin 4} {x : Int32} {L' : List (Option Value)} (n : Nat) (hd : decode y.2.1 pc = .ok (.istore_n k, 1)) (hi : (k : Nat) < y.2.2.1) (hnl : z_nl L (k : Nat) = true) (hL : L.set (k : Nat) (some (.int x)) = L') (hn : pc + 1 = n) (kk : WP y d T n L' st w) : WP y d T pc L (.int x :: st) w := by
  subst hn
  subst hL
  exact fun X h hT H locs ls hD => lv_istore_n h.exec h.code hd rfl  hD.2.2.2.has hi rfl (fun ls' hl' => kk X h hT H locs ls' ⟨hD.1, hD.2.1, hD.2.2.1, z_lv.set1 (v := .int x) h.K.2.2 hnl hl'⟩)
theorem r_astore_n {k : Fin 4} {x : Nat} {L' : List (Option Value)} (n : Nat) (hd : decode y.2.1 pc = .ok (.astore_n k, 1)) (hi : (k : Nat) < y.2.2.1) (hnl : z_nl L (k : Nat) = true) (hL : L.set (k : Nat) (some (.ref x)) = L') (hn : pc + 1 = n) (kk : WP y d T n L' st w) : WP y d T pc L (.ref x :: st) w := by
  subst hn
  subst hL
  exact fun X h hT H locs ls hD => lv_astore_n h.exec h.code hd rfl  hD.2.2.2.has hi rfl (fun ls' hl' => kk X h hT H locs ls' ⟨hD.1, hD.2.1, hD.2.2.1, z_lv.set1 (v := .ref x) h.K.2.2 hnl hl'⟩)
theorem r_lstore_n {k : Fin 4} {x : Int64} {L' : List (Option Value)} (n : Nat) (hd : decode y.2.1 pc = .ok (.lstore_n k, 1)) (hi : (k : Nat) + 1 < y.2.2.1) (hnl : z_nl L (k : Nat) = true) (hL : (L.set (k : Nat) (some (.long x))).set ((k : Nat) + 1) none = L') (hn : pc + 1 = n) (kk : WP y d T n L' st w) : WP y d T pc L (.long x :: st) w := by
  subst hn
  subst hL
  exact fun X h hT H locs ls hD => lv_lstore_n h.exec h.code hd rfl  hD.2.2.2.has hi rfl (fun ls' hl' => kk X h hT H locs ls' ⟨hD.1, hD.2.1, hD.2.2.1, z_lv.set2 (v := .long x) h.K.2.2 hnl hl'⟩)
theorem r_istore {i : Nat} {x : Int32} {L' : List (Option Value)} (n : Nat) (hd : decode y.2.1 pc = .ok (.istore i, 2)) (hi : i < y.2.2.1) (hnl : z_nl L i = true) (hL : L.set i (some (.int x)) = L') (hn : pc + 2 = n) (kk : WP y d T n L' st w) : WP y d T pc L (.int x :: st) w := by
  subst hn
  subst hL
  exact fun X h hT H locs ls hD => lv_istore h.exec h.code hd  hD.2.2.2.has hi rfl (fun ls' hl' => kk X h hT H locs ls' ⟨hD.1, hD.2.1, hD.2.2.1, z_lv.set1 (v := .int x) h.K.2.2 hnl hl'⟩)
theorem r_astore {i : Nat} {x : Nat} {L' : List (Option Value)} (n : Nat) (hd : decode y.2.1 pc = .ok (.astore i, 2)) (hi : i < y.2.2.1) (hnl : z_nl L i = true) (hL : L.set i (some (.ref x)) = L') (hn : pc + 2 = n) (kk : WP y d T n L' st w) : WP y d T pc L (.ref x :: st) w := by
  subst hn
  subst hL
  exact fun X h hT H locs ls hD => lv_astore h.exec h.code hd  hD.2.2.2.has hi rfl (fun ls' hl' => kk X h hT H locs ls' ⟨hD.1, hD.2.1, hD.2.2.1, z_lv.set1 (v := .ref x) h.K.2.2 hnl hl'⟩)
theorem r_lstore {i : Nat} {x : Int64} {L' : List (Option Value)} (n : Nat) (hd : decode y.2.1 pc = .ok (.lstore i, 2)) (hi : i + 1 < y.2.2.1) (hnl : z_nl L i = true) (hL : (L.set i (some (.long x))).set (i + 1) none = L') (hn : pc + 2 = n) (kk : WP y d T n L' st w) : WP y d T pc L (.long x :: st) w := by
  subst hn
  subst hL
  exact fun X h hT H locs ls hD => lv_lstore h.exec h.code hd  hD.2.2.2.has hi rfl (fun ls' hl' => kk X h hT H locs ls' ⟨hD.1, hD.2.1, hD.2.2.1, z_lv.set2 (v := .long x) h.K.2.2 hnl hl'⟩)
theorem r_iinc {i : Nat} {z : Int} {x v : Int32} {L' : List (Option Value)} (n : Nat) (hd : decode y.2.1 pc = .ok (.iinc i z, 3)) (hl : L[i]? = some (some (.int x))) (hv : x + Int32.ofInt z = v) (hi : i < y.2.2.1) (hnl : z_nl L i = true) (hL : L.set i (some (.int v)) = L') (hn : pc + 3 = n) (kk : WP y d T n L' st w) : WP y d T pc L st w := by
  subst hn
  subst hL
  intro X h hT H locs ls hD
  obtain ⟨j, hj⟩ := List.getElem?_of_mem (z_al_mem (G := x_G X).mpr ⟨_, hl, rfl⟩)
  exact lv_iinc h.exec h.code hd hD.2.2.2.has hj hv hi rfl (fun ls' hl' => kk X h hT H locs ls' ⟨hD.1, hD.2.1, hD.2.2.1, z_lv.set1 (v := .int v) h.K.2.2 hnl hl'⟩)
theorem r_iadd {a b : Int32} (n : Nat) (hd : decode y.2.1 pc = .ok (.iadd, 1))  (hn : pc + 1 = n) (k : WP y d T n L (.int (a + b) :: st) w) : WP y d T pc L (.int b :: .int a :: st) w := by
  subst hn
  exact fun X h hT H locs ls hD => lv_iadd h.exec h.code hd  (k X h hT H locs ls hD)
theorem r_isub {a b : Int32} (n : Nat) (hd : decode y.2.1 pc = .ok (.isub, 1))  (hn : pc + 1 = n) (k : WP y d T n L (.int (a - b) :: st) w) : WP y d T pc L (.int b :: .int a :: st) w := by
  subst hn
  exact fun X h hT H locs ls hD => lv_isub h.exec h.code hd  (k X h hT H locs ls hD)
theorem r_imul {a b : Int32} (n : Nat) (hd : decode y.2.1 pc = .ok (.imul, 1))  (hn : pc + 1 = n) (k : WP y d T n L (.int (a * b) :: st) w) : WP y d T pc L (.int b :: .int a :: st) w := by
  subst hn
  exact fun X h hT H locs ls hD => lv_imul h.exec h.code hd  (k X h hT H locs ls hD)
theorem r_iand {a b : Int32} (n : Nat) (hd : decode y.2.1 pc = .ok (.iand, 1))  (hn : pc + 1 = n) (k : WP y d T n L (.int (a &&& b) :: st) w) : WP y d T pc L (.int b :: .int a :: st) w := by
  subst hn
  exact fun X h hT H locs ls hD => lv_iand h.exec h.code hd  (k X h hT H locs ls hD)
theorem r_ior {a b : Int32} (n : Nat) (hd : decode y.2.1 pc = .ok (.ior, 1))  (hn : pc + 1 = n) (k : WP y d T n L (.int (a ||| b) :: st) w) : WP y d T pc L (.int b :: .int a :: st) w := by
  subst hn
  exact fun X h hT H locs ls hD => lv_ior h.exec h.code hd  (k X h hT H locs ls hD)
theorem r_ixor {a b : Int32} (n : Nat) (hd : decode y.2.1 pc = .ok (.ixor, 1))  (hn : pc + 1 = n) (k : WP y d T n L (.int (a ^^^ b) :: st) w) : WP y d T pc L (.int b :: .int a :: st) w := by
  subst hn
  exact fun X h hT H locs ls hD => lv_ixor h.exec h.code hd  (k X h hT H locs ls hD)
theorem r_ishl {a b : Int32} (n : Nat) (hd : decode y.2.1 pc = .ok (.ishl, 1))  (hn : pc + 1 = n) (k : WP y d T n L (.int (a <<< (b &&& 31)) :: st) w) : WP y d T pc L (.int b :: .int a :: st) w := by
  subst hn
  exact fun X h hT H locs ls hD => lv_ishl h.exec h.code hd  (k X h hT H locs ls hD)
theorem r_ishr {a b : Int32} (n : Nat) (hd : decode y.2.1 pc = .ok (.ishr, 1))  (hn : pc + 1 = n) (k : WP y d T n L (.int (a >>> (b &&& 31)) :: st) w) : WP y d T pc L (.int b :: .int a :: st) w := by
  subst hn
  exact fun X h hT H locs ls hD => lv_ishr h.exec h.code hd  (k X h hT H locs ls hD)
theorem r_iushr {a b v : Int32} (n : Nat) (hd : decode y.2.1 pc = .ok (.iushr, 1)) (hv : (a.toUInt32 >>> (b.toUInt32 &&& Int32.toUInt32 31)).toInt32 = v) (hn : pc + 1 = n) (k : WP y d T n L (.int v :: st) w) : WP y d T pc L (.int b :: .int a :: st) w := by
  subst hn
  exact fun X h hT H locs ls hD => lv_iushr h.exec h.code hd hv (k X h hT H locs ls hD)
theorem r_idiv {a b : Int32} (n : Nat) (hd : decode y.2.1 pc = .ok (.idiv, 1)) (hb : ¬ b = 0) (hn : pc + 1 = n) (k : WP y d T n L (.int (a / b) :: st) w) : WP y d T pc L (.int b :: .int a :: st) w := by
  subst hn
  exact fun X h hT H locs ls hD => lv_idiv h.exec h.code hd hb (k X h hT H locs ls hD)
theorem r_irem {a b : Int32} (n : Nat) (hd : decode y.2.1 pc = .ok (.irem, 1)) (hb : ¬ b = 0) (hn : pc + 1 = n) (k : WP y d T n L (.int (a - a / b * b) :: st) w) : WP y d T pc L (.int b :: .int a :: st) w := by
  subst hn
  exact fun X h hT H locs ls hD => lv_irem h.exec h.code hd hb (k X h hT H locs ls hD)
theorem r_ladd {a b : Int64} (n : Nat) (hd : decode y.2.1 pc = .ok (.ladd, 1))  (hn : pc + 1 = n) (k : WP y d T n L (.long (a + b) :: st) w) : WP y d T pc L (.long b :: .long a :: st) w := by
  subst hn
  exact fun X h hT H locs ls hD => lv_ladd h.exec h.code hd  (k X h hT H locs ls hD)
theorem r_lsub {a b : Int64} (n : Nat) (hd : decode y.2.1 pc = .ok (.lsub, 1))  (hn : pc + 1 = n) (k : WP y d T n L (.long (a - b) :: st) w) : WP y d T pc L (.long b :: .long a :: st) w := by
  subst hn
  exact fun X h hT H locs ls hD => lv_lsub h.exec h.code hd  (k X h hT H locs ls hD)
theorem r_lmul {a b : Int64} (n : Nat) (hd : decode y.2.1 pc = .ok (.lmul, 1))  (hn : pc + 1 = n) (k : WP y d T n L (.long (a * b) :: st) w) : WP y d T pc L (.long b :: .long a :: st) w := by
  subst hn
  exact fun X h hT H locs ls hD => lv_lmul h.exec h.code hd  (k X h hT H locs ls hD)
theorem r_ldiv {a b : Int64} (n : Nat) (hd : decode y.2.1 pc = .ok (.ldiv, 1)) (hb : ¬ b = 0) (hn : pc + 1 = n) (k : WP y d T n L (.long (a / b) :: st) w) : WP y d T pc L (.long b :: .long a :: st) w := by
  subst hn
  exact fun X h hT H locs ls hD => lv_ldiv h.exec h.code hd hb (k X h hT H locs ls hD)
theorem r_lrem {a b : Int64} (n : Nat) (hd : decode y.2.1 pc = .ok (.lrem, 1)) (hb : ¬ b = 0) (hn : pc + 1 = n) (k : WP y d T n L (.long (a - a / b * b) :: st) w) : WP y d T pc L (.long b :: .long a :: st) w := by
  subst hn
  exact fun X h hT H locs ls hD => lv_lrem h.exec h.code hd hb (k X h hT H locs ls hD)
theorem r_i2l {a : Int32} (n : Nat) (hd : decode y.2.1 pc = .ok (.i2l, 1))  (hn : pc + 1 = n) (k : WP y d T n L (.long a.toInt64 :: st) w) : WP y d T pc L (.int a :: st) w := by
  subst hn
  exact fun X h hT H locs ls hD => lv_i2l h.exec h.code hd rfl (k X h hT H locs ls hD)
theorem r_i2b {a : Int32} (n : Nat) (hd : decode y.2.1 pc = .ok (.i2b, 1))  (hn : pc + 1 = n) (k : WP y d T n L (.int a.toInt8.toInt32 :: st) w) : WP y d T pc L (.int a :: st) w := by
  subst hn
  exact fun X h hT H locs ls hD => lv_i2b h.exec h.code hd rfl (k X h hT H locs ls hD)
theorem r_i2s {a : Int32} (n : Nat) (hd : decode y.2.1 pc = .ok (.i2s, 1))  (hn : pc + 1 = n) (k : WP y d T n L (.int a.toInt16.toInt32 :: st) w) : WP y d T pc L (.int a :: st) w := by
  subst hn
  exact fun X h hT H locs ls hD => lv_i2s h.exec h.code hd rfl (k X h hT H locs ls hD)
theorem r_i2c {a : Int32} (n : Nat) (hd : decode y.2.1 pc = .ok (.i2c, 1))  (hn : pc + 1 = n) (k : WP y d T n L (.int (a.toUInt32 % 65536).toInt32 :: st) w) : WP y d T pc L (.int a :: st) w := by
  subst hn
  exact fun X h hT H locs ls hD => lv_i2c h.exec h.code hd rfl (k X h hT H locs ls hD)
theorem r_lcmp {a b : Int64} (n : Nat) (hd : decode y.2.1 pc = .ok (.lcmp, 1))  (hn : pc + 1 = n) (k : WP y d T n L (.int (lg_cmp a b) :: st) w) : WP y d T pc L (.long b :: .long a :: st) w := by
  subst hn
  exact fun X h hT H locs ls hD => W.lcmp h.exec h.code hd  (k X h hT H locs ls hD)
theorem r_dup {v : Value} (n : Nat) (hd : decode y.2.1 pc = .ok (.dup, 1)) (hv : v.category = 1) (hn : pc + 1 = n) (k : WP y d T n L (v :: v :: st) w) : WP y d T pc L (v :: st) w := by
  subst hn
  exact fun X h hT H locs ls hD => lv_dup h.exec h.code hd ((z_cat h.K.2.2 v).trans hv) (k X h hT H locs ls hD)
theorem r_dup2 {u v : Value} (n : Nat) (hd : decode y.2.1 pc = .ok (.dup2, 1)) (hv : v.category = 1) (hu : u.category = 1) (hn : pc + 1 = n) (k : WP y d T n L (v :: u :: v :: u :: st) w) : WP y d T pc L (v :: u :: st) w := by
  subst hn
  exact fun X h hT H locs ls hD => lv_dup2_11 h.exec h.code hd ((z_cat h.K.2.2 v).trans hv) ((z_cat h.K.2.2 u).trans hu) (k X h hT H locs ls hD)
theorem r_pop {v : Value} (n : Nat) (hd : decode y.2.1 pc = .ok (.pop, 1)) (hv : v.category = 1) (hn : pc + 1 = n) (k : WP y d T n L st w) : WP y d T pc L (v :: st) w := by
  subst hn
  exact fun X h hT H locs ls hD => lv_pop h.exec h.code hd ((z_cat h.K.2.2 v).trans hv) (k X h hT H locs ls hD)
theorem r_ldc {idx : Nat} {v : Int32} (n : Nat) (hd : decode y.2.1 pc = .ok (.ldc idx, 2)) (hc : Cond.constant y.1.cls idx v ∈ z_WS) (hn : pc + 2 = n) (k : WP y d T n L (.int v :: st) w) : WP y d T pc L st w := by
  subst hn
  exact fun X h hT H locs ls hD => lv_ldc h.exec h.code h.own (h.words _ hc) hd (k X h hT H locs ls hD)
theorem r_ldc_w {idx : Nat} {v : Int32} (n : Nat) (hd : decode y.2.1 pc = .ok (.ldc_w idx, 3)) (hc : Cond.constant y.1.cls idx v ∈ z_WS) (hn : pc + 3 = n) (k : WP y d T n L (.int v :: st) w) : WP y d T pc L st w := by
  subst hn
  exact fun X h hT H locs ls hD => lv_ldcw h.exec h.code h.own (h.words _ hc) hd (k X h hT H locs ls hD)
theorem r_ldc2 {idx : Nat} {v : Int64} (n : Nat) (hd : decode y.2.1 pc = .ok (.ldc2_w idx, 3)) (hc : Cond.constantLong y.1.cls idx v ∈ z_WS) (hn : pc + 3 = n) (k : WP y d T n L (.long v :: st) w) : WP y d T pc L st w := by
  subst hn
  exact fun X h hT H locs ls hD => lv_ldc2 h.exec h.code h.own (h.words _ hc) hd (k X h hT H locs ls hD)
theorem r_goto {off : Int} (t : Nat) (hd : decode y.2.1 pc = .ok (.goto off, 3)) (ht : (pc : Int) + off = (t : Int)) (k : WP y d T t L st w) : WP y d T pc L st w :=
  fun X h hT H locs ls hD => lv_goto h.exec h.code hd ht (k X h hT H locs ls hD)
theorem r_tin {dflt lo hi off : Int} {offs : Array Int} {len : Nat} {x : Int32} (t : Nat) (hd : decode y.2.1 pc = .ok (.tableswitch dflt lo hi offs, len)) (h1 : ¬ x.toInt < lo) (h2 : ¬ hi < x.toInt) (ho : offs[(x.toInt - lo).toNat]? = some off) (ht : (pc : Int) + off = (t : Int)) (k : WP y d T t L st w) : WP y d T pc L (.int x :: st) w :=
  fun X h hT H locs ls hD => lv_tableIn h.exec h.code hd h1 h2 ho ht (k X h hT H locs ls hD)
theorem r_tout {dflt lo hi : Int} {offs : Array Int} {len : Nat} {x : Int32} (t : Nat) (hd : decode y.2.1 pc = .ok (.tableswitch dflt lo hi offs, len)) (h1 : x.toInt < lo ∨ hi < x.toInt) (ht : (pc : Int) + dflt = (t : Int)) (k : WP y d T t L st w) : WP y d T pc L (.int x :: st) w :=
  fun X h hT H locs ls hD => lv_tableOut h.exec h.code hd h1 ht (k X h hT H locs ls hD)
theorem r_if_eq {x : Int32} {off : Int} (t n : Nat) (hd : decode y.2.1 pc = .ok (.ifCond .eq off, 3)) (ht : (pc : Int) + off = (t : Int)) (hn : pc + 3 = n) (kt : x = 0 → WP y d T t L st w) (kf : ¬ x = 0 → WP y d T n L st w) : WP y d T pc L (.int x :: st) w := by
  subst hn
  exact fun X h hT H locs ls hD => lv_if_eq h.exec h.code hd ht (fun q => kt q X h hT H locs ls hD) (fun q => kf q X h hT H locs ls hD)
theorem r_icmp_eq {x z : Int32} {off : Int} (t n : Nat) (hd : decode y.2.1 pc = .ok (.if_icmp .eq off, 3)) (ht : (pc : Int) + off = (t : Int)) (hn : pc + 3 = n) (kt : x = z → WP y d T t L st w) (kf : ¬ x = z → WP y d T n L st w) : WP y d T pc L (.int z :: .int x :: st) w := by
  subst hn
  exact fun X h hT H locs ls hD => lv_icmp_eq h.exec h.code hd ht (fun q => kt q X h hT H locs ls hD) (fun q => kf q X h hT H locs ls hD)
theorem r_if_ne {x : Int32} {off : Int} (t n : Nat) (hd : decode y.2.1 pc = .ok (.ifCond .ne off, 3)) (ht : (pc : Int) + off = (t : Int)) (hn : pc + 3 = n) (kt : ¬ x = 0 → WP y d T t L st w) (kf : x = 0 → WP y d T n L st w) : WP y d T pc L (.int x :: st) w := by
  subst hn
  exact fun X h hT H locs ls hD => lv_if_ne h.exec h.code hd ht (fun q => kt q X h hT H locs ls hD) (fun q => kf q X h hT H locs ls hD)
theorem r_icmp_ne {x z : Int32} {off : Int} (t n : Nat) (hd : decode y.2.1 pc = .ok (.if_icmp .ne off, 3)) (ht : (pc : Int) + off = (t : Int)) (hn : pc + 3 = n) (kt : ¬ x = z → WP y d T t L st w) (kf : x = z → WP y d T n L st w) : WP y d T pc L (.int z :: .int x :: st) w := by
  subst hn
  exact fun X h hT H locs ls hD => lv_icmp_ne h.exec h.code hd ht (fun q => kt q X h hT H locs ls hD) (fun q => kf q X h hT H locs ls hD)
theorem r_if_lt {x : Int32} {off : Int} (t n : Nat) (hd : decode y.2.1 pc = .ok (.ifCond .lt off, 3)) (ht : (pc : Int) + off = (t : Int)) (hn : pc + 3 = n) (kt : x < 0 → WP y d T t L st w) (kf : ¬ x < 0 → WP y d T n L st w) : WP y d T pc L (.int x :: st) w := by
  subst hn
  exact fun X h hT H locs ls hD => lv_if_lt h.exec h.code hd ht (fun q => kt q X h hT H locs ls hD) (fun q => kf q X h hT H locs ls hD)
theorem r_icmp_lt {x z : Int32} {off : Int} (t n : Nat) (hd : decode y.2.1 pc = .ok (.if_icmp .lt off, 3)) (ht : (pc : Int) + off = (t : Int)) (hn : pc + 3 = n) (kt : x < z → WP y d T t L st w) (kf : ¬ x < z → WP y d T n L st w) : WP y d T pc L (.int z :: .int x :: st) w := by
  subst hn
  exact fun X h hT H locs ls hD => lv_icmp_lt h.exec h.code hd ht (fun q => kt q X h hT H locs ls hD) (fun q => kf q X h hT H locs ls hD)
theorem r_if_ge {x : Int32} {off : Int} (t n : Nat) (hd : decode y.2.1 pc = .ok (.ifCond .ge off, 3)) (ht : (pc : Int) + off = (t : Int)) (hn : pc + 3 = n) (kt : 0 ≤ x → WP y d T t L st w) (kf : ¬ 0 ≤ x → WP y d T n L st w) : WP y d T pc L (.int x :: st) w := by
  subst hn
  exact fun X h hT H locs ls hD => lv_if_ge h.exec h.code hd ht (fun q => kt q X h hT H locs ls hD) (fun q => kf q X h hT H locs ls hD)
theorem r_icmp_ge {x z : Int32} {off : Int} (t n : Nat) (hd : decode y.2.1 pc = .ok (.if_icmp .ge off, 3)) (ht : (pc : Int) + off = (t : Int)) (hn : pc + 3 = n) (kt : z ≤ x → WP y d T t L st w) (kf : ¬ z ≤ x → WP y d T n L st w) : WP y d T pc L (.int z :: .int x :: st) w := by
  subst hn
  exact fun X h hT H locs ls hD => lv_icmp_ge h.exec h.code hd ht (fun q => kt q X h hT H locs ls hD) (fun q => kf q X h hT H locs ls hD)
theorem r_if_gt {x : Int32} {off : Int} (t n : Nat) (hd : decode y.2.1 pc = .ok (.ifCond .gt off, 3)) (ht : (pc : Int) + off = (t : Int)) (hn : pc + 3 = n) (kt : 0 < x → WP y d T t L st w) (kf : ¬ 0 < x → WP y d T n L st w) : WP y d T pc L (.int x :: st) w := by
  subst hn
  exact fun X h hT H locs ls hD => lv_if_gt h.exec h.code hd ht (fun q => kt q X h hT H locs ls hD) (fun q => kf q X h hT H locs ls hD)
theorem r_icmp_gt {x z : Int32} {off : Int} (t n : Nat) (hd : decode y.2.1 pc = .ok (.if_icmp .gt off, 3)) (ht : (pc : Int) + off = (t : Int)) (hn : pc + 3 = n) (kt : z < x → WP y d T t L st w) (kf : ¬ z < x → WP y d T n L st w) : WP y d T pc L (.int z :: .int x :: st) w := by
  subst hn
  exact fun X h hT H locs ls hD => lv_icmp_gt h.exec h.code hd ht (fun q => kt q X h hT H locs ls hD) (fun q => kf q X h hT H locs ls hD)
theorem r_if_le {x : Int32} {off : Int} (t n : Nat) (hd : decode y.2.1 pc = .ok (.ifCond .le off, 3)) (ht : (pc : Int) + off = (t : Int)) (hn : pc + 3 = n) (kt : x ≤ 0 → WP y d T t L st w) (kf : ¬ x ≤ 0 → WP y d T n L st w) : WP y d T pc L (.int x :: st) w := by
  subst hn
  exact fun X h hT H locs ls hD => lv_if_le h.exec h.code hd ht (fun q => kt q X h hT H locs ls hD) (fun q => kf q X h hT H locs ls hD)
theorem r_icmp_le {x z : Int32} {off : Int} (t n : Nat) (hd : decode y.2.1 pc = .ok (.if_icmp .le off, 3)) (ht : (pc : Int) + off = (t : Int)) (hn : pc + 3 = n) (kt : x ≤ z → WP y d T t L st w) (kf : ¬ x ≤ z → WP y d T n L st w) : WP y d T pc L (.int z :: .int x :: st) w := by
  subst hn
  exact fun X h hT H locs ls hD => lv_icmp_le h.exec h.code hd ht (fun q => kt q X h hT H locs ls hD) (fun q => kf q X h hT H locs ls hD)
/-- a name for what lies on top -/
theorem r_top {x : Int32} (k : ∀ z : Int32, z = x → WP y d T pc L (.int z :: st) w) : WP y d T pc L (.int x :: st) w := k x rfl
end ROWS
end
section
/-! ===== fields and arrays ===== -/
/-- what is known of the world's classes -/
def z_cl (q : vw_C) : Prop := (∀ w ∈ u_ws q.1 q.2.1 q.2.2, w ∈ z_WS) ∧ (∃ ty : Nat → FieldType, ∀ k, k < q.2.2 → parseFieldDescriptor (q.2.1 k).2.2.1 = some (ty k)) ∧ ∀ a, a < q.2.2 → ∀ b, b < q.2.2 → a ≠ b → (q.2.1 a).2.1 ≠ (q.2.1 b).2.1
theorem z_cls : ∀ (ci : Nat) (q : vw_C), vwCl[ci]? = some q → z_cl q := by
  intro ci q h
  match ci, h with
  | 0, h => cases h; exact ⟨inX0, ⟨tyX0, tyX0_ok⟩, nmX0⟩
  | 1, h => cases h; exact ⟨inX1, ⟨tyX1, tyX1_ok⟩, nmX1⟩
  | 2, h => cases h; exact ⟨inX2, ⟨tyX2, tyX2_ok⟩, nmX2⟩
  | 3, h => cases h; exact ⟨inX3, ⟨tyX3, tyX3_ok⟩, nmX3⟩
  | 4, h => cases h; exact ⟨inX4, ⟨tyX4, tyX4_ok⟩, nmX4⟩
  | 5, h => cases h; exact ⟨inX5, ⟨tyX5, tyX5_ok⟩, nmX5⟩
  | 6, h => cases h; exact ⟨inX6, ⟨tyX6, tyX6_ok⟩, nmX6⟩
  | 7, h => cases h; exact ⟨inX7, ⟨tyX7, tyX7_ok⟩, nmX7⟩
  | k + 8, h => cases h
/-- a link to a field: field f of class ci -/
def z_fl (own : String) (idx ci f : Nat) : Prop := ∃ q : vw_C, vwCl[ci]? = some q ∧ f < q.2.2 ∧ Cond.fieldLink own idx (q.2.1 f).1 (q.2.1 f).2.1 (q.2.1 f).2.2.1 ∈ z_WS
/-- an int field that may be written -/
def z_fw (ci f : Nat) : Prop := ∃ q : vw_C, vwCl[ci]? = some q ∧ (q.2.1 f).2.2.2 = false ∧ parseFieldDescriptor (q.2.1 f).2.2.1 = some .int
section MEM
variable {y : zM} {d : Nat} {T : zX → Prop} {pc : Nat} {L : List (Option Value)} {st : List Value} {w : zW}
theorem r_getv {idx ci f k : Nat} {fs : List (Option Nat)} {o : Option Nat} (n : Nat) (hd : decode y.2.1 pc = .ok (.getfield idx, 3)) (hF : z_fl y.1.cls idx ci f) (hs : z_shp[k]? = some (.inr (ci, fs))) (hv : fs[f]? = some o) (hn : pc + 3 = n)
    (v : Value) (hvv : ∀ G, z_fv G w k f o = z_cv G v) (kk : WP y d T n L (v :: st) w) : WP y d T pc L (.ref k :: st) w := by
  subst hn
  intro X h hT H locs ls hD
  obtain ⟨q, hq, hf, hlk⟩ := hF
  obtain ⟨hin, -, -⟩ := z_cls ci q hq
  have hat := z_cw_at (G := x_G X) (w := w) hs
  have hfs : (fs.mapIdx fun i o => z_fv (x_G X) w k i o)[f]? = some (z_cv (x_G X) v) := by
    rw [List.getElem?_mapIdx, hv, Option.map_some, hvv]
  exact va_get (C := q.1) (T := q.2.1) (N := q.2.2) (ci := ci) (index := idx) (Ts := z_WS) h.exec h.code h.words hin h.own h.K.1 hD.1 k hat hq f hf (h.words _ hlk) (fun x hx => hx) hfs hd (kk X h hT H locs ls hD)
theorem r_geti {idx ci f k : Nat} {fs : List (Option Nat)} (n : Nat) (hd : decode y.2.1 pc = .ok (.getfield idx, 3)) (hF : z_fl y.1.cls idx ci f) (hs : z_shp[k]? = some (.inr (ci, fs))) (hv : fs[f]? = some none) (hn : pc + 3 = n) (kk : WP y d T n L (.int (w k f) :: st) w) : WP y d T pc L (.ref k :: st) w :=
  r_getv n hd hF hs hv hn (.int (w k f)) (fun _ => rfl) kk
theorem r_getr {idx ci f k r : Nat} {fs : List (Option Nat)} (n : Nat) (hd : decode y.2.1 pc = .ok (.getfield idx, 3)) (hF : z_fl y.1.cls idx ci f) (hs : z_shp[k]? = some (.inr (ci, fs))) (hv : fs[f]? = some (some r)) (hn : pc + 3 = n) (kk : WP y d T n L (.ref r :: st) w) : WP y d T pc L (.ref k :: st) w :=
  r_getv n hd hF hs hv hn (.ref r) (fun _ => rfl) kk
theorem z_put_fs {G : zG} {w : zW} {k f : Nat} {v : Int32} {fs : List (Option Nat)} (hv : fs[f]? = some none) : (fs.mapIdx fun i o => z_fv G w k i o).set f (.int v) = fs.mapIdx fun i o => z_fv G (z_up w k f v) k i o := by
  apply List.ext_getElem?
  intro j
  by_cases hj : j = f
  · subst hj
    have hl : j < fs.length := (List.getElem?_eq_some_iff.mp hv).1
    rw [List.getElem?_set_self (by rw [List.length_mapIdx]; exact hl), List.getElem?_mapIdx, hv]
    simp [z_fv, z_up_s]
  · rw [List.getElem?_set_ne (Ne.symm hj), List.getElem?_mapIdx, List.getElem?_mapIdx]
    cases fs[j]? with
    | none => rfl
    | some o =>
      cases o with
      | none => simp [z_fv, z_up_i hj]
      | some r => rfl
theorem r_puti {idx ci f k : Nat} {v : Int32} {fs : List (Option Nat)} (n : Nat) (hd : decode y.2.1 pc = .ok (.putfield idx, 3)) (hF : z_fl y.1.cls idx ci f) (hW : z_fw ci f) (hs : z_shp[k]? = some (.inr (ci, fs))) (hv : fs[f]? = some none) (hn : pc + 3 = n) (kk : WP y d T n L st (z_up w k f v)) : WP y d T pc L (.int v :: .ref k :: st) w := by
  subst hn
  intro X h hT H locs ls hD
  obtain ⟨q, hq, hf, hlk⟩ := hF
  obtain ⟨q', hq', hfin, hpd⟩ := hW
  cases hq.symm.trans hq'
  obtain ⟨hin, ⟨ty0, hty⟩, hnm⟩ := z_cls ci q hq
  have hat := z_cw_at (G := x_G X) (w := w) hs
  have hl : f < (fs.mapIdx fun i o => z_fv (x_G X) w k i o).length := by
    rw [List.length_mapIdx]
    exact (List.getElem?_eq_some_iff.mp hv).1
  refine va_put (C := q.1) (T := q.2.1) (N := q.2.2) (ci := ci) (index := idx) (Ts := z_WS) (ty := .int) (v := .int v) h.exec h.code h.words hin ty0 hty hnm h.own h.K.1 hD.1 hD.2.1 hD.2.2.1 k hat hq f hf (h.words _ hlk) (fun x hx => hx) hfin hpd rfl rfl hl hd (fun H1 locs1 hP hDD hS => ?_)
  have e : (z_cw (x_G X) w).set k ((x_G X).2.1 k, .inr (ci, (fs.mapIdx fun i o => z_fv (x_G X) w k i o).set f (.int v))) = z_cw (x_G X) (z_up w k f v) := by
    rw [z_put_fs hv]
    exact z_cw_set (e := .inr (ci, fs)) hs (fun j hj => z_up_o hj)
  rw [e] at hP hDD
  exact kk X h hT H1 locs1 ls ⟨hP, hDD, hS, hD.2.2.2⟩
theorem r_iald {k N : Nat} {i : Int32} (n : Nat) (hd : decode y.2.1 pc = .ok (.iaload, 1)) (hs : z_shp[k]? = some (.inl (.int, N, none))) (hin : vp_in i N) (hn : pc + 1 = n) (kk : WP y d T n L (.int (w k i.toNatClampNeg) :: st) w) : WP y d T pc L (.int i :: .ref k :: st) w := by
  subst hn
  intro X h hT H locs ls hD
  exact va_iald h.exec h.code (h.K.one hs) hD.1 k 0 (z_cw_at (G := x_G X) (w := w) hs) rfl hin hd (kk X h hT H locs ls hD)
theorem r_bald {k N : Nat} {i : Int32} (n : Nat) (hd : decode y.2.1 pc = .ok (.baload, 1)) (hs : z_shp[k]? = some (.inl (.byte, N, none))) (hin : vp_in i N) (hn : pc + 1 = n) (kk : WP y d T n L (.int (w k i.toNatClampNeg) :: st) w) : WP y d T pc L (.int i :: .ref k :: st) w := by
  subst hn
  intro X h hT H locs ls hD
  exact va_bald h.exec h.code (h.K.one hs) hD.1 k 0 (z_cw_at (G := x_G X) (w := w) hs) rfl hin hd (kk X h hT H locs ls hD)
theorem r_zald {k N : Nat} {i : Int32} (n : Nat) (hd : decode y.2.1 pc = .ok (.baload, 1)) (hs : z_shp[k]? = some (.inl (.boolean, N, none))) (hin : vp_in i N) (hn : pc + 1 = n) (kk : WP y d T n L (.int (w k i.toNatClampNeg) :: st) w) : WP y d T pc L (.int i :: .ref k :: st) w := by
  subst hn
  intro X h hT H locs ls hD
  exact va_zald h.exec h.code (h.K.one hs) hD.1 k 0 (z_cw_at (G := x_G X) (w := w) hs) rfl hin hd (kk X h hT H locs ls hD)
theorem z_arr_set {G : zG} {w : zW} {k N j : Nat} {v : Int32} {ty : FieldType} (hs : z_shp[k]? = some (.inl (ty, N, none))) : (z_cw G w).set k (G.2.1 k, .inl (G.2.2.1 k, N, .inl (upd (w k) j v))) = z_cw G (z_up w k j v) := by
  have h := z_cw_set (G := G) (w := w) (w' := z_up w k j v) (e := .inl (ty, N, none)) hs (fun j hj => z_up_o hj)
  rw [← h]
  simp only [z_ce, z_up_k]
theorem r_iast {k N : Nat} {i v : Int32} (n : Nat) (hd : decode y.2.1 pc = .ok (.iastore, 1)) (hs : z_shp[k]? = some (.inl (.int, N, none))) (hin : vp_in i N) (hn : pc + 1 = n) (kk : WP y d T n L st (z_up w k i.toNatClampNeg v)) : WP y d T pc L (.int v :: .int i :: .ref k :: st) w := by
  subst hn
  intro X h hT H locs ls hD
  refine va_iast h.exec h.code (h.K.one hs) hD.1 hD.2.1 hD.2.2.1 k 0 (z_cw_at (G := x_G X) (w := w) hs) rfl hin hd (fun H1 locs1 hP hDD hS => ?_)
  rw [z_arr_set hs] at hP hDD
  exact kk X h hT H1 locs1 ls ⟨hP, hDD, hS, hD.2.2.2⟩
theorem r_bast {k N : Nat} {i v : Int32} (n : Nat) (hd : decode y.2.1 pc = .ok (.bastore, 1)) (hs : z_shp[k]? = some (.inl (.byte, N, none))) (hin : vp_in i N) (hn : pc + 1 = n) (kk : WP y d T n L st (z_up w k i.toNatClampNeg (vp_nar .byte v))) : WP y d T pc L (.int v :: .int i :: .ref k :: st) w := by
  subst hn
  intro X h hT H locs ls hD
  refine va_bast h.exec h.code (h.K.one hs) hD.1 hD.2.1 hD.2.2.1 k 0 (z_cw_at (G := x_G X) (w := w) hs) rfl hin hd (fun H1 locs1 hP hDD hS => ?_)
  rw [z_arr_set hs] at hP hDD
  exact kk X h hT H1 locs1 ls ⟨hP, hDD, hS, hD.2.2.2⟩
theorem r_zast {k N : Nat} {i v : Int32} (n : Nat) (hd : decode y.2.1 pc = .ok (.bastore, 1)) (hs : z_shp[k]? = some (.inl (.boolean, N, none))) (hin : vp_in i N) (hn : pc + 1 = n) (kk : WP y d T n L st (z_up w k i.toNatClampNeg (vp_nar .boolean v))) : WP y d T pc L (.int v :: .int i :: .ref k :: st) w := by
  subst hn
  intro X h hT H locs ls hD
  refine va_zast h.exec h.code (h.K.one hs) hD.1 hD.2.1 hD.2.2.1 k 0 (z_cw_at (G := x_G X) (w := w) hs) rfl hin hd (fun H1 locs1 hP hDD hS => ?_)
  rw [z_arr_set hs] at hP hDD
  exact kk X h hT H1 locs1 ls ⟨hP, hDD, hS, hD.2.2.2⟩
theorem r_aald {k N r : Nat} {i : Int32} {C : String} {rs : List Nat} (n : Nat) (hd : decode y.2.1 pc = .ok (.aaload, 1)) (hs : z_shp[k]? = some (.inl (.object C, N, some rs))) (hin : vp_in i N) (hr : rs[i.toNatClampNeg]? = some r) (hn : pc + 1 = n) (kk : WP y d T n L (.ref r :: st) w) : WP y d T pc L (.int i :: .ref k :: st) w := by
  subst hn
  intro X h hT H locs ls hD
  refine va_aldq h.exec h.code (h.K.one hs) hD.1 k 0 (z_cw_at (G := x_G X) (w := w) hs) rfl hin hd ?_
  simp only [hr, Option.map_some]
  exact kk X h hT H locs ls hD
theorem r_alen {k N : Nat} {v : Int32} {ty : FieldType} (n : Nat) (hd : decode y.2.1 pc = .ok (.arraylength, 1)) (hs : z_shp[k]? = some (.inl (ty, N, none))) (hv : Int32.ofNat N = v) (hn : pc + 1 = n) (kk : WP y d T n L (.int v :: st) w) : WP y d T pc L (.ref k :: st) w := by
  subst hn
  intro X h hT H locs ls hD
  exact va_alen h.exec h.code (h.K.one hs) hD.1 k 0 (z_cw_at (G := x_G X) (w := w) hs) rfl hv hd (kk X h hT H locs ls hD)
/-! statics: the four tables; String constants -/
theorem r_gets {idx j : Nat} (n : Nat) (hd : decode y.2.1 pc = .ok (.getstatic idx, 3)) (hj : j < 4) (hl : Cond.fieldLink y.1.cls idx RX6 (z_snm.getD j "") "[I" ∈ z_WS) (hn : pc + 3 = n) (kk : WP y d T n L (.ref (100 + j) :: st) w) : WP y d T pc L st w := by
  subst hn
  intro X h hT H locs ls hD
  exact va_gets h.exec h.code (h.S.1 j hj).1 hD.2.2.1 h.own (h.words _ hl) (fun x hx => hx) hd (kk X h hT H locs ls hD)
theorem r_getsN {idx j : Nat} (n : Nat) (hd : decode y.2.1 pc = .ok (.getstatic idx, 3)) (hj : j < 4) (hl : Cond.fieldLinkNest y.1.cls idx RX6 (z_snm.getD j "") "[I" RX6 ∈ z_nst) (hn : pc + 3 = n) (kk : WP y d T n L (.ref (100 + j) :: st) w) : WP y d T pc L st w := by
  subst hn
  intro X h hT H locs ls hD
  exact va_getsN h.exec h.code (h.S.1 j hj).1 hD.2.2.1 h.own (va_Nw.use rfl (h.N.1 _ hl)) (fun x hx => hx) hd (kk X h hT H locs ls hD)
theorem r_tald {j k : Nat} {i : Int32} (n : Nat) (hd : decode y.2.1 pc = .ok (.iaload, 1)) (hj : j < 4) (hk : k = 100 + j) (hin : vp_in i (z_sar.getD j []).length) (hn : pc + 1 = n) (kk : WP y d T n L (.int ((z_sar.getD j []).getD i.toNatClampNeg 0) :: st) w) : WP y d T pc L (.int i :: .ref k :: st) w := by
  subst hn
  subst hk
  intro X h hT H locs ls hD
  exact va_sld h.exec h.code (h.S.1 j hj).2.1 (h.S.1 j hj).2.2.1 (h.S.1 j hj).2.2.2 hD.2.2.1 hin hd (kk X h hT H locs ls hD)
theorem r_ldcS {idx i : Nat} (n : Nat) (hd : decode y.2.1 pc = .ok (.ldc idx, 2)) (hy : y.1.cls = RX5) (hi : i < 16) (hx : z_six.getD i 0 = idx) (hn : pc + 2 = n) (kk : WP y d T n L (.ref (200 + i) :: st) w) : WP y d T pc L st w := by
  subst hn
  subst hx
  intro X h hT H locs ls hD
  exact va_ldcS h.exec h.code (by rw [← hy]; exact h.own) (h.N.2 i hi) hd (kk X h hT H locs ls hD)
end MEM
end
section
/-! ===== calls and returns ===== -/
/-- a method that is called: its code, its class, its parameters -/
def z_m0 (y : zM) (np : Nat) : Prop := Cond.code y.1 y.2.1 y.2.2.1 y.2.2.2 ∈ z_WS ∧ Cond.initialized y.1.cls ∈ z_WS ∧ (y.1.cls ≠ "java/lang/invoke/MethodHandle" ∧ y.1.cls ≠ "java/lang/invoke/VarHandle" ∧ (parseMethodDescriptor y.1.desc).map (fun d => d.parameters.length) = some np) ∧ y.2.2.1 ≤ 45
def z_mV (y : zM) (np : Nat) : Prop := z_m0 y np ∧ Cond.instanceMethod y.1 ∈ z_WS ∧ Cond.selects y.1.cls y.1 y.1 ∈ z_WS
def z_mS (y : zM) (np : Nat) : Prop := z_m0 y np ∧ Cond.static y.1 ∈ z_WS
theorem z_fb {G : zG} {as : List Value} {w : zW} {sz : Nat} : FrameBlind (z_Pc G as w sz) := fun a U g mk q => by
  obtain ⟨q0, q1, qP, qD, qK, qN, qS⟩ := q
  exact ⟨q0, q1, qP, qD, z_K.moved (u := U) (U := U.calling g mk a) (Vm.Alike.refl U.vm) qK, z_N.same (u := U) (U := U.calling g mk a) rfl qN, z_S.moved (u := U) (U := U.calling g mk a) (Vm.Alike.refl U.vm) qS⟩
theorem z_fr {X : zX} {y : zM} {d : Nat} {L : List (Option Value)} {w : zW} {H : Heap} {locs : List Loc} {ls : Array Slot} (h : zOk X y d) (hD : zDy X y L w H locs ls) : ∀ q, va_A (z_cw (x_G X) w) H.size q → x_A X q := by
  intro q hq
  rcases hq with ⟨k, e, hk⟩ | hq
  · exact hD.2.1.2 k _ hk
  · exact h.A q (Nat.le_trans hD.2.2.1.1 hq)
theorem z_pre {X : zX} {y : zM} {d : Nat} {L : List (Option Value)} {w : zW} {H : Heap} {locs : List Loc} {ls : Array Slot} (h : zOk X y d) (hD : zDy X y L w H locs ls) (as : List Value) : ∀ U : State, U.heap = H → (x_s X).WarmedH U.vm → z_Pc (x_G X) as w H.size (as.map (z_cv (x_G X))).toArray U := by
  intro U hU hW
  refine ⟨rfl, by rw [hU], by rw [hU]; exact hD.1, hD.2.1.weaken (fun _ _ _ _ => trivial), z_K.moved hW.alike h.K, z_N.warm hW h.N, ?_⟩
  have h1 := z_S.moved hW.alike h.S
  have h2 := h1.kept (H1 := H) hD.2.2.1.1 hD.2.2.1.2.1
  rw [hU]
  exact h2.narrow (z_fr h hD)
/-- behind a call -/
theorem z_after {X : zX} {y : zM} {d : Nat} {T : zX → Prop} {L : List (Option Value)} {w : zW} {H : Heap} {locs : List Loc} {ls : Array Slot} {pc : Nat} {st0 rest : List Value} {a : Array Value} {P : Option Value → zW → Prop} (h : zOk X y d) (hT : T X) (hD : zDy X y L w H locs ls)
    (hr : va_Run (x_p X) (x_l X) (x_e X) (x_R X) (x_s X) (x_m X) (x_a X) (x_b X) (x_h X) (x_c X) H locs (x_n X).1 (x_n X).2 0 0 (F0 (x_m X) pc ls st0) (rest.map (z_cv (x_G X))) (z_QC (x_G X) (va_A (z_cw (x_G X) w) H.size) P a) (va_A (z_cw (x_G X) w) H.size))
    (kk : ∀ r w', P r w' → WP y d T (pc + 3) L (r.toList ++ rest) w') : x_W X H locs (F0 (x_m X) pc ls st0) := by
  intro U hU XX
  obtain ⟨v, st₀, t, T', L2, h0, X', hL, e1, e2, ⟨⟨r, w', hv, hp, hb⟩, hz, hk⟩, stt⟩ := hr U hU XX
  cases hv
  rw [h0] at hz hk
  have hS := hD.2.2.1
  obtain ⟨t2, a1, b1⟩ := kk r w' hp X h hT T'.heap (locs ++ L2) ls ⟨by rw [e1]; exact hb, z_D_w hD.2.1, ⟨Nat.le_trans hS.1 (by rw [e1]; exact hz), fun q h1 h2 => by
      rw [e1, hk q (Nat.lt_of_lt_of_le h1 hS.1) (fun z => h2 (z_fr h hD q z))]
      exact hS.2.1 q h1 h2, fun q hq => by
      rcases List.mem_append.mp hq with h | h
      · exact hS.2.2 q h
      · exact z_fr ‹zOk X y d› hD _ (hL q h)⟩, hD.2.2.2⟩ T' rfl X'
  refine ⟨t2, stt t2 ?_, b1⟩
  have e : (r.map (z_cv (x_G X))).toList ++ rest.map (z_cv (x_G X)) = (r.toList ++ rest).map (z_cv (x_G X)) := by cases r <;> simp
  show Steps _ _ _ (T'.setTop { (F0 (x_m X) pc ls st0) with pc := pc + 3, stack := (r.map (z_cv (x_G X))).toList ++ rest.map (z_cv (x_G X)) }) t2
  rw [e]
  exact a1
theorem z_rmo {X : zX} {y y2 : zM} {d d2 np : Nat} (h : zOk X y d) (hm : z_m0 y2 np) (hd : d2 + 1 ≤ d) : (z_rm d2).frames + 1 ≤ (x_R X).frames ∧ 8 + (y2.2.2.1 + 11) + (z_rm d2).locals ≤ (x_R X).locals := by
  obtain ⟨h1, h2, -⟩ := h.room
  have h3 := hm.2.2.2
  refine ⟨Nat.le_trans hd h1, ?_⟩
  show 8 + (y2.2.2.1 + 11) + 64 * d2 ≤ (x_R X).locals
  omega
theorem z_gi {y : zM} {np : Nat} (hm : z_m0 y np) : GoodIn z_WS (z_wsm y) := fun q hq => z_good q (by
  rcases List.mem_cons.mp hq with rfl | hq
  · exact hm.1
  · exact hq)
section CALL
variable {y y2 : zM} {d d2 : Nat} {T : zX → Prop} {pc : Nat} {L : List (Option Value)} {st : List Value} {w : zW} {idx k ci : Nat} {as rest : List Value} {fs : List (Option Nat)}
theorem r_callV {P : Option Value → zW → Prop} (n : Nat) (hd : decode y.2.1 pc = .ok (.invokevirtual idx, 3)) (hl : Cond.methodLink y.1.cls idx y2.1 ∈ z_WS) (hm : z_mV y2 as.length) (hc : CT y2 d2 (.ref k :: as) w P) (hd2 : d2 + 1 ≤ d) (hs : z_shp[k]? = some (.inr (ci, fs))) (hci : ∃ q, vwCl[ci]? = some q ∧ q.1 = y2.1.cls)
    (hst : as.reverse ++ .ref k :: rest = st) (hr : (rest.map fun v => v.category).sum ≤ 8) (hn : pc + 3 = n) (kk : ∀ r w', P r w' → WP y d T n L (r.toList ++ rest) w') : WP y d T pc L st w := by
  subst hn
  subst hst
  intro X h hT H locs ls hD
  obtain ⟨q, hq, hqn⟩ := hci
  obtain ⟨hm0, hmi, hms⟩ := hm
  have hat := z_cw_at (G := x_G X) (w := w) hs
  refine z_after h hT hD (a := (Value.ref ((x_G X).2.1 k) :: as.map (z_cv (x_G X))).toArray) ?_ kk
  refine va_runV (As := as.map (z_cv (x_G X))) (b := (x_G X).2.1 k) (rest := rest.map (z_cv (x_G X))) (C := y2.1.cls) ⟨h.exec, h.code, h.maxL, h.own, h.words⟩ (hc (x_l X) (x_G X) H.size) ⟨callB_of as.length h.words (z_gi hm0) rfl rfl rfl (h.words _ hm0.2.1) (h.words _ hl) hm0.2.2.1 (z_rmo h hm0 hd2), h.words _ hmi, h.words _ hms⟩ ⟨z_fb, ?_, z_pre h hD (.ref k :: as)⟩ rfl (List.length_map _) hD.2.2.2.1 ?_ ?_ hd ⟨h.room.2.2.1, h.room.2.2.2⟩
  · have := va_recv h.K.1 hD.1 hq hat
    rw [hqn] at this
    exact this
  · simp [List.map_append, List.map_reverse, z_cv]
  · refine lv_room ?_
    rw [z_cats h.K.2.2]
    exact hr
theorem r_callS {P : Option Value → zW → Prop} (n : Nat) (hd : decode y.2.1 pc = .ok (.invokestatic idx, 3)) (hl : Cond.methodLink y.1.cls idx y2.1 ∈ z_WS) (hm : z_mS y2 as.length) (hc : CT y2 d2 as w P) (hd2 : d2 + 1 ≤ d)
    (hst : as.reverse ++ rest = st) (hr : (rest.map fun v => v.category).sum ≤ 8) (hn : pc + 3 = n) (kk : ∀ r w', P r w' → WP y d T n L (r.toList ++ rest) w') : WP y d T pc L st w := by
  subst hn
  subst hst
  intro X h hT H locs ls hD
  obtain ⟨hm0, hms⟩ := hm
  refine z_after h hT hD (a := (as.map (z_cv (x_G X))).toArray) ?_ kk
  refine va_runS (As := as.map (z_cv (x_G X))) (rest := rest.map (z_cv (x_G X))) ⟨h.exec, h.code, h.maxL, h.own, h.words⟩ (hc (x_l X) (x_G X) H.size) ⟨callB_of as.length h.words (z_gi hm0) rfl rfl rfl (h.words _ hm0.2.1) (h.words _ hl) hm0.2.2.1 (z_rmo h hm0 hd2), h.words _ hms⟩ ⟨z_fb, z_pre h hD as⟩ rfl (List.length_map _) hD.2.2.2.1 ?_ ?_ hd ⟨h.room.2.2.1, h.room.2.2.2⟩
  · simp [List.map_append, List.map_reverse]
  · refine lv_room ?_
    rw [z_cats h.K.2.2]
    exact hr
theorem r_callSN {P : Option Value → zW → Prop} (n : Nat) (hd : decode y.2.1 pc = .ok (.invokestatic idx, 3)) (hl : Cond.methodLinkNest y.1.cls idx y2.1 RX6 ∈ z_nst) (hm : z_mS y2 as.length) (hc : CT y2 d2 as w P) (hd2 : d2 + 1 ≤ d)
    (hst : as.reverse ++ rest = st) (hr : (rest.map fun v => v.category).sum ≤ 8) (hn : pc + 3 = n) (kk : ∀ r w', P r w' → WP y d T n L (r.toList ++ rest) w') : WP y d T pc L st w := by
  subst hn
  subst hst
  intro X h hT H locs ls hD
  obtain ⟨hm0, hms⟩ := hm
  refine z_after h hT hD (a := (as.map (z_cv (x_G X))).toArray) ?_ kk
  refine va_runSN (As := as.map (z_cv (x_G X))) (rest := rest.map (z_cv (x_G X))) ⟨h.exec, h.code, h.maxL, h.own, h.words⟩ (hc (x_l X) (x_G X) H.size) ⟨va_cnB as.length h.words (z_gi hm0) rfl rfl rfl (h.N.1 _ hl) (h.words _ hm0.2.1) hm0.2.2.1 (z_rmo h hm0 hd2), h.words _ hms, trivial⟩ ⟨z_fb, z_pre h hD as⟩ rfl (List.length_map _) hD.2.2.2.1 ?_ ?_ hd ⟨h.room.2.2.1, h.room.2.2.2⟩
  · simp [List.map_append, List.map_reverse]
  · refine lv_room ?_
    rw [z_cats h.K.2.2]
    exact hr
theorem kk_i {n : Nat} {P : Int32 → zW → Prop} (kk : ∀ x w', P x w' → WP y d T n L (.int x :: rest) w') : ∀ r w', z_i P r w' → WP y d T n L (r.toList ++ rest) w' := by
  rintro r w' ⟨x, rfl, h⟩
  exact kk x w' h
theorem kk_l {n : Nat} {P : Int64 → zW → Prop} (kk : ∀ x w', P x w' → WP y d T n L (.long x :: rest) w') : ∀ r w', z_l P r w' → WP y d T n L (r.toList ++ rest) w' := by
  rintro r w' ⟨x, rfl, h⟩
  exact kk x w' h
theorem kk_v {n : Nat} {P : zW → Prop} (kk : ∀ w', P w' → WP y d T n L rest w') : ∀ r w', z_v P r w' → WP y d T n L (r.toList ++ rest) w' := by
  rintro r w' ⟨rfl, h⟩
  exact kk w' h
theorem r_iret {P : Int32 → zW → Prop} {x : Int32} (ty : FieldType) (hd : decode y.2.1 pc = .ok (.ireturn, 1)) (hy : y.2.2.2 = some ty) (hn : narrow ty (.int x) = .int x) (hP : P x w) : WP y d (z_T (z_i P)) pc L [.int x] w := by
  intro X h hT H locs ls hD
  have e : x_Q X = MQ (x_b X) (z_QC (x_G X) (x_A X) (z_i P)) (x_a X) (x_s X) (x_n X).1 (x_n X).2 (x_A X) := hT
  show W (x_p X) (x_l X) (x_e X) (x_R X) (x_s X) (x_m X) (x_a X) (x_b X) (x_h X) (x_c X) H locs (x_n X).1 (x_n X).2 (x_Q X) _
  rw [e]
  exact W.zret h.exec h.code (h.ret.trans hy) hn (fun t ht hW => ⟨⟨some (.int x), w, rfl, ⟨x, rfl, hP⟩, by rw [ht]; exact hD.1⟩, hD.2.2.1.F ht⟩) hD.2.2.1.2.2 hd h.locks
theorem r_lret {P : Int64 → zW → Prop} {x : Int64} (hd : decode y.2.1 pc = .ok (.lreturn, 1)) (hy : y.2.2.2 = some .long) (hP : P x w) : WP y d (z_T (z_l P)) pc L [.long x] w := by
  intro X h hT H locs ls hD
  have e : x_Q X = MQ (x_b X) (z_QC (x_G X) (x_A X) (z_l P)) (x_a X) (x_s X) (x_n X).1 (x_n X).2 (x_A X) := hT
  show W (x_p X) (x_l X) (x_e X) (x_R X) (x_s X) (x_m X) (x_a X) (x_b X) (x_h X) (x_c X) H locs (x_n X).1 (x_n X).2 (x_Q X) _
  rw [e]
  exact W.lret h.exec h.code (h.ret.trans hy) (fun t ht hW => ⟨⟨some (.long x), w, rfl, ⟨x, rfl, hP⟩, by rw [ht]; exact hD.1⟩, hD.2.2.1.F ht⟩) hD.2.2.1.2.2 hd h.locks
theorem r_vret {P : zW → Prop} (hd : decode y.2.1 pc = .ok (.return_, 1)) (hy : y.2.2.2 = none) (hP : P w) : WP y d (z_T (z_v P)) pc L [] w := by
  intro X h hT H locs ls hD
  have e : x_Q X = MQ (x_b X) (z_QC (x_G X) (x_A X) (z_v P)) (x_a X) (x_s X) (x_n X).1 (x_n X).2 (x_A X) := hT
  show W (x_p X) (x_l X) (x_e X) (x_R X) (x_s X) (x_m X) (x_a X) (x_b X) (x_h X) (x_c X) H locs (x_n X).1 (x_n X).2 (x_Q X) _
  rw [e]
  exact W.vret h.exec h.code (h.ret.trans hy) (fun t ht hW => ⟨⟨none, w, rfl, ⟨rfl, hP⟩, by rw [ht]; exact hD.1⟩, hD.2.2.1.F ht⟩) hD.2.2.1.2.2 hd h.locks
/-! Math, System.arraycopy -/
theorem r_mmax {a b : Int32} (n : Nat) (hd : decode y.2.1 pc = .ok (.invokestatic idx, 3)) (hl : Cond.methodLink y.1.cls idx yJ9_max_7cf53 ∈ z_WS) (hd1 : 1 ≤ d) (hr : (st.map fun v => v.category).sum ≤ 8) (hn : pc + 3 = n) (kk : WP y d T n L (.int (if a < b then b else a) :: st) w) : WP y d T pc L (.int b :: .int a :: st) w := by
  subst hn
  intro X h hT H locs ls hD
  obtain ⟨h1, h2, h3, h4⟩ := h.room
  refine va_mmax h.exec h.code (h.maxL.trans hD.2.2.2.1.symm) h.own (h.words _ hl) (h.words _ st_J9_max_7cf53) (h.words _ in_J9) (h.words _ cw_J9_max_7cf53) (Nat.le_trans hd1 h1) ?_ h3 h4 hd (kk X h hT H locs ls hD)
  rw [z_cats h.K.2.2]
  omega
theorem r_mmin {a b : Int32} (n : Nat) (hd : decode y.2.1 pc = .ok (.invokestatic idx, 3)) (hl : Cond.methodLink y.1.cls idx yJ9_min_7cf53 ∈ z_WS) (hd1 : 1 ≤ d) (hr : (st.map fun v => v.category).sum ≤ 8) (hn : pc + 3 = n) (kk : WP y d T n L (.int (if b < a then b else a) :: st) w) : WP y d T pc L (.int b :: .int a :: st) w := by
  subst hn
  intro X h hT H locs ls hD
  obtain ⟨h1, h2, h3, h4⟩ := h.room
  refine va_mmin h.exec h.code (h.maxL.trans hD.2.2.2.1.symm) h.own (h.words _ hl) (h.words _ st_J9_min_7cf53) (h.words _ in_J9) (h.words _ cw_J9_min_7cf53) (Nat.le_trans hd1 h1) ?_ h3 h4 hd (kk X h hT H locs ls hD)
  rw [z_cats h.K.2.2]
  omega
theorem z_ua_set {G : zG} {w : zW} {k N : Nat} {f : Nat → Int32} {ty : FieldType} (hs : z_shp[k]? = some (.inl (ty, N, none))) : (z_cw G w).set k (G.2.1 k, .inl (G.2.2.1 k, N, .inl f)) = z_cw G (z_ua w k f) := by
  have h := z_cw_set (G := G) (w := w) (w' := z_ua w k f) (e := .inl (ty, N, none)) hs (fun j hj => z_ua_o hj)
  rw [← h]
  simp only [z_ce, z_ua_k]
theorem r_copy {k0 k1 n0 n1 : Nat} {sp dp m : Int32} (n : Nat) (hd : decode y.2.1 pc = .ok (.invokestatic idx, 3)) (hl : Cond.methodLink y.1.cls idx arraycopyName ∈ z_WS) (hd1 : 1 ≤ d) (hs0 : z_shp[k0]? = some (.inl (.int, n0, none))) (hs1 : z_shp[k1]? = some (.inl (.int, n1, none))) (h1 : ¬ sp < 0) (h2 : ¬ dp < 0) (h3 : ¬ m < 0) (h4 : sp.toNatClampNeg + m.toNatClampNeg ≤ n0) (h5 : dp.toNatClampNeg + m.toNatClampNeg ≤ n1)
    (hr : (st.map fun v => v.category).sum ≤ 8) (hn : pc + 3 = n) (kk : WP y d T n L st (z_ua w k1 (va_cpy (w k0) (w k1) sp.toNatClampNeg dp.toNatClampNeg m.toNatClampNeg))) : WP y d T pc L (.int m :: .int dp :: .ref k1 :: .int sp :: .ref k0 :: st) w := by
  subst hn
  intro X h hT H locs ls hD
  obtain ⟨r1, r2, -, -⟩ := h.room
  refine va_copyi (ty := .int) h.exec h.code (h.maxL.trans hD.2.2.2.1.symm) h.own (h.words _ hl) (h.words _ w_acN) (h.words _ w_acS) (h.words _ in_J10) (h.K.two hs0 hs1) hD.1 hD.2.1 hD.2.2.1 k0 k1 0 1 (z_cw_at (G := x_G X) (w := w) hs0) (z_cw_at (G := x_G X) (w := w) hs1) rfl rfl rfl h1 h2 h3 h4 h5 (fun _ _ => rfl) (Nat.le_trans hd1 r1) ?_ hd (fun H1 locs1 hP hDD hS => ?_)
  · rw [z_cats h.K.2.2]
    have : nativeFrameWords "java/lang/System" "arraycopy" 5 = 7 := by decide
    omega
  · rw [z_ua_set hs1] at hP hDD
    exact kk X h hT H1 locs1 ls ⟨hP, hDD, hS, hD.2.2.2⟩
theorem r_copyT {j k0 k1 n1 : Nat} {sp dp m : Int32} (n : Nat) (hd : decode y.2.1 pc = .ok (.invokestatic idx, 3)) (hl : Cond.methodLink y.1.cls idx arraycopyName ∈ z_WS) (hd1 : 1 ≤ d) (hj : j < 4) (hk0 : k0 = 100 + j) (hs1 : z_shp[k1]? = some (.inl (.int, n1, none))) (h1 : ¬ sp < 0) (h2 : ¬ dp < 0) (h3 : ¬ m < 0) (h4 : sp.toNatClampNeg + m.toNatClampNeg ≤ (z_sar.getD j []).length) (h5 : dp.toNatClampNeg + m.toNatClampNeg ≤ n1)
    (hr : (st.map fun v => v.category).sum ≤ 8) (hn : pc + 3 = n) (kk : WP y d T n L st (z_ua w k1 (va_cpy (fun i => (z_sar.getD j []).getD i 0) (w k1) sp.toNatClampNeg dp.toNatClampNeg m.toNatClampNeg))) : WP y d T pc L (.int m :: .int dp :: .ref k1 :: .int sp :: .ref k0 :: st) w := by
  subst hn
  subst hk0
  intro X h hT H locs ls hD
  obtain ⟨r1, r2, -, -⟩ := h.room
  refine va_copyx h.exec h.code (h.maxL.trans hD.2.2.2.1.symm) h.own (h.words _ hl) (h.words _ w_acN) (h.words _ w_acS) (h.words _ in_J10) (h.K.one hs1) hD.1 hD.2.1 hD.2.2.1 (h.S.1 j hj).2.1 (h.S.1 j hj).2.2.1 (h.S.1 j hj).2.2.2 k1 0 (z_cw_at (G := x_G X) (w := w) hs1) rfl h1 h2 h3 h4 h5 (Nat.le_trans hd1 r1) ?_ hd (fun H1 locs1 hP hDD hS => ?_)
  · rw [z_cats h.K.2.2]
    have : nativeFrameWords "java/lang/System" "arraycopy" 5 = 7 := by decide
    omega
  · rw [z_ua_set hs1] at hP hDD
    exact kk X h hT H1 locs1 ls ⟨hP, hDD, hS, hD.2.2.2⟩
end CALL
end
section
/-! ===== links, by program ===== -/
theorem sh_0 : z_shp[0]? = some (.inr (6, [some 1, some 6, some 26, none, some 27, some 29, some 30, some 36, some 39, some 40, some 41, none])) := rfl
theorem sh_1 : z_shp[1]? = some (.inr (1, [some 2, some 3, none, none, none, some 4, some 5])) := rfl
theorem sh_2 : z_shp[2]? = some (.inl (.int, 6, none)) := rfl
theorem sh_3 : z_shp[3]? = some (.inl (.int, 30, none)) := rfl
theorem sh_4 : z_shp[4]? = some (.inl (.int, 6, none)) := rfl
theorem sh_5 : z_shp[5]? = some (.inl (.int, 6, none)) := rfl
theorem sh_6 : z_shp[6]? = some (.inr (1, [some 7, some 8, none, none, none, some 9, some 10])) := rfl
theorem sh_7 : z_shp[7]? = some (.inl (.int, 6, none)) := rfl
theorem sh_8 : z_shp[8]? = some (.inl (.int, 30, none)) := rfl
theorem sh_9 : z_shp[9]? = some (.inl (.int, 6, none)) := rfl
theorem sh_10 : z_shp[10]? = some (.inl (.int, 6, none)) := rfl
theorem sh_11 : z_shp[11]? = some (.inr (1, [some 12, some 13, none, none, none, some 14, some 15])) := rfl
theorem sh_12 : z_shp[12]? = some (.inl (.int, 6, none)) := rfl
theorem sh_13 : z_shp[13]? = some (.inl (.int, 30, none)) := rfl
theorem sh_14 : z_shp[14]? = some (.inl (.int, 6, none)) := rfl
theorem sh_15 : z_shp[15]? = some (.inl (.int, 6, none)) := rfl
theorem sh_16 : z_shp[16]? = some (.inr (1, [some 17, some 18, none, none, none, some 19, some 20])) := rfl
theorem sh_17 : z_shp[17]? = some (.inl (.int, 6, none)) := rfl
theorem sh_18 : z_shp[18]? = some (.inl (.int, 30, none)) := rfl
theorem sh_19 : z_shp[19]? = some (.inl (.int, 6, none)) := rfl
theorem sh_20 : z_shp[20]? = some (.inl (.int, 6, none)) := rfl
theorem sh_21 : z_shp[21]? = some (.inr (1, [some 22, some 23, none, none, none, some 24, some 25])) := rfl
theorem sh_22 : z_shp[22]? = some (.inl (.int, 6, none)) := rfl
theorem sh_23 : z_shp[23]? = some (.inl (.int, 30, none)) := rfl
theorem sh_24 : z_shp[24]? = some (.inl (.int, 6, none)) := rfl
theorem sh_25 : z_shp[25]? = some (.inl (.int, 6, none)) := rfl
theorem sh_26 : z_shp[26]? = some (.inl (.object RX1, 2, some [11, 16])) := rfl
theorem sh_27 : z_shp[27]? = some (.inr (4, [some 28, none, none, none, none, none])) := rfl
theorem sh_28 : z_shp[28]? = some (.inl (.byte, 160, none)) := rfl
theorem sh_29 : z_shp[29]? = some (.inr (5, [some 21, none, some 27, none, none])) := rfl
theorem sh_30 : z_shp[30]? = some (.inr (0, [some 31, some 32, some 33, some 34, some 35, none, none, none, none, none, none, none, none])) := rfl
theorem sh_31 : z_shp[31]? = some (.inl (.int, 6, none)) := rfl
theorem sh_32 : z_shp[32]? = some (.inl (.int, 6, none)) := rfl
theorem sh_33 : z_shp[33]? = some (.inl (.int, 6, none)) := rfl
theorem sh_34 : z_shp[34]? = some (.inl (.int, 6, none)) := rfl
theorem sh_35 : z_shp[35]? = some (.inl (.int, 6, none)) := rfl
theorem sh_36 : z_shp[36]? = some (.inr (2, [none, some 37, some 38])) := rfl
theorem sh_37 : z_shp[37]? = some (.inl (.int, 6, none)) := rfl
theorem sh_38 : z_shp[38]? = some (.inl (.int, 6, none)) := rfl
theorem sh_39 : z_shp[39]? = some (.inl (.int, 6, none)) := rfl
theorem sh_40 : z_shp[40]? = some (.inl (.int, 384, none)) := rfl
theorem sh_41 : z_shp[41]? = some (.inl (.object RX3, 4, some [42, 44, 46, 48])) := rfl
theorem sh_42 : z_shp[42]? = some (.inr (3, [some 43, none, none])) := rfl
theorem sh_43 : z_shp[43]? = some (.inl (.int, 40, none)) := rfl
theorem sh_44 : z_shp[44]? = some (.inr (3, [some 45, none, none])) := rfl
theorem sh_45 : z_shp[45]? = some (.inl (.int, 40, none)) := rfl
theorem sh_46 : z_shp[46]? = some (.inr (3, [some 47, none, none])) := rfl
theorem sh_47 : z_shp[47]? = some (.inl (.int, 40, none)) := rfl
theorem sh_48 : z_shp[48]? = some (.inr (3, [some 49, none, none])) := rfl
theorem sh_49 : z_shp[49]? = some (.inl (.int, 40, none)) := rfl
theorem sh_50 : z_shp[50]? = some (.inr (7, [some 51, some 52, some 53, none, some 54, none, none, none, none, some 55, none, none, none, none, none, none, none, none, some 56, some 57, some 58, none, none, none, none, none, some 59, some 60, some 61, some 62, none, some 63])) := rfl
theorem sh_51 : z_shp[51]? = some (.inl (.int, 165, none)) := rfl
theorem sh_52 : z_shp[52]? = some (.inl (.int, 55, none)) := rfl
theorem sh_53 : z_shp[53]? = some (.inl (.boolean, 2, none)) := rfl
theorem sh_54 : z_shp[54]? = some (.inl (.int, 55, none)) := rfl
theorem sh_55 : z_shp[55]? = some (.inl (.int, 160, none)) := rfl
theorem sh_56 : z_shp[56]? = some (.inl (.int, 6, none)) := rfl
theorem sh_57 : z_shp[57]? = some (.inl (.int, 6, none)) := rfl
theorem sh_58 : z_shp[58]? = some (.inl (.int, 6, none)) := rfl
theorem sh_59 : z_shp[59]? = some (.inl (.int, 6, none)) := rfl
theorem sh_60 : z_shp[60]? = some (.inl (.int, 4, none)) := rfl
theorem sh_61 : z_shp[61]? = some (.inl (.int, 4, none)) := rfl
theorem sh_62 : z_shp[62]? = some (.inl (.int, 160, none)) := rfl
theorem sh_63 : z_shp[63]? = some (.inl (.int, 55, none)) := rfl
theorem fz_X1_18 : z_fl RX1 18 1 0 := ⟨_, rfl, by decide, fl_X1_18⟩
theorem fz_X2_25 : z_fl RX2 25 1 0 := ⟨_, rfl, by decide, fl_X2_25⟩
theorem fz_X5_100 : z_fl RX5 100 1 0 := ⟨_, rfl, by decide, fl_X5_100⟩
theorem fz_X6_102 : z_fl RX6 102 1 0 := ⟨_, rfl, by decide, fl_X6_102⟩
theorem fz_X0_86 : z_fl RX0 86 1 0 := ⟨_, rfl, by decide, fl_X0_86⟩
theorem fz_X1_23 : z_fl RX1 23 1 1 := ⟨_, rfl, by decide, fl_X1_23⟩
theorem fz_X0_31 : z_fl RX0 31 1 2 := ⟨_, rfl, by decide, fl_X0_31⟩
theorem fz_X1_38 : z_fl RX1 38 1 2 := ⟨_, rfl, by decide, fl_X1_38⟩
theorem fz_X5_50 : z_fl RX5 50 1 2 := ⟨_, rfl, by decide, fl_X5_50⟩
theorem fz_X2_34 : z_fl RX2 34 1 2 := ⟨_, rfl, by decide, fl_X2_34⟩
theorem fz_X6_96 : z_fl RX6 96 1 2 := ⟨_, rfl, by decide, fl_X6_96⟩
theorem fz_X1_42 : z_fl RX1 42 1 3 := ⟨_, rfl, by decide, fl_X1_42⟩
theorem fz_X5_47 : z_fl RX5 47 1 3 := ⟨_, rfl, by decide, fl_X5_47⟩
theorem fz_X6_99 : z_fl RX6 99 1 3 := ⟨_, rfl, by decide, fl_X6_99⟩
theorem fz_X1_45 : z_fl RX1 45 1 4 := ⟨_, rfl, by decide, fl_X1_45⟩
theorem fz_X6_238 : z_fl RX6 238 1 4 := ⟨_, rfl, by decide, fl_X6_238⟩
theorem fz_X1_26 : z_fl RX1 26 1 5 := ⟨_, rfl, by decide, fl_X1_26⟩
theorem fz_X1_29 : z_fl RX1 29 1 6 := ⟨_, rfl, by decide, fl_X1_29⟩
theorem fz_X4_9 : z_fl RX4 9 4 0 := ⟨_, rfl, by decide, fl_X4_9⟩
theorem fz_X4_13 : z_fl RX4 13 4 1 := ⟨_, rfl, by decide, fl_X4_13⟩
theorem fz_X6_75 : z_fl RX6 75 4 1 := ⟨_, rfl, by decide, fl_X6_75⟩
theorem fz_X5_53 : z_fl RX5 53 4 1 := ⟨_, rfl, by decide, fl_X5_53⟩
theorem fz_X4_17 : z_fl RX4 17 4 2 := ⟨_, rfl, by decide, fl_X4_17⟩
theorem fz_X5_40 : z_fl RX5 40 4 3 := ⟨_, rfl, by decide, fl_X5_40⟩
theorem fz_X4_30 : z_fl RX4 30 4 3 := ⟨_, rfl, by decide, fl_X4_30⟩
theorem fz_X4_20 : z_fl RX4 20 4 4 := ⟨_, rfl, by decide, fl_X4_20⟩
theorem fz_X5_151 : z_fl RX5 151 4 4 := ⟨_, rfl, by decide, fl_X5_151⟩
theorem fz_X4_23 : z_fl RX4 23 4 5 := ⟨_, rfl, by decide, fl_X4_23⟩
theorem fz_X5_120 : z_fl RX5 120 4 5 := ⟨_, rfl, by decide, fl_X5_120⟩
theorem fz_X5_18 : z_fl RX5 18 5 0 := ⟨_, rfl, by decide, fl_X5_18⟩
theorem fz_X6_83 : z_fl RX6 83 5 0 := ⟨_, rfl, by decide, fl_X6_83⟩
theorem fz_X5_30 : z_fl RX5 30 5 1 := ⟨_, rfl, by decide, fl_X5_30⟩
theorem fz_X6_93 : z_fl RX6 93 5 1 := ⟨_, rfl, by decide, fl_X6_93⟩
theorem fz_X5_9 : z_fl RX5 9 5 2 := ⟨_, rfl, by decide, fl_X5_9⟩
theorem fz_X5_60 : z_fl RX5 60 5 3 := ⟨_, rfl, by decide, fl_X5_60⟩
theorem fz_X5_34 : z_fl RX5 34 5 4 := ⟨_, rfl, by decide, fl_X5_34⟩
theorem fz_X0_9 : z_fl RX0 9 0 0 := ⟨_, rfl, by decide, fl_X0_9⟩
theorem fz_X6_135 : z_fl RX6 135 0 0 := ⟨_, rfl, by decide, fl_X6_135⟩
theorem fz_X0_15 : z_fl RX0 15 0 1 := ⟨_, rfl, by decide, fl_X0_15⟩
theorem fz_X6_138 : z_fl RX6 138 0 1 := ⟨_, rfl, by decide, fl_X6_138⟩
theorem fz_X0_18 : z_fl RX0 18 0 2 := ⟨_, rfl, by decide, fl_X0_18⟩
theorem fz_X6_141 : z_fl RX6 141 0 2 := ⟨_, rfl, by decide, fl_X6_141⟩
theorem fz_X0_21 : z_fl RX0 21 0 3 := ⟨_, rfl, by decide, fl_X0_21⟩
theorem fz_X0_24 : z_fl RX0 24 0 4 := ⟨_, rfl, by decide, fl_X0_24⟩
theorem fz_X0_80 : z_fl RX0 80 0 5 := ⟨_, rfl, by decide, fl_X0_80⟩
theorem fz_X0_83 : z_fl RX0 83 0 6 := ⟨_, rfl, by decide, fl_X0_83⟩
theorem fz_X0_70 : z_fl RX0 70 0 7 := ⟨_, rfl, by decide, fl_X0_70⟩
theorem fz_X0_89 : z_fl RX0 89 0 8 := ⟨_, rfl, by decide, fl_X0_89⟩
theorem fz_X0_64 : z_fl RX0 64 0 9 := ⟨_, rfl, by decide, fl_X0_64⟩
theorem fz_X0_67 : z_fl RX0 67 0 10 := ⟨_, rfl, by decide, fl_X0_67⟩
theorem fz_X0_73 : z_fl RX0 73 0 11 := ⟨_, rfl, by decide, fl_X0_73⟩
theorem fz_X0_61 : z_fl RX0 61 0 12 := ⟨_, rfl, by decide, fl_X0_61⟩
theorem fz_X6_201 : z_fl RX6 201 0 12 := ⟨_, rfl, by decide, fl_X6_201⟩
theorem fz_X2_21 : z_fl RX2 21 2 0 := ⟨_, rfl, by decide, fl_X2_21⟩
theorem fz_X6_166 : z_fl RX6 166 2 0 := ⟨_, rfl, by decide, fl_X6_166⟩
theorem fz_X2_9 : z_fl RX2 9 2 1 := ⟨_, rfl, by decide, fl_X2_9⟩
theorem fz_X6_169 : z_fl RX6 169 2 1 := ⟨_, rfl, by decide, fl_X6_169⟩
theorem fz_X2_15 : z_fl RX2 15 2 2 := ⟨_, rfl, by decide, fl_X2_15⟩
theorem fz_X3_11 : z_fl RX3 11 3 0 := ⟨_, rfl, by decide, fl_X3_11⟩
theorem fz_X3_23 : z_fl RX3 23 3 1 := ⟨_, rfl, by decide, fl_X3_23⟩
theorem fz_X3_15 : z_fl RX3 15 3 2 := ⟨_, rfl, by decide, fl_X3_15⟩
theorem fz_X6_292 : z_fl RX6 292 3 2 := ⟨_, rfl, by decide, fl_X6_292⟩
theorem fz_X6_10 : z_fl RX6 10 6 0 := ⟨_, rfl, by decide, fl_X6_10⟩
theorem fz_X6_16 : z_fl RX6 16 6 1 := ⟨_, rfl, by decide, fl_X6_16⟩
theorem fz_X6_19 : z_fl RX6 19 6 2 := ⟨_, rfl, by decide, fl_X6_19⟩
theorem fz_X6_90 : z_fl RX6 90 6 3 := ⟨_, rfl, by decide, fl_X6_90⟩
theorem fz_X6_26 : z_fl RX6 26 6 4 := ⟨_, rfl, by decide, fl_X6_26⟩
theorem fz_X6_35 : z_fl RX6 35 6 5 := ⟨_, rfl, by decide, fl_X6_35⟩
theorem fz_X6_42 : z_fl RX6 42 6 6 := ⟨_, rfl, by decide, fl_X6_42⟩
theorem fz_X6_49 : z_fl RX6 49 6 7 := ⟨_, rfl, by decide, fl_X6_49⟩
theorem fz_X6_53 : z_fl RX6 53 6 8 := ⟨_, rfl, by decide, fl_X6_53⟩
theorem fz_X6_57 : z_fl RX6 57 6 9 := ⟨_, rfl, by decide, fl_X6_57⟩
theorem fz_X6_62 : z_fl RX6 62 6 10 := ⟨_, rfl, by decide, fl_X6_62⟩
theorem fz_X6_279 : z_fl RX6 279 6 11 := ⟨_, rfl, by decide, fl_X6_279⟩
theorem fz_X7_7 : z_fl RX7 7 7 0 := ⟨_, rfl, by decide, fl_X7_7⟩
theorem fz_X7_13 : z_fl RX7 13 7 1 := ⟨_, rfl, by decide, fl_X7_13⟩
theorem fz_X7_16 : z_fl RX7 16 7 2 := ⟨_, rfl, by decide, fl_X7_16⟩
theorem fz_X7_69 : z_fl RX7 69 7 3 := ⟨_, rfl, by decide, fl_X7_69⟩
theorem fz_X7_20 : z_fl RX7 20 7 4 := ⟨_, rfl, by decide, fl_X7_20⟩
theorem fz_X7_56 : z_fl RX7 56 7 5 := ⟨_, rfl, by decide, fl_X7_56⟩
theorem fz_X7_60 : z_fl RX7 60 7 6 := ⟨_, rfl, by decide, fl_X7_60⟩
theorem fz_X7_63 : z_fl RX7 63 7 7 := ⟨_, rfl, by decide, fl_X7_63⟩
theorem fz_X7_66 : z_fl RX7 66 7 8 := ⟨_, rfl, by decide, fl_X7_66⟩
theorem fz_X7_23 : z_fl RX7 23 7 9 := ⟨_, rfl, by decide, fl_X7_23⟩
theorem fz_X7_78 : z_fl RX7 78 7 10 := ⟨_, rfl, by decide, fl_X7_78⟩
theorem fz_X7_90 : z_fl RX7 90 7 11 := ⟨_, rfl, by decide, fl_X7_90⟩
theorem fz_X7_84 : z_fl RX7 84 7 12 := ⟨_, rfl, by decide, fl_X7_84⟩
theorem fz_X7_105 : z_fl RX7 105 7 13 := ⟨_, rfl, by decide, fl_X7_105⟩
theorem fz_X7_116 : z_fl RX7 116 7 14 := ⟨_, rfl, by decide, fl_X7_116⟩
theorem fz_X7_81 : z_fl RX7 81 7 15 := ⟨_, rfl, by decide, fl_X7_81⟩
theorem fz_X7_87 : z_fl RX7 87 7 16 := ⟨_, rfl, by decide, fl_X7_87⟩
theorem fz_X7_163 : z_fl RX7 163 7 17 := ⟨_, rfl, by decide, fl_X7_163⟩
theorem fz_X7_26 : z_fl RX7 26 7 18 := ⟨_, rfl, by decide, fl_X7_26⟩
theorem fz_X7_29 : z_fl RX7 29 7 19 := ⟨_, rfl, by decide, fl_X7_29⟩
theorem fz_X7_32 : z_fl RX7 32 7 20 := ⟨_, rfl, by decide, fl_X7_32⟩
theorem fz_X7_169 : z_fl RX7 169 7 21 := ⟨_, rfl, by decide, fl_X7_169⟩
theorem fz_X7_172 : z_fl RX7 172 7 22 := ⟨_, rfl, by decide, fl_X7_172⟩
theorem fz_X7_175 : z_fl RX7 175 7 23 := ⟨_, rfl, by decide, fl_X7_175⟩
theorem fz_X7_178 : z_fl RX7 178 7 24 := ⟨_, rfl, by decide, fl_X7_178⟩
theorem fz_X7_181 : z_fl RX7 181 7 25 := ⟨_, rfl, by decide, fl_X7_181⟩
theorem fz_X7_35 : z_fl RX7 35 7 26 := ⟨_, rfl, by decide, fl_X7_35⟩
theorem fz_X7_38 : z_fl RX7 38 7 27 := ⟨_, rfl, by decide, fl_X7_38⟩
theorem fz_X7_41 : z_fl RX7 41 7 28 := ⟨_, rfl, by decide, fl_X7_41⟩
theorem fz_X7_44 : z_fl RX7 44 7 29 := ⟨_, rfl, by decide, fl_X7_44⟩
theorem fz_X7_335 : z_fl RX7 335 7 30 := ⟨_, rfl, by decide, fl_X7_335⟩
theorem fz_X7_47 : z_fl RX7 47 7 31 := ⟨_, rfl, by decide, fl_X7_47⟩
theorem fw_0_5 : z_fw 0 5 := ⟨_, rfl, rfl, by decide +kernel⟩
theorem fw_0_6 : z_fw 0 6 := ⟨_, rfl, rfl, by decide +kernel⟩
theorem fw_0_7 : z_fw 0 7 := ⟨_, rfl, rfl, by decide +kernel⟩
theorem fw_0_8 : z_fw 0 8 := ⟨_, rfl, rfl, by decide +kernel⟩
theorem fw_0_9 : z_fw 0 9 := ⟨_, rfl, rfl, by decide +kernel⟩
theorem fw_0_10 : z_fw 0 10 := ⟨_, rfl, rfl, by decide +kernel⟩
theorem fw_0_11 : z_fw 0 11 := ⟨_, rfl, rfl, by decide +kernel⟩
theorem fw_0_12 : z_fw 0 12 := ⟨_, rfl, rfl, by decide +kernel⟩
theorem fw_1_2 : z_fw 1 2 := ⟨_, rfl, rfl, by decide +kernel⟩
theorem fw_1_3 : z_fw 1 3 := ⟨_, rfl, rfl, by decide +kernel⟩
theorem fw_1_4 : z_fw 1 4 := ⟨_, rfl, rfl, by decide +kernel⟩
theorem fw_2_0 : z_fw 2 0 := ⟨_, rfl, rfl, by decide +kernel⟩
theorem fw_3_1 : z_fw 3 1 := ⟨_, rfl, rfl, by decide +kernel⟩
theorem fw_3_2 : z_fw 3 2 := ⟨_, rfl, rfl, by decide +kernel⟩
theorem fw_4_1 : z_fw 4 1 := ⟨_, rfl, rfl, by decide +kernel⟩
theorem fw_4_2 : z_fw 4 2 := ⟨_, rfl, rfl, by decide +kernel⟩
theorem fw_4_3 : z_fw 4 3 := ⟨_, rfl, rfl, by decide +kernel⟩
theorem fw_4_4 : z_fw 4 4 := ⟨_, rfl, rfl, by decide +kernel⟩
theorem fw_4_5 : z_fw 4 5 := ⟨_, rfl, rfl, by decide +kernel⟩
theorem fw_5_1 : z_fw 5 1 := ⟨_, rfl, rfl, by decide +kernel⟩
theorem fw_5_3 : z_fw 5 3 := ⟨_, rfl, rfl, by decide +kernel⟩
theorem fw_5_4 : z_fw 5 4 := ⟨_, rfl, rfl, by decide +kernel⟩
theorem fw_6_3 : z_fw 6 3 := ⟨_, rfl, rfl, by decide +kernel⟩
theorem fw_6_11 : z_fw 6 11 := ⟨_, rfl, rfl, by decide +kernel⟩
theorem fw_7_3 : z_fw 7 3 := ⟨_, rfl, rfl, by decide +kernel⟩
theorem fw_7_5 : z_fw 7 5 := ⟨_, rfl, rfl, by decide +kernel⟩
theorem fw_7_6 : z_fw 7 6 := ⟨_, rfl, rfl, by decide +kernel⟩
theorem fw_7_7 : z_fw 7 7 := ⟨_, rfl, rfl, by decide +kernel⟩
theorem fw_7_8 : z_fw 7 8 := ⟨_, rfl, rfl, by decide +kernel⟩
theorem fw_7_10 : z_fw 7 10 := ⟨_, rfl, rfl, by decide +kernel⟩
theorem fw_7_11 : z_fw 7 11 := ⟨_, rfl, rfl, by decide +kernel⟩
theorem fw_7_12 : z_fw 7 12 := ⟨_, rfl, rfl, by decide +kernel⟩
theorem fw_7_13 : z_fw 7 13 := ⟨_, rfl, rfl, by decide +kernel⟩
theorem fw_7_14 : z_fw 7 14 := ⟨_, rfl, rfl, by decide +kernel⟩
theorem fw_7_15 : z_fw 7 15 := ⟨_, rfl, rfl, by decide +kernel⟩
theorem fw_7_16 : z_fw 7 16 := ⟨_, rfl, rfl, by decide +kernel⟩
theorem fw_7_17 : z_fw 7 17 := ⟨_, rfl, rfl, by decide +kernel⟩
theorem fw_7_21 : z_fw 7 21 := ⟨_, rfl, rfl, by decide +kernel⟩
theorem fw_7_22 : z_fw 7 22 := ⟨_, rfl, rfl, by decide +kernel⟩
theorem fw_7_23 : z_fw 7 23 := ⟨_, rfl, rfl, by decide +kernel⟩
theorem fw_7_24 : z_fw 7 24 := ⟨_, rfl, rfl, by decide +kernel⟩
theorem fw_7_25 : z_fw 7 25 := ⟨_, rfl, rfl, by decide +kernel⟩
theorem fw_7_30 : z_fw 7 30 := ⟨_, rfl, rfl, by decide +kernel⟩
theorem mv_X0_by : z_mV mX0_by 4 := ⟨⟨cw_X0_by, in_X0, ⟨by decide +kernel, by decide +kernel, by decide +kernel⟩, by decide⟩, im_X0_by, se_X0_by⟩
theorem mv_X0_inOrder : z_mV mX0_inOrder 2 := ⟨⟨cw_X0_inOrder, in_X0, ⟨by decide +kernel, by decide +kernel, by decide +kernel⟩, by decide⟩, im_X0_inOrder, se_X0_inOrder⟩
theorem mv_X0_measure : z_mV mX0_measure 1 := ⟨⟨cw_X0_measure, in_X0, ⟨by decide +kernel, by decide +kernel, by decide +kernel⟩, by decide⟩, im_X0_measure, se_X0_measure⟩
theorem mv_X0_costOf : z_mV mX0_costOf 2 := ⟨⟨cw_X0_costOf, in_X0, ⟨by decide +kernel, by decide +kernel, by decide +kernel⟩, by decide⟩, im_X0_costOf, se_X0_costOf⟩
theorem mv_X0_isAsSeen : z_mV mX0_isAsSeen 1 := ⟨⟨cw_X0_isAsSeen, in_X0, ⟨by decide +kernel, by decide +kernel, by decide +kernel⟩, by decide⟩, im_X0_isAsSeen, se_X0_isAsSeen⟩
theorem mv_X0_begin : z_mV mX0_begin 1 := ⟨⟨cw_X0_begin, in_X0, ⟨by decide +kernel, by decide +kernel, by decide +kernel⟩, by decide⟩, im_X0_begin, se_X0_begin⟩
theorem mv_X0_waitForOne : z_mV mX0_waitForOne 1 := ⟨⟨cw_X0_waitForOne, in_X0, ⟨by decide +kernel, by decide +kernel, by decide +kernel⟩, by decide⟩, im_X0_waitForOne, se_X0_waitForOne⟩
theorem mv_X0_waits : z_mV mX0_waits 1 := ⟨⟨cw_X0_waits, in_X0, ⟨by decide +kernel, by decide +kernel, by decide +kernel⟩, by decide⟩, im_X0_waits, se_X0_waits⟩
theorem mv_X0_chosen : z_mV mX0_chosen 3 := ⟨⟨cw_X0_chosen, in_X0, ⟨by decide +kernel, by decide +kernel, by decide +kernel⟩, by decide⟩, im_X0_chosen, se_X0_chosen⟩
theorem mv_X0_rank : z_mV mX0_rank 4 := ⟨⟨cw_X0_rank, in_X0, ⟨by decide +kernel, by decide +kernel, by decide +kernel⟩, by decide⟩, im_X0_rank, se_X0_rank⟩
theorem mv_X0_sideAhead : z_mV mX0_sideAhead 2 := ⟨⟨cw_X0_sideAhead, in_X0, ⟨by decide +kernel, by decide +kernel, by decide +kernel⟩, by decide⟩, im_X0_sideAhead, se_X0_sideAhead⟩
theorem mv_X0_sideByTwos : z_mV mX0_sideByTwos 1 := ⟨⟨cw_X0_sideByTwos, in_X0, ⟨by decide +kernel, by decide +kernel, by decide +kernel⟩, by decide⟩, im_X0_sideByTwos, se_X0_sideByTwos⟩
theorem mv_X0_sideByQueue : z_mV mX0_sideByQueue 1 := ⟨⟨cw_X0_sideByQueue, in_X0, ⟨by decide +kernel, by decide +kernel, by decide +kernel⟩, by decide⟩, im_X0_sideByQueue, se_X0_sideByQueue⟩
theorem mv_X0_admit : z_mV mX0_admit 2 := ⟨⟨cw_X0_admit, in_X0, ⟨by decide +kernel, by decide +kernel, by decide +kernel⟩, by decide⟩, im_X0_admit, se_X0_admit⟩
theorem mv_X1_clear : z_mV mX1_clear 0 := ⟨⟨cw_X1_clear, in_X1, ⟨by decide +kernel, by decide +kernel, by decide +kernel⟩, by decide⟩, im_X1_clear, se_X1_clear⟩
theorem mv_X1_copyFrom : z_mV mX1_copyFrom 1 := ⟨⟨cw_X1_copyFrom, in_X1, ⟨by decide +kernel, by decide +kernel, by decide +kernel⟩, by decide⟩, im_X1_copyFrom, se_X1_copyFrom⟩
theorem mv_X1_mark : z_mV mX1_mark 2 := ⟨⟨cw_X1_mark, in_X1, ⟨by decide +kernel, by decide +kernel, by decide +kernel⟩, by decide⟩, im_X1_mark, se_X1_mark⟩
theorem mv_X1_setMark : z_mV mX1_setMark 3 := ⟨⟨cw_X1_setMark, in_X1, ⟨by decide +kernel, by decide +kernel, by decide +kernel⟩, by decide⟩, im_X1_setMark, se_X1_setMark⟩
theorem mv_X1_countsFrom : z_mV mX1_countsFrom 1 := ⟨⟨cw_X1_countsFrom, in_X1, ⟨by decide +kernel, by decide +kernel, by decide +kernel⟩, by decide⟩, im_X1_countsFrom, se_X1_countsFrom⟩
theorem mv_X1_boatsFrom : z_mV mX1_boatsFrom 1 := ⟨⟨cw_X1_boatsFrom, in_X1, ⟨by decide +kernel, by decide +kernel, by decide +kernel⟩, by decide⟩, im_X1_boatsFrom, se_X1_boatsFrom⟩
theorem mv_X1_addSeen : z_mV mX1_addSeen 2 := ⟨⟨cw_X1_addSeen, in_X1, ⟨by decide +kernel, by decide +kernel, by decide +kernel⟩, by decide⟩, im_X1_addSeen, se_X1_addSeen⟩
theorem mv_X1_wasSeenAs : z_mV mX1_wasSeenAs 1 := ⟨⟨cw_X1_wasSeenAs, in_X1, ⟨by decide +kernel, by decide +kernel, by decide +kernel⟩, by decide⟩, im_X1_wasSeenAs, se_X1_wasSeenAs⟩
theorem mv_X2_seekLeastCost : z_mV mX2_seekLeastCost 1 := ⟨⟨cw_X2_seekLeastCost, in_X2, ⟨by decide +kernel, by decide +kernel, by decide +kernel⟩, by decide⟩, im_X2_seekLeastCost, se_X2_seekLeastCost⟩
theorem mv_X2_seek : z_mV mX2_seek 6 := ⟨⟨cw_X2_seek, in_X2, ⟨by decide +kernel, by decide +kernel, by decide +kernel⟩, by decide⟩, im_X2_seek, se_X2_seek⟩
theorem ms_X3_isLane : z_mS mX3_isLane 1 := ⟨⟨cw_X3_isLane, in_X3, ⟨by decide +kernel, by decide +kernel, by decide +kernel⟩, by decide⟩, st_X3_isLane⟩
theorem mv_X3_isNothing : z_mV mX3_isNothing 0 := ⟨⟨cw_X3_isNothing, in_X3, ⟨by decide +kernel, by decide +kernel, by decide +kernel⟩, by decide⟩, im_X3_isNothing, se_X3_isNothing⟩
theorem mv_X3_renew : z_mV mX3_renew 2 := ⟨⟨cw_X3_renew, in_X3, ⟨by decide +kernel, by decide +kernel, by decide +kernel⟩, by decide⟩, im_X3_renew, se_X3_renew⟩
theorem mv_X3_put : z_mV mX3_put 2 := ⟨⟨cw_X3_put, in_X3, ⟨by decide +kernel, by decide +kernel, by decide +kernel⟩, by decide⟩, im_X3_put, se_X3_put⟩
theorem mv_X3_cell : z_mV mX3_cell 1 := ⟨⟨cw_X3_cell, in_X3, ⟨by decide +kernel, by decide +kernel, by decide +kernel⟩, by decide⟩, im_X3_cell, se_X3_cell⟩
theorem mv_X3_faultAt : z_mV mX3_faultAt 1 := ⟨⟨cw_X3_faultAt, in_X3, ⟨by decide +kernel, by decide +kernel, by decide +kernel⟩, by decide⟩, im_X3_faultAt, se_X3_faultAt⟩
theorem mv_X3_faultOfPair : z_mV mX3_faultOfPair 2 := ⟨⟨cw_X3_faultOfPair, in_X3, ⟨by decide +kernel, by decide +kernel, by decide +kernel⟩, by decide⟩, im_X3_faultOfPair, se_X3_faultOfPair⟩
theorem mv_X4_append : z_mV mX4_append 1 := ⟨⟨cw_X4_append, in_X4, ⟨by decide +kernel, by decide +kernel, by decide +kernel⟩, by decide⟩, im_X4_append, se_X4_append⟩
theorem mv_X4_rewind : z_mV mX4_rewind 0 := ⟨⟨cw_X4_rewind, in_X4, ⟨by decide +kernel, by decide +kernel, by decide +kernel⟩, by decide⟩, im_X4_rewind, se_X4_rewind⟩
theorem mv_X4_next : z_mV mX4_next 0 := ⟨⟨cw_X4_next, in_X4, ⟨by decide +kernel, by decide +kernel, by decide +kernel⟩, by decide⟩, im_X4_next, se_X4_next⟩
theorem ms_X4_kindOf : z_mS mX4_kindOf 1 := ⟨⟨cw_X4_kindOf, in_X4, ⟨by decide +kernel, by decide +kernel, by decide +kernel⟩, by decide⟩, st_X4_kindOf⟩
theorem mv_X4_valueNumber : z_mV mX4_valueNumber 0 := ⟨⟨cw_X4_valueNumber, in_X4, ⟨by decide +kernel, by decide +kernel, by decide +kernel⟩, by decide⟩, im_X4_valueNumber, se_X4_valueNumber⟩
theorem mv_X4_isName : z_mV mX4_isName 1 := ⟨⟨cw_X4_isName, in_X4, ⟨by decide +kernel, by decide +kernel, by decide +kernel⟩, by decide⟩, im_X4_isName, se_X4_isName⟩
theorem mv_X5_tell : z_mV mX5_tell 0 := ⟨⟨cw_X5_tell, in_X5, ⟨by decide +kernel, by decide +kernel, by decide +kernel⟩, by decide⟩, im_X5_tell, se_X5_tell⟩
theorem mv_X5_takeLine : z_mV mX5_takeLine 0 := ⟨⟨cw_X5_takeLine, in_X5, ⟨by decide +kernel, by decide +kernel, by decide +kernel⟩, by decide⟩, im_X5_takeLine, se_X5_takeLine⟩
theorem mv_X5_isFirst : z_mV mX5_isFirst 1 := ⟨⟨cw_X5_isFirst, in_X5, ⟨by decide +kernel, by decide +kernel, by decide +kernel⟩, by decide⟩, im_X5_isFirst, se_X5_isFirst⟩
theorem mv_X5_takeBoat : z_mV mX5_takeBoat 1 := ⟨⟨cw_X5_takeBoat, in_X5, ⟨by decide +kernel, by decide +kernel, by decide +kernel⟩, by decide⟩, im_X5_takeBoat, se_X5_takeBoat⟩
theorem mv_X5_takeCargo : z_mV mX5_takeCargo 1 := ⟨⟨cw_X5_takeCargo, in_X5, ⟨by decide +kernel, by decide +kernel, by decide +kernel⟩, by decide⟩, im_X5_takeCargo, se_X5_takeCargo⟩
theorem mv_X5_takeRules : z_mV mX5_takeRules 2 := ⟨⟨cw_X5_takeRules, in_X5, ⟨by decide +kernel, by decide +kernel, by decide +kernel⟩, by decide⟩, im_X5_takeRules, se_X5_takeRules⟩
theorem mv_X5_takeLaw : z_mV mX5_takeLaw 0 := ⟨⟨cw_X5_takeLaw, in_X5, ⟨by decide +kernel, by decide +kernel, by decide +kernel⟩, by decide⟩, im_X5_takeLaw, se_X5_takeLaw⟩
theorem mv_X5_takeLiar : z_mV mX5_takeLiar 0 := ⟨⟨cw_X5_takeLiar, in_X5, ⟨by decide +kernel, by decide +kernel, by decide +kernel⟩, by decide⟩, im_X5_takeLiar, se_X5_takeLiar⟩
theorem mv_X5_takeNumber : z_mV mX5_takeNumber 2 := ⟨⟨cw_X5_takeNumber, in_X5, ⟨by decide +kernel, by decide +kernel, by decide +kernel⟩, by decide⟩, im_X5_takeNumber, se_X5_takeNumber⟩
theorem mv_X5_takeStop : z_mV mX5_takeStop 0 := ⟨⟨cw_X5_takeStop, in_X5, ⟨by decide +kernel, by decide +kernel, by decide +kernel⟩, by decide⟩, im_X5_takeStop, se_X5_takeStop⟩
theorem mv_X5_blameToken : z_mV mX5_blameToken 1 := ⟨⟨cw_X5_blameToken, in_X5, ⟨by decide +kernel, by decide +kernel, by decide +kernel⟩, by decide⟩, im_X5_blameToken, se_X5_blameToken⟩
theorem mv_X5_blame : z_mV mX5_blame 2 := ⟨⟨cw_X5_blame, in_X5, ⟨by decide +kernel, by decide +kernel, by decide +kernel⟩, by decide⟩, im_X5_blame, se_X5_blame⟩
theorem mv_X6_feed : z_mV mX6_feed 1 := ⟨⟨cw_X6_feed, in_X6, ⟨by decide +kernel, by decide +kernel, by decide +kernel⟩, by decide⟩, im_X6_feed, se_X6_feed⟩
theorem mv_X6_end : z_mV mX6_end 1 := ⟨⟨cw_X6_end, in_X6, ⟨by decide +kernel, by decide +kernel, by decide +kernel⟩, by decide⟩, im_X6_end, se_X6_end⟩
theorem mv_X6_text : z_mV mX6_text 0 := ⟨⟨cw_X6_text, in_X6, ⟨by decide +kernel, by decide +kernel, by decide +kernel⟩, by decide⟩, im_X6_text, se_X6_text⟩
theorem mv_X6_fault : z_mV mX6_fault 0 := ⟨⟨cw_X6_fault, in_X6, ⟨by decide +kernel, by decide +kernel, by decide +kernel⟩, by decide⟩, im_X6_fault, se_X6_fault⟩
theorem mv_X6_rule : z_mV mX6_rule 1 := ⟨⟨cw_X6_rule, in_X6, ⟨by decide +kernel, by decide +kernel, by decide +kernel⟩, by decide⟩, im_X6_rule, se_X6_rule⟩
theorem mv_X6_boat : z_mV mX6_boat 2 := ⟨⟨cw_X6_boat, in_X6, ⟨by decide +kernel, by decide +kernel, by decide +kernel⟩, by decide⟩, im_X6_boat, se_X6_boat⟩
theorem mv_X6_set : z_mV mX6_set 2 := ⟨⟨cw_X6_set, in_X6, ⟨by decide +kernel, by decide +kernel, by decide +kernel⟩, by decide⟩, im_X6_set, se_X6_set⟩
theorem mv_X6_alter : z_mV mX6_alter 3 := ⟨⟨cw_X6_alter, in_X6, ⟨by decide +kernel, by decide +kernel, by decide +kernel⟩, by decide⟩, im_X6_alter, se_X6_alter⟩
theorem mv_X6_lie : z_mV mX6_lie 2 := ⟨⟨cw_X6_lie, in_X6, ⟨by decide +kernel, by decide +kernel, by decide +kernel⟩, by decide⟩, im_X6_lie, se_X6_lie⟩
theorem mv_X6_cross : z_mV mX6_cross 1 := ⟨⟨cw_X6_cross, in_X6, ⟨by decide +kernel, by decide +kernel, by decide +kernel⟩, by decide⟩, im_X6_cross, se_X6_cross⟩
theorem mv_X6_passes : z_mV mX6_passes 1 := ⟨⟨cw_X6_passes, in_X6, ⟨by decide +kernel, by decide +kernel, by decide +kernel⟩, by decide⟩, im_X6_passes, se_X6_passes⟩
theorem mv_X6_through : z_mV mX6_through 1 := ⟨⟨cw_X6_through, in_X6, ⟨by decide +kernel, by decide +kernel, by decide +kernel⟩, by decide⟩, im_X6_through, se_X6_through⟩
theorem mv_X6_stood : z_mV mX6_stood 1 := ⟨⟨cw_X6_stood, in_X6, ⟨by decide +kernel, by decide +kernel, by decide +kernel⟩, by decide⟩, im_X6_stood, se_X6_stood⟩
theorem mv_X6_day : z_mV mX6_day 1 := ⟨⟨cw_X6_day, in_X6, ⟨by decide +kernel, by decide +kernel, by decide +kernel⟩, by decide⟩, im_X6_day, se_X6_day⟩
theorem mv_X6_table : z_mV mX6_table 2 := ⟨⟨cw_X6_table, in_X6, ⟨by decide +kernel, by decide +kernel, by decide +kernel⟩, by decide⟩, im_X6_table, se_X6_table⟩
theorem mv_X6_best : z_mV mX6_best 1 := ⟨⟨cw_X6_best, in_X6, ⟨by decide +kernel, by decide +kernel, by decide +kernel⟩, by decide⟩, im_X6_best, se_X6_best⟩
theorem mv_X6_order : z_mV mX6_order 1 := ⟨⟨cw_X6_order, in_X6, ⟨by decide +kernel, by decide +kernel, by decide +kernel⟩, by decide⟩, im_X6_order, se_X6_order⟩
theorem mv_X6_firsts : z_mV mX6_firsts 1 := ⟨⟨cw_X6_firsts, in_X6, ⟨by decide +kernel, by decide +kernel, by decide +kernel⟩, by decide⟩, im_X6_firsts, se_X6_firsts⟩
theorem mv_X6_gain : z_mV mX6_gain 1 := ⟨⟨cw_X6_gain, in_X6, ⟨by decide +kernel, by decide +kernel, by decide +kernel⟩, by decide⟩, im_X6_gain, se_X6_gain⟩
theorem mv_X6_calm : z_mV mX6_calm 0 := ⟨⟨cw_X6_calm, in_X6, ⟨by decide +kernel, by decide +kernel, by decide +kernel⟩, by decide⟩, im_X6_calm, se_X6_calm⟩
theorem mv_X6_rests : z_mV mX6_rests 1 := ⟨⟨cw_X6_rests, in_X6, ⟨by decide +kernel, by decide +kernel, by decide +kernel⟩, by decide⟩, im_X6_rests, se_X6_rests⟩
theorem mv_X6_isCalm : z_mV mX6_isCalm 1 := ⟨⟨cw_X6_isCalm, in_X6, ⟨by decide +kernel, by decide +kernel, by decide +kernel⟩, by decide⟩, im_X6_isCalm, se_X6_isCalm⟩
theorem mv_X6_gained : z_mV mX6_gained 2 := ⟨⟨cw_X6_gained, in_X6, ⟨by decide +kernel, by decide +kernel, by decide +kernel⟩, by decide⟩, im_X6_gained, se_X6_gained⟩
theorem mv_X6_fillStoodBySet : z_mV mX6_fillStoodBySet 1 := ⟨⟨cw_X6_fillStoodBySet, in_X6, ⟨by decide +kernel, by decide +kernel, by decide +kernel⟩, by decide⟩, im_X6_fillStoodBySet, se_X6_fillStoodBySet⟩
theorem mv_X6_isRest : z_mV mX6_isRest 1 := ⟨⟨cw_X6_isRest, in_X6, ⟨by decide +kernel, by decide +kernel, by decide +kernel⟩, by decide⟩, im_X6_isRest, se_X6_isRest⟩
theorem mv_X6_boy : z_mV mX6_boy 2 := ⟨⟨cw_X6_boy, in_X6, ⟨by decide +kernel, by decide +kernel, by decide +kernel⟩, by decide⟩, im_X6_boy, se_X6_boy⟩
theorem mv_X6_post : z_mV mX6_post 1 := ⟨⟨cw_X6_post, in_X6, ⟨by decide +kernel, by decide +kernel, by decide +kernel⟩, by decide⟩, im_X6_post, se_X6_post⟩
theorem mv_X6_late : z_mV mX6_late 1 := ⟨⟨cw_X6_late, in_X6, ⟨by decide +kernel, by decide +kernel, by decide +kernel⟩, by decide⟩, im_X6_late, se_X6_late⟩
theorem mv_X6_deal : z_mV mX6_deal 3 := ⟨⟨cw_X6_deal, in_X6, ⟨by decide +kernel, by decide +kernel, by decide +kernel⟩, by decide⟩, im_X6_deal, se_X6_deal⟩
theorem mv_X6_mean : z_mV mX6_mean 3 := ⟨⟨cw_X6_mean, in_X6, ⟨by decide +kernel, by decide +kernel, by decide +kernel⟩, by decide⟩, im_X6_mean, se_X6_mean⟩
theorem mv_X6_luck : z_mV mX6_luck 4 := ⟨⟨cw_X6_luck, in_X6, ⟨by decide +kernel, by decide +kernel, by decide +kernel⟩, by decide⟩, im_X6_luck, se_X6_luck⟩
theorem mv_X6_weight : z_mV mX6_weight 2 := ⟨⟨cw_X6_weight, in_X6, ⟨by decide +kernel, by decide +kernel, by decide +kernel⟩, by decide⟩, im_X6_weight, se_X6_weight⟩
theorem mv_X6_weightOfAll : z_mV mX6_weightOfAll 0 := ⟨⟨cw_X6_weightOfAll, in_X6, ⟨by decide +kernel, by decide +kernel, by decide +kernel⟩, by decide⟩, im_X6_weightOfAll, se_X6_weightOfAll⟩
theorem ms_X6_lowest : z_mS mX6_lowest 3 := ⟨⟨cw_X6_lowest, in_X6, ⟨by decide +kernel, by decide +kernel, by decide +kernel⟩, by decide⟩, st_X6_lowest⟩
theorem ms_X6_commonDivisor : z_mS mX6_commonDivisor 2 := ⟨⟨cw_X6_commonDivisor, in_X6, ⟨by decide +kernel, by decide +kernel, by decide +kernel⟩, by decide⟩, st_X6_commonDivisor⟩
theorem mv_X6_see : z_mV mX6_see 2 := ⟨⟨cw_X6_see, in_X6, ⟨by decide +kernel, by decide +kernel, by decide +kernel⟩, by decide⟩, im_X6_see, se_X6_see⟩
theorem mv_X6_forget : z_mV mX6_forget 1 := ⟨⟨cw_X6_forget, in_X6, ⟨by decide +kernel, by decide +kernel, by decide +kernel⟩, by decide⟩, im_X6_forget, se_X6_forget⟩
theorem mv_X6_fits : z_mV mX6_fits 1 := ⟨⟨cw_X6_fits, in_X6, ⟨by decide +kernel, by decide +kernel, by decide +kernel⟩, by decide⟩, im_X6_fits, se_X6_fits⟩
theorem mv_X6_drift : z_mV mX6_drift 3 := ⟨⟨cw_X6_drift, in_X6, ⟨by decide +kernel, by decide +kernel, by decide +kernel⟩, by decide⟩, im_X6_drift, se_X6_drift⟩
theorem mv_X6_keep : z_mV mX6_keep 1 := ⟨⟨cw_X6_keep, in_X6, ⟨by decide +kernel, by decide +kernel, by decide +kernel⟩, by decide⟩, im_X6_keep, se_X6_keep⟩
theorem mv_X6_back : z_mV mX6_back 1 := ⟨⟨cw_X6_back, in_X6, ⟨by decide +kernel, by decide +kernel, by decide +kernel⟩, by decide⟩, im_X6_back, se_X6_back⟩
theorem mv_X6_sheet : z_mV mX6_sheet 3 := ⟨⟨cw_X6_sheet, in_X6, ⟨by decide +kernel, by decide +kernel, by decide +kernel⟩, by decide⟩, im_X6_sheet, se_X6_sheet⟩
theorem mv_X6_lay : z_mV mX6_lay 3 := ⟨⟨cw_X6_lay, in_X6, ⟨by decide +kernel, by decide +kernel, by decide +kernel⟩, by decide⟩, im_X6_lay, se_X6_lay⟩
theorem mv_X6_read : z_mV mX6_read 4 := ⟨⟨cw_X6_read, in_X6, ⟨by decide +kernel, by decide +kernel, by decide +kernel⟩, by decide⟩, im_X6_read, se_X6_read⟩
theorem mv_X6_torn : z_mV mX6_torn 0 := ⟨⟨cw_X6_torn, in_X6, ⟨by decide +kernel, by decide +kernel, by decide +kernel⟩, by decide⟩, im_X6_torn, se_X6_torn⟩
theorem mv_X6_count : z_mV mX6_count 1 := ⟨⟨cw_X6_count, in_X6, ⟨by decide +kernel, by decide +kernel, by decide +kernel⟩, by decide⟩, im_X6_count, se_X6_count⟩
theorem mv_X6_isComing : z_mV mX6_isComing 2 := ⟨⟨cw_X6_isComing, in_X6, ⟨by decide +kernel, by decide +kernel, by decide +kernel⟩, by decide⟩, im_X6_isComing, se_X6_isComing⟩
theorem mv_X6_runAsTold : z_mV mX6_runAsTold 1 := ⟨⟨cw_X6_runAsTold, in_X6, ⟨by decide +kernel, by decide +kernel, by decide +kernel⟩, by decide⟩, im_X6_runAsTold, se_X6_runAsTold⟩
theorem mv_X6_isBoat : z_mV mX6_isBoat 1 := ⟨⟨cw_X6_isBoat, in_X6, ⟨by decide +kernel, by decide +kernel, by decide +kernel⟩, by decide⟩, im_X6_isBoat, se_X6_isBoat⟩
theorem mv_X6_isPair : z_mV mX6_isPair 2 := ⟨⟨cw_X6_isPair, in_X6, ⟨by decide +kernel, by decide +kernel, by decide +kernel⟩, by decide⟩, im_X6_isPair, se_X6_isPair⟩
theorem mv_X6_liarSets : z_mV mX6_liarSets 0 := ⟨⟨cw_X6_liarSets, in_X6, ⟨by decide +kernel, by decide +kernel, by decide +kernel⟩, by decide⟩, im_X6_liarSets, se_X6_liarSets⟩
theorem ms_X6_isLaw : z_mS mX6_isLaw 1 := ⟨⟨cw_X6_isLaw, in_X6, ⟨by decide +kernel, by decide +kernel, by decide +kernel⟩, by decide⟩, st_X6_isLaw⟩
theorem ms_X6_isMeasure : z_mS mX6_isMeasure 1 := ⟨⟨cw_X6_isMeasure, in_X6, ⟨by decide +kernel, by decide +kernel, by decide +kernel⟩, by decide⟩, st_X6_isMeasure⟩
theorem ms_X6_isSheet : z_mS mX6_isSheet 1 := ⟨⟨cw_X6_isSheet, in_X6, ⟨by decide +kernel, by decide +kernel, by decide +kernel⟩, by decide⟩, st_X6_isSheet⟩
theorem ms_X6_hearsLies : z_mS mX6_hearsLies 1 := ⟨⟨cw_X6_hearsLies, in_X6, ⟨by decide +kernel, by decide +kernel, by decide +kernel⟩, by decide⟩, st_X6_hearsLies⟩
theorem ms_X6_otherSide : z_mS mX6_otherSide 1 := ⟨⟨cw_X6_otherSide, in_X6, ⟨by decide +kernel, by decide +kernel, by decide +kernel⟩, by decide⟩, st_X6_otherSide⟩
theorem ms_X6_within : z_mS mX6_within 3 := ⟨⟨cw_X6_within, in_X6, ⟨by decide +kernel, by decide +kernel, by decide +kernel⟩, by decide⟩, st_X6_within⟩
theorem ms_X7_in : z_mS mX7_in 3 := ⟨⟨cw_X7_in, in_X7, ⟨by decide +kernel, by decide +kernel, by decide +kernel⟩, by decide⟩, st_X7_in⟩
theorem ms_X7_flag : z_mS mX7_flag 1 := ⟨⟨cw_X7_flag, in_X7, ⟨by decide +kernel, by decide +kernel, by decide +kernel⟩, by decide⟩, st_X7_flag⟩
theorem mv_X7_firstDraft : z_mV mX7_firstDraft 0 := ⟨⟨cw_X7_firstDraft, in_X7, ⟨by decide +kernel, by decide +kernel, by decide +kernel⟩, by decide⟩, im_X7_firstDraft, se_X7_firstDraft⟩
theorem mv_X7_keepDraft : z_mV mX7_keepDraft 0 := ⟨⟨cw_X7_keepDraft, in_X7, ⟨by decide +kernel, by decide +kernel, by decide +kernel⟩, by decide⟩, im_X7_keepDraft, se_X7_keepDraft⟩
theorem mv_X7_feed : z_mV mX7_feed 1 := ⟨⟨cw_X7_feed, in_X7, ⟨by decide +kernel, by decide +kernel, by decide +kernel⟩, by decide⟩, im_X7_feed, se_X7_feed⟩
theorem mv_X7_end : z_mV mX7_end 1 := ⟨⟨cw_X7_end, in_X7, ⟨by decide +kernel, by decide +kernel, by decide +kernel⟩, by decide⟩, im_X7_end, se_X7_end⟩
theorem mv_X7_needs : z_mV mX7_needs 2 := ⟨⟨cw_X7_needs, in_X7, ⟨by decide +kernel, by decide +kernel, by decide +kernel⟩, by decide⟩, im_X7_needs, se_X7_needs⟩
theorem mv_X7_byteAt : z_mV mX7_byteAt 1 := ⟨⟨cw_X7_byteAt, in_X7, ⟨by decide +kernel, by decide +kernel, by decide +kernel⟩, by decide⟩, im_X7_byteAt, se_X7_byteAt⟩
theorem mv_X7_is : z_mV mX7_is 5 := ⟨⟨cw_X7_is, in_X7, ⟨by decide +kernel, by decide +kernel, by decide +kernel⟩, by decide⟩, im_X7_is, se_X7_is⟩
theorem mv_X7_endsWith : z_mV mX7_endsWith 1 := ⟨⟨cw_X7_endsWith, in_X7, ⟨by decide +kernel, by decide +kernel, by decide +kernel⟩, by decide⟩, im_X7_endsWith, se_X7_endsWith⟩
theorem mv_X7_lineNow : z_mV mX7_lineNow 0 := ⟨⟨cw_X7_lineNow, in_X7, ⟨by decide +kernel, by decide +kernel, by decide +kernel⟩, by decide⟩, im_X7_lineNow, se_X7_lineNow⟩
theorem mv_X7_cargoNow : z_mV mX7_cargoNow 0 := ⟨⟨cw_X7_cargoNow, in_X7, ⟨by decide +kernel, by decide +kernel, by decide +kernel⟩, by decide⟩, im_X7_cargoNow, se_X7_cargoNow⟩
theorem mv_X7_lawNow : z_mV mX7_lawNow 0 := ⟨⟨cw_X7_lawNow, in_X7, ⟨by decide +kernel, by decide +kernel, by decide +kernel⟩, by decide⟩, im_X7_lawNow, se_X7_lawNow⟩
theorem mv_X7_next : z_mV mX7_next 0 := ⟨⟨cw_X7_next, in_X7, ⟨by decide +kernel, by decide +kernel, by decide +kernel⟩, by decide⟩, im_X7_next, se_X7_next⟩
theorem mv_X7_looked : z_mV mX7_looked 2 := ⟨⟨cw_X7_looked, in_X7, ⟨by decide +kernel, by decide +kernel, by decide +kernel⟩, by decide⟩, im_X7_looked, se_X7_looked⟩
theorem mv_X7_readNumber : z_mV mX7_readNumber 2 := ⟨⟨cw_X7_readNumber, in_X7, ⟨by decide +kernel, by decide +kernel, by decide +kernel⟩, by decide⟩, im_X7_readNumber, se_X7_readNumber⟩
theorem mv_X7_readName : z_mV mX7_readName 1 := ⟨⟨cw_X7_readName, in_X7, ⟨by decide +kernel, by decide +kernel, by decide +kernel⟩, by decide⟩, im_X7_readName, se_X7_readName⟩
theorem mv_X7_readBoat : z_mV mX7_readBoat 1 := ⟨⟨cw_X7_readBoat, in_X7, ⟨by decide +kernel, by decide +kernel, by decide +kernel⟩, by decide⟩, im_X7_readBoat, se_X7_readBoat⟩
theorem mv_X7_readLiar : z_mV mX7_readLiar 0 := ⟨⟨cw_X7_readLiar, in_X7, ⟨by decide +kernel, by decide +kernel, by decide +kernel⟩, by decide⟩, im_X7_readLiar, se_X7_readLiar⟩
theorem mv_X7_readLineOf : z_mV mX7_readLineOf 1 := ⟨⟨cw_X7_readLineOf, in_X7, ⟨by decide +kernel, by decide +kernel, by decide +kernel⟩, by decide⟩, im_X7_readLineOf, se_X7_readLineOf⟩
theorem mv_X7_readLine : z_mV mX7_readLine 0 := ⟨⟨cw_X7_readLine, in_X7, ⟨by decide +kernel, by decide +kernel, by decide +kernel⟩, by decide⟩, im_X7_readLine, se_X7_readLine⟩
theorem mv_X7_text : z_mV mX7_text 0 := ⟨⟨cw_X7_text, in_X7, ⟨by decide +kernel, by decide +kernel, by decide +kernel⟩, by decide⟩, im_X7_text, se_X7_text⟩
theorem mv_X7_fault : z_mV mX7_fault 0 := ⟨⟨cw_X7_fault, in_X7, ⟨by decide +kernel, by decide +kernel, by decide +kernel⟩, by decide⟩, im_X7_fault, se_X7_fault⟩
theorem mv_X7_isBoat : z_mV mX7_isBoat 1 := ⟨⟨cw_X7_isBoat, in_X7, ⟨by decide +kernel, by decide +kernel, by decide +kernel⟩, by decide⟩, im_X7_isBoat, se_X7_isBoat⟩
theorem ms_X7_isPart : z_mS mX7_isPart 1 := ⟨⟨cw_X7_isPart, in_X7, ⟨by decide +kernel, by decide +kernel, by decide +kernel⟩, by decide⟩, st_X7_isPart⟩
theorem mv_X7_starts : z_mV mX7_starts 0 := ⟨⟨cw_X7_starts, in_X7, ⟨by decide +kernel, by decide +kernel, by decide +kernel⟩, by decide⟩, im_X7_starts, se_X7_starts⟩
theorem mv_X7_of : z_mV mX7_of 2 := ⟨⟨cw_X7_of, in_X7, ⟨by decide +kernel, by decide +kernel, by decide +kernel⟩, by decide⟩, im_X7_of, se_X7_of⟩
theorem mv_X7_becomesOf : z_mV mX7_becomesOf 3 := ⟨⟨cw_X7_becomesOf, in_X7, ⟨by decide +kernel, by decide +kernel, by decide +kernel⟩, by decide⟩, im_X7_becomesOf, se_X7_becomesOf⟩
theorem mv_X7_countsFrom : z_mV mX7_countsFrom 1 := ⟨⟨cw_X7_countsFrom, in_X7, ⟨by decide +kernel, by decide +kernel, by decide +kernel⟩, by decide⟩, im_X7_countsFrom, se_X7_countsFrom⟩
theorem mv_X7_cargoTold : z_mV mX7_cargoTold 1 := ⟨⟨cw_X7_cargoTold, in_X7, ⟨by decide +kernel, by decide +kernel, by decide +kernel⟩, by decide⟩, im_X7_cargoTold, se_X7_cargoTold⟩
theorem mv_X7_opens : z_mV mX7_opens 0 := ⟨⟨cw_X7_opens, in_X7, ⟨by decide +kernel, by decide +kernel, by decide +kernel⟩, by decide⟩, im_X7_opens, se_X7_opens⟩
theorem mv_X7_lets : z_mV mX7_lets 1 := ⟨⟨cw_X7_lets, in_X7, ⟨by decide +kernel, by decide +kernel, by decide +kernel⟩, by decide⟩, im_X7_lets, se_X7_lets⟩
theorem mv_X7_sideOf : z_mV mX7_sideOf 1 := ⟨⟨cw_X7_sideOf, in_X7, ⟨by decide +kernel, by decide +kernel, by decide +kernel⟩, by decide⟩, im_X7_sideOf, se_X7_sideOf⟩
theorem mv_X7_comeFrom : z_mV mX7_comeFrom 2 := ⟨⟨cw_X7_comeFrom, in_X7, ⟨by decide +kernel, by decide +kernel, by decide +kernel⟩, by decide⟩, im_X7_comeFrom, se_X7_comeFrom⟩
theorem ms_X7_bitsOf : z_mS mX7_bitsOf 1 := ⟨⟨cw_X7_bitsOf, in_X7, ⟨by decide +kernel, by decide +kernel, by decide +kernel⟩, by decide⟩, st_X7_bitsOf⟩
theorem mv_X7_preferred : z_mV mX7_preferred 2 := ⟨⟨cw_X7_preferred, in_X7, ⟨by decide +kernel, by decide +kernel, by decide +kernel⟩, by decide⟩, im_X7_preferred, se_X7_preferred⟩
theorem mv_X7_leastCargo : z_mV mX7_leastCargo 1 := ⟨⟨cw_X7_leastCargo, in_X7, ⟨by decide +kernel, by decide +kernel, by decide +kernel⟩, by decide⟩, im_X7_leastCargo, se_X7_leastCargo⟩
theorem mv_X7_taken : z_mV mX7_taken 1 := ⟨⟨cw_X7_taken, in_X7, ⟨by decide +kernel, by decide +kernel, by decide +kernel⟩, by decide⟩, im_X7_taken, se_X7_taken⟩
theorem mv_X7_earliest : z_mV mX7_earliest 1 := ⟨⟨cw_X7_earliest, in_X7, ⟨by decide +kernel, by decide +kernel, by decide +kernel⟩, by decide⟩, im_X7_earliest, se_X7_earliest⟩
theorem mv_X7_counting : z_mV mX7_counting 1 := ⟨⟨cw_X7_counting, in_X7, ⟨by decide +kernel, by decide +kernel, by decide +kernel⟩, by decide⟩, im_X7_counting, se_X7_counting⟩
theorem mv_X7_dayGoes : z_mV mX7_dayGoes 0 := ⟨⟨cw_X7_dayGoes, in_X7, ⟨by decide +kernel, by decide +kernel, by decide +kernel⟩, by decide⟩, im_X7_dayGoes, se_X7_dayGoes⟩
theorem mv_X7_costNow : z_mV mX7_costNow 0 := ⟨⟨cw_X7_costNow, in_X7, ⟨by decide +kernel, by decide +kernel, by decide +kernel⟩, by decide⟩, im_X7_costNow, se_X7_costNow⟩
theorem mv_X7_tells : z_mV mX7_tells 1 := ⟨⟨cw_X7_tells, in_X7, ⟨by decide +kernel, by decide +kernel, by decide +kernel⟩, by decide⟩, im_X7_tells, se_X7_tells⟩
theorem mv_X7_dayNow : z_mV mX7_dayNow 0 := ⟨⟨cw_X7_dayNow, in_X7, ⟨by decide +kernel, by decide +kernel, by decide +kernel⟩, by decide⟩, im_X7_dayNow, se_X7_dayNow⟩
theorem mv_X7_placeOf : z_mV mX7_placeOf 1 := ⟨⟨cw_X7_placeOf, in_X7, ⟨by decide +kernel, by decide +kernel, by decide +kernel⟩, by decide⟩, im_X7_placeOf, se_X7_placeOf⟩
theorem mv_X7_liars : z_mV mX7_liars 0 := ⟨⟨cw_X7_liars, in_X7, ⟨by decide +kernel, by decide +kernel, by decide +kernel⟩, by decide⟩, im_X7_liars, se_X7_liars⟩
theorem mv_X7_rule : z_mV mX7_rule 1 := ⟨⟨cw_X7_rule, in_X7, ⟨by decide +kernel, by decide +kernel, by decide +kernel⟩, by decide⟩, im_X7_rule, se_X7_rule⟩
theorem mv_X7_boat : z_mV mX7_boat 2 := ⟨⟨cw_X7_boat, in_X7, ⟨by decide +kernel, by decide +kernel, by decide +kernel⟩, by decide⟩, im_X7_boat, se_X7_boat⟩
theorem mv_X7_becomes : z_mV mX7_becomes 2 := ⟨⟨cw_X7_becomes, in_X7, ⟨by decide +kernel, by decide +kernel, by decide +kernel⟩, by decide⟩, im_X7_becomes, se_X7_becomes⟩
theorem ms_X7_mostOf : z_mS mX7_mostOf 1 := ⟨⟨cw_X7_mostOf, in_X7, ⟨by decide +kernel, by decide +kernel, by decide +kernel⟩, by decide⟩, st_X7_mostOf⟩
theorem mv_X7_set : z_mV mX7_set 2 := ⟨⟨cw_X7_set, in_X7, ⟨by decide +kernel, by decide +kernel, by decide +kernel⟩, by decide⟩, im_X7_set, se_X7_set⟩
theorem mv_X7_alter : z_mV mX7_alter 3 := ⟨⟨cw_X7_alter, in_X7, ⟨by decide +kernel, by decide +kernel, by decide +kernel⟩, by decide⟩, im_X7_alter, se_X7_alter⟩
theorem mv_X7_lie : z_mV mX7_lie 2 := ⟨⟨cw_X7_lie, in_X7, ⟨by decide +kernel, by decide +kernel, by decide +kernel⟩, by decide⟩, im_X7_lie, se_X7_lie⟩
theorem mv_X7_cross : z_mV mX7_cross 1 := ⟨⟨cw_X7_cross, in_X7, ⟨by decide +kernel, by decide +kernel, by decide +kernel⟩, by decide⟩, im_X7_cross, se_X7_cross⟩
theorem mv_X7_passes : z_mV mX7_passes 1 := ⟨⟨cw_X7_passes, in_X7, ⟨by decide +kernel, by decide +kernel, by decide +kernel⟩, by decide⟩, im_X7_passes, se_X7_passes⟩
theorem mv_X7_through : z_mV mX7_through 1 := ⟨⟨cw_X7_through, in_X7, ⟨by decide +kernel, by decide +kernel, by decide +kernel⟩, by decide⟩, im_X7_through, se_X7_through⟩
theorem mv_X7_stood : z_mV mX7_stood 1 := ⟨⟨cw_X7_stood, in_X7, ⟨by decide +kernel, by decide +kernel, by decide +kernel⟩, by decide⟩, im_X7_stood, se_X7_stood⟩
theorem mv_X7_day : z_mV mX7_day 1 := ⟨⟨cw_X7_day, in_X7, ⟨by decide +kernel, by decide +kernel, by decide +kernel⟩, by decide⟩, im_X7_day, se_X7_day⟩
theorem mv_X7_dayBy : z_mV mX7_dayBy 1 := ⟨⟨cw_X7_dayBy, in_X7, ⟨by decide +kernel, by decide +kernel, by decide +kernel⟩, by decide⟩, im_X7_dayBy, se_X7_dayBy⟩
theorem mv_X7_table : z_mV mX7_table 2 := ⟨⟨cw_X7_table, in_X7, ⟨by decide +kernel, by decide +kernel, by decide +kernel⟩, by decide⟩, im_X7_table, se_X7_table⟩
theorem mv_X7_best : z_mV mX7_best 1 := ⟨⟨cw_X7_best, in_X7, ⟨by decide +kernel, by decide +kernel, by decide +kernel⟩, by decide⟩, im_X7_best, se_X7_best⟩
theorem mv_X7_rows : z_mV mX7_rows 0 := ⟨⟨cw_X7_rows, in_X7, ⟨by decide +kernel, by decide +kernel, by decide +kernel⟩, by decide⟩, im_X7_rows, se_X7_rows⟩
theorem mv_X7_isOrder : z_mV mX7_isOrder 1 := ⟨⟨cw_X7_isOrder, in_X7, ⟨by decide +kernel, by decide +kernel, by decide +kernel⟩, by decide⟩, im_X7_isOrder, se_X7_isOrder⟩
theorem mv_X7_goesInOrder : z_mV mX7_goesInOrder 0 := ⟨⟨cw_X7_goesInOrder, in_X7, ⟨by decide +kernel, by decide +kernel, by decide +kernel⟩, by decide⟩, im_X7_goesInOrder, se_X7_goesInOrder⟩
theorem mv_X7_order : z_mV mX7_order 1 := ⟨⟨cw_X7_order, in_X7, ⟨by decide +kernel, by decide +kernel, by decide +kernel⟩, by decide⟩, im_X7_order, se_X7_order⟩
theorem mv_X7_firsts : z_mV mX7_firsts 1 := ⟨⟨cw_X7_firsts, in_X7, ⟨by decide +kernel, by decide +kernel, by decide +kernel⟩, by decide⟩, im_X7_firsts, se_X7_firsts⟩
theorem mv_X7_gainOf : z_mV mX7_gainOf 1 := ⟨⟨cw_X7_gainOf, in_X7, ⟨by decide +kernel, by decide +kernel, by decide +kernel⟩, by decide⟩, im_X7_gainOf, se_X7_gainOf⟩
theorem mv_X7_gain : z_mV mX7_gain 1 := ⟨⟨cw_X7_gain, in_X7, ⟨by decide +kernel, by decide +kernel, by decide +kernel⟩, by decide⟩, im_X7_gain, se_X7_gain⟩
theorem mv_X7_isCalm : z_mV mX7_isCalm 0 := ⟨⟨cw_X7_isCalm, in_X7, ⟨by decide +kernel, by decide +kernel, by decide +kernel⟩, by decide⟩, im_X7_isCalm, se_X7_isCalm⟩
theorem mv_X7_calm : z_mV mX7_calm 0 := ⟨⟨cw_X7_calm, in_X7, ⟨by decide +kernel, by decide +kernel, by decide +kernel⟩, by decide⟩, im_X7_calm, se_X7_calm⟩
theorem mv_X7_liesBy : z_mV mX7_liesBy 1 := ⟨⟨cw_X7_liesBy, in_X7, ⟨by decide +kernel, by decide +kernel, by decide +kernel⟩, by decide⟩, im_X7_liesBy, se_X7_liesBy⟩
theorem mv_X7_rests : z_mV mX7_rests 1 := ⟨⟨cw_X7_rests, in_X7, ⟨by decide +kernel, by decide +kernel, by decide +kernel⟩, by decide⟩, im_X7_rests, se_X7_rests⟩
theorem mv_X7_boy : z_mV mX7_boy 2 := ⟨⟨cw_X7_boy, in_X7, ⟨by decide +kernel, by decide +kernel, by decide +kernel⟩, by decide⟩, im_X7_boy, se_X7_boy⟩
theorem mv_X7_post : z_mV mX7_post 1 := ⟨⟨cw_X7_post, in_X7, ⟨by decide +kernel, by decide +kernel, by decide +kernel⟩, by decide⟩, im_X7_post, se_X7_post⟩
theorem mv_X7_late : z_mV mX7_late 1 := ⟨⟨cw_X7_late, in_X7, ⟨by decide +kernel, by decide +kernel, by decide +kernel⟩, by decide⟩, im_X7_late, se_X7_late⟩
theorem mv_X7_deal : z_mV mX7_deal 3 := ⟨⟨cw_X7_deal, in_X7, ⟨by decide +kernel, by decide +kernel, by decide +kernel⟩, by decide⟩, im_X7_deal, se_X7_deal⟩
theorem ms_X7_common : z_mS mX7_common 2 := ⟨⟨cw_X7_common, in_X7, ⟨by decide +kernel, by decide +kernel, by decide +kernel⟩, by decide⟩, st_X7_common⟩
theorem ms_X7_told : z_mS mX7_told 3 := ⟨⟨cw_X7_told, in_X7, ⟨by decide +kernel, by decide +kernel, by decide +kernel⟩, by decide⟩, st_X7_told⟩
theorem mv_X7_waysOf : z_mV mX7_waysOf 2 := ⟨⟨cw_X7_waysOf, in_X7, ⟨by decide +kernel, by decide +kernel, by decide +kernel⟩, by decide⟩, im_X7_waysOf, se_X7_waysOf⟩
theorem mv_X7_allWays : z_mV mX7_allWays 0 := ⟨⟨cw_X7_allWays, in_X7, ⟨by decide +kernel, by decide +kernel, by decide +kernel⟩, by decide⟩, im_X7_allWays, se_X7_allWays⟩
theorem mv_X7_dayCaught : z_mV mX7_dayCaught 1 := ⟨⟨cw_X7_dayCaught, in_X7, ⟨by decide +kernel, by decide +kernel, by decide +kernel⟩, by decide⟩, im_X7_dayCaught, se_X7_dayCaught⟩
theorem mv_X7_mean : z_mV mX7_mean 3 := ⟨⟨cw_X7_mean, in_X7, ⟨by decide +kernel, by decide +kernel, by decide +kernel⟩, by decide⟩, im_X7_mean, se_X7_mean⟩
theorem mv_X7_luck : z_mV mX7_luck 4 := ⟨⟨cw_X7_luck, in_X7, ⟨by decide +kernel, by decide +kernel, by decide +kernel⟩, by decide⟩, im_X7_luck, se_X7_luck⟩
theorem mv_X7_see : z_mV mX7_see 2 := ⟨⟨cw_X7_see, in_X7, ⟨by decide +kernel, by decide +kernel, by decide +kernel⟩, by decide⟩, im_X7_see, se_X7_see⟩
theorem mv_X7_forget : z_mV mX7_forget 1 := ⟨⟨cw_X7_forget, in_X7, ⟨by decide +kernel, by decide +kernel, by decide +kernel⟩, by decide⟩, im_X7_forget, se_X7_forget⟩
theorem mv_X7_isSo : z_mV mX7_isSo 2 := ⟨⟨cw_X7_isSo, in_X7, ⟨by decide +kernel, by decide +kernel, by decide +kernel⟩, by decide⟩, im_X7_isSo, se_X7_isSo⟩
theorem mv_X7_fits : z_mV mX7_fits 1 := ⟨⟨cw_X7_fits, in_X7, ⟨by decide +kernel, by decide +kernel, by decide +kernel⟩, by decide⟩, im_X7_fits, se_X7_fits⟩
theorem mv_X7_drift : z_mV mX7_drift 3 := ⟨⟨cw_X7_drift, in_X7, ⟨by decide +kernel, by decide +kernel, by decide +kernel⟩, by decide⟩, im_X7_drift, se_X7_drift⟩
theorem mv_X7_copies : z_mV mX7_copies 2 := ⟨⟨cw_X7_copies, in_X7, ⟨by decide +kernel, by decide +kernel, by decide +kernel⟩, by decide⟩, im_X7_copies, se_X7_copies⟩
theorem mv_X7_keep : z_mV mX7_keep 1 := ⟨⟨cw_X7_keep, in_X7, ⟨by decide +kernel, by decide +kernel, by decide +kernel⟩, by decide⟩, im_X7_keep, se_X7_keep⟩
theorem mv_X7_back : z_mV mX7_back 1 := ⟨⟨cw_X7_back, in_X7, ⟨by decide +kernel, by decide +kernel, by decide +kernel⟩, by decide⟩, im_X7_back, se_X7_back⟩
theorem ms_X7_isSheet : z_mS mX7_isSheet 2 := ⟨⟨cw_X7_isSheet, in_X7, ⟨by decide +kernel, by decide +kernel, by decide +kernel⟩, by decide⟩, st_X7_isSheet⟩
theorem mv_X7_sheet : z_mV mX7_sheet 3 := ⟨⟨cw_X7_sheet, in_X7, ⟨by decide +kernel, by decide +kernel, by decide +kernel⟩, by decide⟩, im_X7_sheet, se_X7_sheet⟩
theorem mv_X7_lay : z_mV mX7_lay 3 := ⟨⟨cw_X7_lay, in_X7, ⟨by decide +kernel, by decide +kernel, by decide +kernel⟩, by decide⟩, im_X7_lay, se_X7_lay⟩
theorem mv_X7_read : z_mV mX7_read 4 := ⟨⟨cw_X7_read, in_X7, ⟨by decide +kernel, by decide +kernel, by decide +kernel⟩, by decide⟩, im_X7_read, se_X7_read⟩
theorem mv_X7_torn : z_mV mX7_torn 0 := ⟨⟨cw_X7_torn, in_X7, ⟨by decide +kernel, by decide +kernel, by decide +kernel⟩, by decide⟩, im_X7_torn, se_X7_torn⟩
theorem mv_X7_count : z_mV mX7_count 1 := ⟨⟨cw_X7_count, in_X7, ⟨by decide +kernel, by decide +kernel, by decide +kernel⟩, by decide⟩, im_X7_count, se_X7_count⟩
theorem ms_J6_bitCount_0f7a4 : z_mS mJ6_bitCount_0f7a4 1 := ⟨⟨cw_J6_bitCount_0f7a4, in_J6, ⟨by decide +kernel, by decide +kernel, by decide +kernel⟩, by decide⟩, st_J6_bitCount_0f7a4⟩
theorem ms_J9_max_7cf53 : z_mS mJ9_max_7cf53 2 := ⟨⟨cw_J9_max_7cf53, in_J9, ⟨by decide +kernel, by decide +kernel, by decide +kernel⟩, by decide⟩, st_J9_max_7cf53⟩
theorem ms_J9_min_7cf53 : z_mS mJ9_min_7cf53 2 := ⟨⟨cw_J9_min_7cf53, in_J9, ⟨by decide +kernel, by decide +kernel, by decide +kernel⟩, by decide⟩, st_J9_min_7cf53⟩
theorem mv_J0_length_8abf5 : z_mV mJ0_length_8abf5 0 := ⟨⟨cw_J0_length_8abf5, in_J0, ⟨by decide +kernel, by decide +kernel, by decide +kernel⟩, by decide⟩, im_J0_length_8abf5, se_J0_length_8abf5⟩
theorem mv_J0_charAt_5068e : z_mV mJ0_charAt_5068e 1 := ⟨⟨cw_J0_charAt_5068e, in_J0, ⟨by decide +kernel, by decide +kernel, by decide +kernel⟩, by decide⟩, im_J0_charAt_5068e, se_J0_charAt_5068e⟩
theorem mv_J0_coder_7d493 : z_mV mJ0_coder_7d493 0 := ⟨⟨cw_J0_coder_7d493, in_J0, ⟨by decide +kernel, by decide +kernel, by decide +kernel⟩, by decide⟩, im_J0_coder_7d493, se_J0_coder_7d493⟩
theorem mv_J0_isLatin1_aae02 : z_mV mJ0_isLatin1_aae02 0 := ⟨⟨cw_J0_isLatin1_aae02, in_J0, ⟨by decide +kernel, by decide +kernel, by decide +kernel⟩, by decide⟩, im_J0_isLatin1_aae02, se_J0_isLatin1_aae02⟩
theorem ms_J0_checkIndex_df160 : z_mS mJ0_checkIndex_df160 2 := ⟨⟨cw_J0_checkIndex_df160, in_J0, ⟨by decide +kernel, by decide +kernel, by decide +kernel⟩, by decide⟩, st_J0_checkIndex_df160⟩
theorem ms_J1_charAt_3b067 : z_mS mJ1_charAt_3b067 2 := ⟨⟨cw_J1_charAt_3b067, in_J1, ⟨by decide +kernel, by decide +kernel, by decide +kernel⟩, by decide⟩, st_J1_charAt_3b067⟩
theorem ms_J2_getChar_3b067 : z_mS mJ2_getChar_3b067 2 := ⟨⟨cw_J2_getChar_3b067, in_J2, ⟨by decide +kernel, by decide +kernel, by decide +kernel⟩, by decide⟩, st_J2_getChar_3b067⟩
theorem ms_J2_length_9d52b : z_mS mJ2_length_9d52b 1 := ⟨⟨cw_J2_length_9d52b, in_J2, ⟨by decide +kernel, by decide +kernel, by decide +kernel⟩, by decide⟩, st_J2_length_9d52b⟩
theorem ms_J2_charAt_3b067 : z_mS mJ2_charAt_3b067 2 := ⟨⟨cw_J2_charAt_3b067, in_J2, ⟨by decide +kernel, by decide +kernel, by decide +kernel⟩, by decide⟩, st_J2_charAt_3b067⟩
theorem ms_J2_checkIndex_2214a : z_mS mJ2_checkIndex_2214a 2 := ⟨⟨cw_J2_checkIndex_2214a, in_J2, ⟨by decide +kernel, by decide +kernel, by decide +kernel⟩, by decide⟩, st_J2_checkIndex_2214a⟩
theorem ms_J7_fill_53178 : z_mS mJ7_fill_53178 2 := ⟨⟨cw_J7_fill_53178, in_J7, ⟨by decide +kernel, by decide +kernel, by decide +kernel⟩, by decide⟩, st_J7_fill_53178⟩
theorem ms_J3_checkIndex_8e157 : z_mS mJ3_checkIndex_8e157 3 := ⟨⟨cw_J3_checkIndex_8e157, in_J3, ⟨by decide +kernel, by decide +kernel, by decide +kernel⟩, by decide⟩, st_J3_checkIndex_8e157⟩
/-- a lock, by its first cell -/
def z_isL (B : Nat) : Prop := B = 1 ∨ B = 6 ∨ B = 11 ∨ B = 16 ∨ B = 21
theorem z_L0 {B : Nat} (h : z_isL B) : z_shp[B]? = some (.inr (1, [some (B + 1), some (B + 2), none, none, none, some (B + 3), some (B + 4)])) := by rcases h with rfl | rfl | rfl | rfl | rfl <;> rfl
theorem z_L1 {B : Nat} (h : z_isL B) : z_shp[B + 1]? = some (.inl (.int, 6, none)) := by rcases h with rfl | rfl | rfl | rfl | rfl <;> rfl
theorem z_L2 {B : Nat} (h : z_isL B) : z_shp[B + 2]? = some (.inl (.int, 30, none)) := by rcases h with rfl | rfl | rfl | rfl | rfl <;> rfl
theorem z_L3 {B : Nat} (h : z_isL B) : z_shp[B + 3]? = some (.inl (.int, 6, none)) := by rcases h with rfl | rfl | rfl | rfl | rfl <;> rfl
theorem z_L4 {B : Nat} (h : z_isL B) : z_shp[B + 4]? = some (.inl (.int, 6, none)) := by rcases h with rfl | rfl | rfl | rfl | rfl <;> rfl
/-- a sheet, by its first cell -/
def z_isH (S : Nat) : Prop := S = 42 ∨ S = 44 ∨ S = 46 ∨ S = 48
theorem z_H0 {S : Nat} (h : z_isH S) : z_shp[S]? = some (.inr (3, [some (S + 1), none, none])) := by rcases h with rfl | rfl | rfl | rfl <;> rfl
theorem z_H1 {S : Nat} (h : z_isH S) : z_shp[S + 1]? = some (.inl (.int, 40, none)) := by rcases h with rfl | rfl | rfl | rfl <;> rfl
section IX
variable {y : zM} {d : Nat} {T : zX → Prop} {pc : Nat} {L : List (Option Value)} {st : List Value} {w : zW}
/-! array rows with the place as a number j -/
theorem rj_iald {k N : Nat} {i : Int32} (n j : Nat) (hd : decode y.2.1 pc = .ok (.iaload, 1)) (hs : z_shp[k]? = some (.inl (.int, N, none))) (hi : i = nI j) (hj : j < N) (hN : N < 2 ^ 31) (hn : pc + 1 = n) (kk : WP y d T n L (.int (w k j) :: st) w) : WP y d T pc L (.int i :: .ref k :: st) w := by
  subst hi
  refine r_iald n hd hs (vp_in_nI hj hN) hn ?_
  rw [nI_clamp (Nat.lt_trans hj hN)]
  exact kk
theorem rj_bald {k N : Nat} {i : Int32} (n j : Nat) (hd : decode y.2.1 pc = .ok (.baload, 1)) (hs : z_shp[k]? = some (.inl (.byte, N, none))) (hi : i = nI j) (hj : j < N) (hN : N < 2 ^ 31) (hn : pc + 1 = n) (kk : WP y d T n L (.int (w k j) :: st) w) : WP y d T pc L (.int i :: .ref k :: st) w := by
  subst hi
  refine r_bald n hd hs (vp_in_nI hj hN) hn ?_
  rw [nI_clamp (Nat.lt_trans hj hN)]
  exact kk
theorem rj_zald {k N : Nat} {i : Int32} (n j : Nat) (hd : decode y.2.1 pc = .ok (.baload, 1)) (hs : z_shp[k]? = some (.inl (.boolean, N, none))) (hi : i = nI j) (hj : j < N) (hN : N < 2 ^ 31) (hn : pc + 1 = n) (kk : WP y d T n L (.int (w k j) :: st) w) : WP y d T pc L (.int i :: .ref k :: st) w := by
  subst hi
  refine r_zald n hd hs (vp_in_nI hj hN) hn ?_
  rw [nI_clamp (Nat.lt_trans hj hN)]
  exact kk
theorem rj_iast {k N : Nat} {i v : Int32} (n j : Nat) (hd : decode y.2.1 pc = .ok (.iastore, 1)) (hs : z_shp[k]? = some (.inl (.int, N, none))) (hi : i = nI j) (hj : j < N) (hN : N < 2 ^ 31) (hn : pc + 1 = n) (kk : WP y d T n L st (z_up w k j v)) : WP y d T pc L (.int v :: .int i :: .ref k :: st) w := by
  subst hi
  refine r_iast n hd hs (vp_in_nI hj hN) hn ?_
  rw [nI_clamp (Nat.lt_trans hj hN)]
  exact kk
theorem rj_bast {k N : Nat} {i v : Int32} (n j : Nat) (hd : decode y.2.1 pc = .ok (.bastore, 1)) (hs : z_shp[k]? = some (.inl (.byte, N, none))) (hi : i = nI j) (hj : j < N) (hN : N < 2 ^ 31) (hn : pc + 1 = n) (kk : WP y d T n L st (z_up w k j (vp_nar .byte v))) : WP y d T pc L (.int v :: .int i :: .ref k :: st) w := by
  subst hi
  refine r_bast n hd hs (vp_in_nI hj hN) hn ?_
  rw [nI_clamp (Nat.lt_trans hj hN)]
  exact kk
theorem rj_zast {k N : Nat} {i v : Int32} (n j : Nat) (hd : decode y.2.1 pc = .ok (.bastore, 1)) (hs : z_shp[k]? = some (.inl (.boolean, N, none))) (hi : i = nI j) (hj : j < N) (hN : N < 2 ^ 31) (hn : pc + 1 = n) (kk : WP y d T n L st (z_up w k j (vp_nar .boolean v))) : WP y d T pc L (.int v :: .int i :: .ref k :: st) w := by
  subst hi
  refine r_zast n hd hs (vp_in_nI hj hN) hn ?_
  rw [nI_clamp (Nat.lt_trans hj hN)]
  exact kk
theorem rj_tald {k : Nat} {i : Int32} (n j q : Nat) (hd : decode y.2.1 pc = .ok (.iaload, 1)) (hq : q < 4) (hk : k = 100 + q) (hi : i = nI j) (hj : j < (z_sar.getD q []).length) (hn : pc + 1 = n) (kk : WP y d T n L (.int ((z_sar.getD q []).getD j 0) :: st) w) : WP y d T pc L (.int i :: .ref k :: st) w := by
  subst hi
  have hN : (z_sar.getD q []).length < 2 ^ 31 := by
    match q, hq with
    | 0, _ => decide
    | 1, _ => decide
    | 2, _ => decide
    | 3, _ => decide
  refine r_tald n hd hq hk (vp_in_nI hj hN) hn ?_
  rw [nI_clamp (Nat.lt_trans hj hN)]
  exact kk
theorem rj_aald {k N r : Nat} {i : Int32} {C : String} {rs : List Nat} (n j : Nat) (hd : decode y.2.1 pc = .ok (.aaload, 1)) (hs : z_shp[k]? = some (.inl (.object C, N, some rs))) (hi : i = nI j) (hj : j < N) (hN : N < 2 ^ 31) (hr : rs[j]? = some r) (hn : pc + 1 = n) (kk : WP y d T n L (.ref r :: st) w) : WP y d T pc L (.int i :: .ref k :: st) w := by
  subst hi
  refine r_aald n hd hs (vp_in_nI hj hN) ?_ hn kk
  rw [nI_clamp (Nat.lt_trans hj hN)]
  exact hr
/-- what lies on top is another thing's equal -/
theorem r_eq {x z : Int32} (h : x = z) (k : WP y d T pc L (.int z :: st) w) : WP y d T pc L (.int x :: st) w := by
  subst h
  exact k
theorem r_eqw {w' : zW} (h : w = w') (k : WP y d T pc L st w') : WP y d T pc L st w := by
  subst h
  exact k
/-- cut a contract to less -/
theorem r_mono {y : zM} {d : Nat} {as : List Value} {w : zW} {P Q : Option Value → zW → Prop} (h : CT y d as w P) (hPQ : ∀ r w', P r w' → Q r w') : CT y d as w Q := by
  intro l G sz p e ha hc hk s m args below hf happ hP hKK
  obtain ⟨n, o, h1, h2, h3, ⟨⟨⟨r, w', q1, q2, q3⟩, q4⟩, q5⟩⟩ := h l G sz p e ha hc hk s m args below hf happ hP hKK
  exact ⟨n, o, h1, h2, h3, ⟨⟨⟨r, w', q1, hPQ r w' q2, q3⟩, q4⟩, q5⟩⟩
end IX
end
section
/-! ===== numbers, yes and no ===== -/
theorem nx_X1_9 : Cond.fieldLinkNest RX1 9 RX6 "RULE_AT_FIRST" "[I" RX6 ∈ z_nst := by simp [z_nst]
theorem nx_X5_114 : Cond.fieldLinkNest RX5 114 RX6 "MARK_MOST" "[I" RX6 ∈ z_nst := by simp [z_nst]
theorem nx_X5_131 : Cond.fieldLinkNest RX5 131 RX6 "RULE_LEAST" "[I" RX6 ∈ z_nst := by simp [z_nst]
theorem nx_X5_134 : Cond.fieldLinkNest RX5 134 RX6 "RULE_MOST" "[I" RX6 ∈ z_nst := by simp [z_nst]
theorem nx_X5_147 : Cond.methodLinkNest RX5 147 yX6_within RX6 ∈ z_nst := by simp [z_nst]
theorem nx_X0_118 : Cond.methodLinkNest RX0 118 yX6_otherSide RX6 ∈ z_nst := by simp [z_nst]
theorem nx_X0_121 : Cond.methodLinkNest RX0 121 yX6_within RX6 ∈ z_nst := by simp [z_nst]
theorem nx_X2_52 : Cond.methodLinkNest RX2 52 yX6_otherSide RX6 ∈ z_nst := by simp [z_nst]
theorem nx_X3_19 : Cond.methodLinkNest RX3 19 yX6_within RX6 ∈ z_nst := by simp [z_nst]
/-- yes is 1 -/
def z_b (p : Prop) [Decidable p] : Int32 := if p then 1 else 0
theorem z_b1 {p : Prop} [Decidable p] (h : p) : 1 = z_b p := by rw [z_b, if_pos h]
theorem z_b0 {p : Prop} [Decidable p] (h : ¬ p) : 0 = z_b p := by rw [z_b, if_neg h]
theorem z_bp {p : Prop} [Decidable p] (h : p) : z_b p = 1 := if_pos h
theorem z_bn {p : Prop} [Decidable p] (h : ¬ p) : z_b p = 0 := if_neg h
theorem z_be {p : Prop} [Decidable p] : z_b p = 0 ↔ ¬ p := by
  by_cases h : p
  · rw [z_bp h]; exact ⟨fun z => absurd z (by decide), fun z => absurd h z⟩
  · rw [z_bn h]; exact ⟨fun _ => h, fun _ => rfl⟩
theorem z_bc {p q : Prop} [Decidable p] [Decidable q] (h : p ↔ q) : z_b p = z_b q := by
  by_cases hp : p
  · rw [z_bp hp, z_bp (h.mp hp)]
  · rw [z_bn hp, z_bn (fun z => hp (h.mpr z))]
theorem z_bnar {p : Prop} [Decidable p] : narrow .boolean (.int (z_b p)) = .int (z_b p) := by
  by_cases h : p
  · rw [z_bp h]; rfl
  · rw [z_bn h]; rfl
section ZB
variable {y : zM} {d : Nat} {T : zX → Prop} {pc : Nat} {L : List (Option Value)} {st : List Value} {w : zW}
theorem rb_eq {p : Prop} [Decidable p] {off : Int} (t n : Nat) (hd : decode y.2.1 pc = .ok (.ifCond .eq off, 3)) (ht : (pc : Int) + off = (t : Int)) (hn : pc + 3 = n) (kt : ¬ p → WP y d T t L st w) (kf : p → WP y d T n L st w) : WP y d T pc L (.int (z_b p) :: st) w :=
  r_if_eq t n hd ht hn (fun h => kt (z_be.mp h)) (fun h => kf (Classical.byContradiction fun z => h (z_be.mpr z)))
theorem rb_ne {p : Prop} [Decidable p] {off : Int} (t n : Nat) (hd : decode y.2.1 pc = .ok (.ifCond .ne off, 3)) (ht : (pc : Int) + off = (t : Int)) (hn : pc + 3 = n) (kt : p → WP y d T t L st w) (kf : ¬ p → WP y d T n L st w) : WP y d T pc L (.int (z_b p) :: st) w :=
  r_if_ne t n hd ht hn (fun h => kt (Classical.byContradiction fun z => h (z_be.mpr z))) (fun h => kf (z_be.mp h))
end ZB
/-! ints as integers -/
theorem ti_lt {a b : Int32} : a < b ↔ a.toInt < b.toInt := Int32.lt_iff_toInt_lt
theorem ti_le {a b : Int32} : a ≤ b ↔ a.toInt ≤ b.toInt := Int32.le_iff_toInt_le
theorem ti_eq {a b : Int32} : a = b ↔ a.toInt = b.toInt := ⟨fun h => by rw [h], fun h => Int32.toInt_inj.mp h⟩
theorem ti_n {n : Nat} (h : n < 2147483648) : (nI n).toInt = (n : Int) := nI_toInt (by omega)
theorem ti_b (x : Int32) : -2147483648 ≤ x.toInt ∧ x.toInt < 2147483648 := ⟨Int32.le_toInt x, Int32.toInt_lt x⟩
/-- a number between 0 and N -/
theorem ti_nI {x : Int32} (h0 : 0 ≤ x.toInt) : x = nI x.toInt.toNat := by
  rw [ti_eq, ti_n (by have := ti_b x; omega)]
  omega
theorem ti_of {x : Int32} {n : Nat} (h : x.toInt = (n : Int)) : x = nI n := by
  have hb := ti_b x
  rw [ti_eq, ti_n (by omega)]
  exact h
theorem ti_add {x z : Int32} (h : -2147483648 ≤ x.toInt + z.toInt ∧ x.toInt + z.toInt < 2147483648) : (x + z).toInt = x.toInt + z.toInt := by
  rw [Int32.toInt_add]
  exact Int.bmod_eq_of_le (by omega) (by omega)
theorem ti_sub {x z : Int32} (h : -2147483648 ≤ x.toInt - z.toInt ∧ x.toInt - z.toInt < 2147483648) : (x - z).toInt = x.toInt - z.toInt := by
  rw [Int32.toInt_sub]
  exact Int.bmod_eq_of_le (by omega) (by omega)
theorem ti_mul {x z : Int32} (h : -2147483648 ≤ x.toInt * z.toInt ∧ x.toInt * z.toInt < 2147483648) : (x * z).toInt = x.toInt * z.toInt := by
  rw [Int32.toInt_mul]
  exact Int.bmod_eq_of_le (by omega) (by omega)
theorem nI_sub {a b : Nat} (h : b ≤ a) : nI a - nI b = nI (a - b) := pk_sub h
theorem nI_mul (a b : Nat) : nI a * nI b = nI (a * b) := pk_mul a b
theorem nI_inj {a b : Nat} (ha : a < 2147483648) (hb : b < 2147483648) : nI a = nI b ↔ a = b := nI_eq (by omega) (by omega)
theorem nI_le' {a b : Nat} (ha : a < 2147483648) (hb : b < 2147483648) : nI a ≤ nI b ↔ a ≤ b := nI_leI (by omega) (by omega)
theorem nI_lt' {a b : Nat} (ha : a < 2147483648) (hb : b < 2147483648) : nI a < nI b ↔ a < b := nI_ltI (by omega) (by omega)
/-! long ints -/
theorem tl_lt {a b : Int64} : a < b ↔ a.toInt < b.toInt := Int64.lt_iff_toInt_lt
theorem tl_le {a b : Int64} : a ≤ b ↔ a.toInt ≤ b.toInt := Int64.le_iff_toInt_le
theorem tl_eq {a b : Int64} : a = b ↔ a.toInt = b.toInt := ⟨fun h => by rw [h], fun h => Int64.toInt_inj.mp h⟩
theorem tl_i (x : Int32) : x.toInt64.toInt = x.toInt := Int32.toInt_toInt64 x
theorem cmp_ge {a b : Int64} : 0 ≤ lg_cmp a b ↔ b.toInt ≤ a.toInt := by
  unfold lg_cmp
  by_cases h1 : b < a
  · rw [if_pos h1]
    have := tl_lt.mp h1
    exact ⟨fun _ => by omega, fun _ => by decide⟩
  · rw [if_neg h1]
    by_cases h2 : a = b
    · rw [if_pos h2]
      exact ⟨fun _ => by rw [h2]; exact Int.le_refl _, fun _ => by decide⟩
    · rw [if_neg h2]
      have h3 : ¬ b.toInt < a.toInt := fun z => h1 (tl_lt.mpr z)
      have h4 : ¬ a.toInt = b.toInt := fun z => h2 (tl_eq.mpr z)
      exact ⟨fun z => absurd z (by decide), fun z => by omega⟩
theorem cmp_gt {a b : Int64} : 0 < lg_cmp a b ↔ b.toInt < a.toInt := by
  unfold lg_cmp
  by_cases h1 : b < a
  · rw [if_pos h1]
    exact ⟨fun _ => tl_lt.mp h1, fun _ => by decide⟩
  · rw [if_neg h1]
    have h3 : ¬ b.toInt < a.toInt := fun z => h1 (tl_lt.mpr z)
    by_cases h2 : a = b
    · rw [if_pos h2]
      exact ⟨fun z => absurd z (by decide), fun z => absurd z h3⟩
    · rw [if_neg h2]
      exact ⟨fun z => absurd z (by decide), fun z => absurd z h3⟩
theorem cmp_eq {a b : Int64} : lg_cmp a b = 0 ↔ a = b := by
  unfold lg_cmp
  by_cases h1 : b < a
  · rw [if_pos h1]
    exact ⟨fun z => absurd z (by decide), fun z => by rw [z] at h1; exact absurd h1 (Int64.lt_irrefl)⟩
  · rw [if_neg h1]
    by_cases h2 : a = b
    · rw [if_pos h2]
      exact ⟨fun _ => h2, fun _ => rfl⟩
    · rw [if_neg h2]
      exact ⟨fun z => absurd z (by decide), fun z => absurd z h2⟩
theorem cmp_lt {a b : Int64} : lg_cmp a b < 0 ↔ a.toInt < b.toInt := by
  have h := cmp_ge (a := a) (b := b)
  rw [ti_le] at h
  rw [ti_lt]
  have e : (0 : Int32).toInt = 0 := rfl
  rw [e] at h ⊢
  omega
theorem cmp_le {a b : Int64} : lg_cmp a b ≤ 0 ↔ a.toInt ≤ b.toInt := by
  have h := cmp_gt (a := a) (b := b)
  rw [ti_lt] at h
  rw [ti_le]
  have e : (0 : Int32).toInt = 0 := rfl
  rw [e] at h ⊢
  omega
end
section
/-! ===== the day, in numbers ===== -/
/-- bit b of a set -/
def bi (g b : Nat) : Nat := g / 2 ^ b % 2
theorem bi_lt (g b : Nat) : bi g b < 2 := Nat.mod_lt _ (by decide)
theorem bi_01 (g b : Nat) : bi g b = 0 ∨ bi g b = 1 := by have := bi_lt g b; omega
/-- the first of the least of those below n with p -/
def am : Nat → (Nat → Bool) → (Nat → Nat) → Option Nat
  | 0, _, _ => none
  | n + 1, p, f => match am n p f with
    | none => if p n = true then some n else none
    | some b => if p n = true ∧ f n < f b then some n else some b
theorem am_none {n : Nat} {p : Nat → Bool} {f : Nat → Nat} : am n p f = none ↔ ∀ c, c < n → p c = false := by
  induction n with
  | zero => exact ⟨fun _ c h => absurd h (Nat.not_lt_zero c), fun _ => rfl⟩
  | succ n ih =>
    rw [am]
    cases h : am n p f with
    | none =>
      have h0 := ih.mp h
      by_cases hp : p n = true
      · simp only [hp, if_true]
        exact ⟨fun z => absurd z (by simp), fun z => by have := z n (Nat.lt_succ_self n); rw [hp] at this; cases this⟩
      · simp only [hp]
        refine ⟨fun _ c hc => ?_, fun _ => by simp⟩
        rcases Nat.lt_succ_iff_lt_or_eq.mp hc with h1 | h1
        · exact h0 c h1
        · subst h1; simpa using hp
    | some b =>
      refine ⟨fun z => ?_, fun z => ?_⟩
      · by_cases hc : p n = true ∧ f n < f b
        · simp only [if_pos hc] at z
          exact nomatch z
        · simp only [if_neg hc] at z
          exact nomatch z
      · have := ih.mpr (fun c hc => z c (Nat.lt_succ_of_lt hc))
        rw [h] at this
        exact nomatch this
theorem am_some {n : Nat} {p : Nat → Bool} {f : Nat → Nat} : ∀ {b : Nat}, am n p f = some b → b < n ∧ p b = true ∧ (∀ c, c < n → p c = true → f b ≤ f c) ∧ (∀ c, c < b → p c = true → f b < f c) := by
  induction n with
  | zero => intro b h; cases h
  | succ n ih =>
    intro b h
    rw [am] at h
    cases h0 : am n p f with
    | none =>
      rw [h0] at h
      have hn := am_none.mp h0
      by_cases hp : p n = true
      · simp only [hp, if_true] at h
        cases h
        refine ⟨Nat.lt_succ_self n, hp, fun c hc hpc => ?_, fun c hc hpc => ?_⟩
        · rcases Nat.lt_succ_iff_lt_or_eq.mp hc with h1 | h1
          · rw [hn c h1] at hpc; cases hpc
          · subst h1; exact Nat.le_refl _
        · rw [hn c hc] at hpc; cases hpc
      · simp [hp] at h
    | some b0 =>
      rw [h0] at h
      obtain ⟨i1, i2, i3, i4⟩ := ih h0
      by_cases hc : p n = true ∧ f n < f b0
      · simp only [if_pos hc] at h
        cases h
        refine ⟨Nat.lt_succ_self n, hc.1, fun c hcn hpc => ?_, fun c hcn hpc => ?_⟩
        · rcases Nat.lt_succ_iff_lt_or_eq.mp hcn with h1 | h1
          · have := i3 c h1 hpc; omega
          · subst h1; exact Nat.le_refl _
        · have := i3 c hcn hpc; omega
      · simp only [if_neg hc] at h
        cases h
        refine ⟨Nat.lt_succ_of_lt i1, i2, fun c hcn hpc => ?_, i4⟩
        rcases Nat.lt_succ_iff_lt_or_eq.mp hcn with h1 | h1
        · exact i3 c h1 hpc
        · subst h1
          by_cases h2 : f c < f b
          · exact absurd ⟨hpc, h2⟩ hc
          · omega
theorem am_of {n : Nat} {p : Nat → Bool} {f : Nat → Nat} {b : Nat} (h1 : b < n) (h2 : p b = true) (h3 : ∀ c, c < n → p c = true → f b ≤ f c) (h4 : ∀ c, c < b → p c = true → f b < f c) : am n p f = some b := by
  cases h : am n p f with
  | none => rw [am_none.mp h b h1] at h2; cases h2
  | some b0 =>
    obtain ⟨i1, i2, i3, i4⟩ := am_some h
    rcases Nat.lt_trichotomy b b0 with q | q | q
    · have a := i4 b q h2; have := h3 b0 i1 i2; omega
    · rw [q]
    · have a := h4 b0 q i2; have := i3 b h1 h2; omega
theorem am_congr {n : Nat} {p q : Nat → Bool} {f g : Nat → Nat} (h : ∀ c, c < n → p c = q c) (hf : ∀ c, c < n → f c = g c) : am n p f = am n q g := by
  induction n with
  | zero => rfl
  | succ n ih =>
    rw [am, am, ih (fun c hc => h c (Nat.lt_succ_of_lt hc)) (fun c hc => hf c (Nat.lt_succ_of_lt hc)), h n (Nat.lt_succ_self n)]
    cases h0 : am n q g with
    | none => rfl
    | some b => simp only [hf n (Nat.lt_succ_self n), hf b (Nat.lt_succ_of_lt (am_some h0).1)]
/-- how many of those below n -/
def cn : Nat → (Nat → Bool) → Nat
  | 0, _ => 0
  | n + 1, p => cn n p + (if p n = true then 1 else 0)
theorem cn_le {n : Nat} {p : Nat → Bool} : cn n p ≤ n := by
  induction n with
  | zero => exact Nat.le_refl _
  | succ n ih => rw [cn]; split <;> omega
theorem cn_congr {n : Nat} {p q : Nat → Bool} (h : ∀ c, c < n → p c = q c) : cn n p = cn n q := by
  induction n with
  | zero => rfl
  | succ n ih => rw [cn, cn, ih (fun c hc => h c (Nat.lt_succ_of_lt hc)), h n (Nat.lt_succ_self n)]
theorem cn_pos {n : Nat} {p : Nat → Bool} (h : cn n p < n) : ∃ c, c < n ∧ p c = false := by
  induction n with
  | zero => exact absurd h (Nat.not_lt_zero _)
  | succ n ih =>
    rw [cn] at h
    by_cases hp : p n = true
    · simp only [hp, if_true] at h
      obtain ⟨c, h1, h2⟩ := ih (by omega)
      exact ⟨c, Nat.lt_succ_of_lt h1, h2⟩
    · exact ⟨n, Nat.lt_succ_self n, by simpa using hp⟩
theorem cn_all {n : Nat} {p : Nat → Bool} (h : cn n p = n) : ∀ c, c < n → p c = true := by
  induction n with
  | zero => intro c hc; exact absurd hc (Nat.not_lt_zero c)
  | succ n ih =>
    intro c hc
    rw [cn] at h
    have h0 := cn_le (n := n) (p := p)
    by_cases hp : p n = true
    · simp only [hp, if_true] at h
      rcases Nat.lt_succ_iff_lt_or_eq.mp hc with h1 | h1
      · exact ih (by omega) c h1
      · rw [h1]; exact hp
    · simp only [hp] at h
      have : cn n p = n + 1 := by simpa using h
      omega
theorem cn_add {n b : Nat} {p q : Nat → Bool} (hb : b < n) (hp : p b = false) (hq : q b = true) (h : ∀ c, c < n → c ≠ b → q c = p c) : cn n q = cn n p + 1 := by
  induction n with
  | zero => exact absurd hb (Nat.not_lt_zero b)
  | succ n ih =>
    rw [cn, cn]
    by_cases hbn : b = n
    · subst hbn
      rw [cn_congr (p := q) (q := p) (fun c hc => h c (Nat.lt_succ_of_lt hc) (by omega))]
      simp [hp, hq]
    · rw [ih (by omega) (fun c hc => h c (Nat.lt_succ_of_lt hc)), h n (Nat.lt_succ_self n) (by omega)]
      omega
/-- sums -/
def sm : Nat → (Nat → Nat) → Nat
  | 0, _ => 0
  | n + 1, f => sm n f + f n
theorem sm_congr {n : Nat} {f g : Nat → Nat} (h : ∀ c, c < n → f c = g c) : sm n f = sm n g := by
  induction n with
  | zero => rfl
  | succ n ih => rw [sm, sm, ih (fun c hc => h c (Nat.lt_succ_of_lt hc)), h n (Nat.lt_succ_self n)]
theorem sm_set {n b : Nat} {f g : Nat → Nat} (hb : b < n) (h : ∀ c, c < n → c ≠ b → g c = f c) : sm n g + f b = sm n f + g b := by
  induction n with
  | zero => exact absurd hb (Nat.not_lt_zero b)
  | succ n ih =>
    rw [sm, sm]
    by_cases hbn : b = n
    · subst hbn
      rw [sm_congr (f := g) (g := f) (fun c hc => h c (Nat.lt_succ_of_lt hc) (by omega))]
      omega
    · have := ih (by omega) (fun c hc => h c (Nat.lt_succ_of_lt hc))
      rw [h n (Nat.lt_succ_self n) (by omega)]
      omega
theorem sm_le {n M : Nat} {f : Nat → Nat} (h : ∀ c, c < n → f c ≤ M) : sm n f ≤ n * M := by
  induction n with
  | zero => exact Nat.zero_le _
  | succ n ih =>
    rw [sm, Nat.succ_mul]
    have := ih (fun c hc => h c (Nat.lt_succ_of_lt hc))
    have := h n (Nat.lt_succ_self n)
    omega
/-- the greatest -/
def mx : Nat → (Nat → Nat) → Nat
  | 0, _ => 0
  | n + 1, f => max (mx n f) (f n)
theorem mx_congr {n : Nat} {f g : Nat → Nat} (h : ∀ c, c < n → f c = g c) : mx n f = mx n g := by
  induction n with
  | zero => rfl
  | succ n ih => rw [mx, mx, ih (fun c hc => h c (Nat.lt_succ_of_lt hc)), h n (Nat.lt_succ_self n)]
theorem mx_set {n b : Nat} {f g : Nat → Nat} (hb : b < n) (hf : f b = 0) (h : ∀ c, c < n → c ≠ b → g c = f c) : mx n g = max (mx n f) (g b) := by
  induction n with
  | zero => exact absurd hb (Nat.not_lt_zero b)
  | succ n ih =>
    rw [mx, mx]
    by_cases hbn : b = n
    · subst hbn
      rw [mx_congr (f := g) (g := f) (fun c hc => h c (Nat.lt_succ_of_lt hc) (by omega)), hf]
      omega
    · rw [ih (by omega) (fun c hc => h c (Nat.lt_succ_of_lt hc)), h n (Nat.lt_succ_self n) (by omega)]
      omega
theorem mx_le {n M : Nat} {f : Nat → Nat} (h : ∀ c, c < n → f c ≤ M) : mx n f ≤ M := by
  induction n with
  | zero => exact Nat.zero_le _
  | succ n ih =>
    rw [mx]
    have := ih (fun c hc => h c (Nat.lt_succ_of_lt hc))
    have := h n (Nat.lt_succ_self n)
    omega
/-! the lock's numbers: K 0 .. K 5 rules, K (6 + 6 b + ..) a boat's marks -/
def k_sd (K : Nat → Nat) (b : Nat) : Nat := K (6 + 6 * b)
def k_ar (K : Nat → Nat) (b : Nat) : Nat := K (6 + 6 * b + 2)
def k_wo (K : Nat → Nat) (b : Nat) : Nat := K (6 + 6 * b + 3)
/-- from when on a boat counts -/
def k_ct (K : Nat → Nat) (b : Nat) : Nat := K (6 + 6 * b + 2) - (if K 5 = 1 ∧ K 4 < K (6 + 6 * b + 4) then K (6 + 6 * b + 4) else K 4)
/-- the cargo that it tells -/
def k_tl (K : Nat → Nat) (cg b : Nat) : Nat := if K (6 + 6 * b + 5) = 0 then K (6 + 6 * b + 1) else if bi cg b = 1 then 4 else 0
/-- what a day knows of -/
def kV (A n : Nat) (K : Nat → Nat) : Prop := n ≤ 6 ∧ (1 ≤ K 0 ∧ K 0 ≤ 9) ∧ K 1 ≤ 9 ∧ K 2 ≤ 1 ∧ K 3 ≤ 4 ∧ K 4 ≤ 9 ∧ K 5 ≤ 1 ∧ ∀ b, b < n → K (6 + 6 * b) ≤ 1 ∧ K (6 + 6 * b + 1) ≤ 3 ∧ K (6 + 6 * b + 2) ≤ A ∧ K (6 + 6 * b + 3) ≤ 9 ∧ K (6 + 6 * b + 4) ≤ 9 ∧ K (6 + 6 * b + 5) ≤ 1
/-- a day so far: gone, free, ready, who passed, stood, through, water, turned -/
abbrev dT : Type := Nat × Nat × Nat × (Nat → Nat) × (Nat → Nat) × (Nat → Nat) × Nat × Nat
abbrev d_g (s : dT) : Nat := s.1
abbrev d_f (s : dT) : Nat := s.2.1
abbrev d_r (s : dT) : Nat := s.2.2.1
abbrev d_p (s : dT) : Nat → Nat := s.2.2.2.1
abbrev d_s (s : dT) : Nat → Nat := s.2.2.2.2.1
abbrev d_d (s : dT) : Nat → Nat := s.2.2.2.2.2.1
abbrev d_w (s : dT) : Nat := s.2.2.2.2.2.2.1
abbrev d_t (s : dT) : Nat := s.2.2.2.2.2.2.2
def un (f : Nat → Nat) (k v : Nat) : Nat → Nat := fun j => if j = k then v else f j
theorem un_s {f : Nat → Nat} {k v : Nat} : un f k v k = v := if_pos rfl
theorem un_n {f : Nat → Nat} {k v j : Nat} (h : j ≠ k) : un f k v j = f j := if_neg h
/-- the i-th, boat b, is let through -/
def d_let (K : Nat → Nat) (i b : Nat) (s : dT) : dT :=
  let f := if d_r s = k_sd K b then d_f s else d_f s + K 1
  let m := max f (k_ar K b)
  (d_g s + 2 ^ b, m + K 0, 1 - k_sd K b, un (d_p s) i b, un (d_s s) b (m - k_ar K b), un (d_d s) b (m + K 0),
    d_w s + (if d_r s = k_sd K b then 0 else if k_sd K b = 1 then 1 else 0) + (if k_sd K b = 0 then 1 else 0), d_t s + (if d_r s = k_sd K b then 0 else 1))
def d_nil (K : Nat → Nat) : dT := (0, 0, K 2, fun _ => 0, fun _ => 0, fun _ => 0, 0, 0)
/-- it is free till the first one counts -/
def d_wait (n : Nat) (K : Nat → Nat) (s : dT) : Nat := match am n (fun b => bi (d_g s) b == 0) (k_ct K) with
  | none => d_f s
  | some b => max (d_f s) (k_ct K b)
/-- who counts as come -/
def d_in (K : Nat → Nat) (s : dT) (f b : Nat) : Bool := bi (d_g s) b == 0 && decide (k_ct K b ≤ f)
/-- the side that is ahead, by the law -/
def d_side (n : Nat) (K : Nat → Nat) (i : Nat) (s : dT) (f : Nat) : Nat :=
  if K 3 = 2 then (if i = 0 then d_r s else if i = 1 then k_sd K (d_p s 0) else if k_sd K (d_p s (i - 1)) = k_sd K (d_p s (i - 2)) then 1 - k_sd K (d_p s (i - 1)) else k_sd K (d_p s (i - 1)))
  else if K 3 = 4 then (
    let a := cn n (fun b => d_in K s f b && (k_sd K b == 0))
    let z := cn n (fun b => d_in K s f b && (k_sd K b == 1))
    if z < a then 0 else if a < z then 1 else d_r s)
  else d_r s
/-- the rank that the law gives -/
def d_rk (K : Nat → Nat) (cg s b : Nat) : Nat := if K 3 = 3 then k_tl K cg b else if K 3 = 0 then 0 else if k_sd K b = s then 0 else 1
def d_pick (n : Nat) (K : Nat → Nat) (cg i : Nat) (s : dT) : Option Nat :=
  let f := d_wait n K s
  am n (d_in K s f) (fun b => d_rk K cg (d_side n K i s f) b * 1000 + k_ct K b)
def d_step (n : Nat) (K : Nat → Nat) (cg i : Nat) (s : dT) : dT := match d_pick n K cg i s with
  | none => s
  | some b => d_let K i b (d_g s, d_wait n K s, s.2.2)
/-- a day after i boats -/
def d_run (n : Nat) (K : Nat → Nat) (cg : Nat) : Nat → dT
  | 0 => d_nil K
  | i + 1 => d_step n K cg i (d_run n K cg i)
/-- boats in an order, as they are given -/
def d_ord (K : Nat → Nat) (o : Nat → Nat) : Nat → dT
  | 0 => d_nil K
  | i + 1 => d_let K i (o i) (d_ord K o i)
end
section
/-! ===== ternaries: a branch to two constants that meet ===== -/
section TERN
variable {y : zM} {d : Nat} {T : zX → Prop} {pc : Nat} {L : List (Option Value)} {st : List Value} {w : zW}
theorem rt_if_eq {x a b : Int32} {off : Int} {j : Nat} (t n : Nat) (hd : decode y.2.1 pc = .ok (.ifCond .eq off, 3)) (ht : (pc : Int) + off = (t : Int)) (hn : pc + 3 = n) (kb : WP y d T j L (.int b :: st) w → WP y d T t L st w) (ka : WP y d T j L (.int a :: st) w → WP y d T n L st w) (k : WP y d T j L (.int (if x = 0 then b else a) :: st) w) : WP y d T pc L (.int x :: st) w :=
  r_if_eq t n hd ht hn (fun q => kb (by rw [if_pos q] at k; exact k)) (fun q => ka (by rw [if_neg q] at k; exact k))
theorem rt_icmp_eq {x z a b : Int32} {off : Int} {j : Nat} (t n : Nat) (hd : decode y.2.1 pc = .ok (.if_icmp .eq off, 3)) (ht : (pc : Int) + off = (t : Int)) (hn : pc + 3 = n) (kb : WP y d T j L (.int b :: st) w → WP y d T t L st w) (ka : WP y d T j L (.int a :: st) w → WP y d T n L st w) (k : WP y d T j L (.int (if x = z then b else a) :: st) w) : WP y d T pc L (.int z :: .int x :: st) w :=
  r_icmp_eq t n hd ht hn (fun q => kb (by rw [if_pos q] at k; exact k)) (fun q => ka (by rw [if_neg q] at k; exact k))
theorem rt_if_ne {x a b : Int32} {off : Int} {j : Nat} (t n : Nat) (hd : decode y.2.1 pc = .ok (.ifCond .ne off, 3)) (ht : (pc : Int) + off = (t : Int)) (hn : pc + 3 = n) (kb : WP y d T j L (.int b :: st) w → WP y d T t L st w) (ka : WP y d T j L (.int a :: st) w → WP y d T n L st w) (k : WP y d T j L (.int (if x = 0 then a else b) :: st) w) : WP y d T pc L (.int x :: st) w :=
  r_if_ne t n hd ht hn (fun q => kb (by rw [if_neg q] at k; exact k)) (fun q => ka (by rw [if_pos q] at k; exact k))
theorem rt_icmp_ne {x z a b : Int32} {off : Int} {j : Nat} (t n : Nat) (hd : decode y.2.1 pc = .ok (.if_icmp .ne off, 3)) (ht : (pc : Int) + off = (t : Int)) (hn : pc + 3 = n) (kb : WP y d T j L (.int b :: st) w → WP y d T t L st w) (ka : WP y d T j L (.int a :: st) w → WP y d T n L st w) (k : WP y d T j L (.int (if x = z then a else b) :: st) w) : WP y d T pc L (.int z :: .int x :: st) w :=
  r_icmp_ne t n hd ht hn (fun q => kb (by rw [if_neg q] at k; exact k)) (fun q => ka (by rw [if_pos q] at k; exact k))
theorem rt_if_lt {x a b : Int32} {off : Int} {j : Nat} (t n : Nat) (hd : decode y.2.1 pc = .ok (.ifCond .lt off, 3)) (ht : (pc : Int) + off = (t : Int)) (hn : pc + 3 = n) (kb : WP y d T j L (.int b :: st) w → WP y d T t L st w) (ka : WP y d T j L (.int a :: st) w → WP y d T n L st w) (k : WP y d T j L (.int (if x < 0 then b else a) :: st) w) : WP y d T pc L (.int x :: st) w :=
  r_if_lt t n hd ht hn (fun q => kb (by rw [if_pos q] at k; exact k)) (fun q => ka (by rw [if_neg q] at k; exact k))
theorem rt_icmp_lt {x z a b : Int32} {off : Int} {j : Nat} (t n : Nat) (hd : decode y.2.1 pc = .ok (.if_icmp .lt off, 3)) (ht : (pc : Int) + off = (t : Int)) (hn : pc + 3 = n) (kb : WP y d T j L (.int b :: st) w → WP y d T t L st w) (ka : WP y d T j L (.int a :: st) w → WP y d T n L st w) (k : WP y d T j L (.int (if x < z then b else a) :: st) w) : WP y d T pc L (.int z :: .int x :: st) w :=
  r_icmp_lt t n hd ht hn (fun q => kb (by rw [if_pos q] at k; exact k)) (fun q => ka (by rw [if_neg q] at k; exact k))
theorem rt_if_ge {x a b : Int32} {off : Int} {j : Nat} (t n : Nat) (hd : decode y.2.1 pc = .ok (.ifCond .ge off, 3)) (ht : (pc : Int) + off = (t : Int)) (hn : pc + 3 = n) (kb : WP y d T j L (.int b :: st) w → WP y d T t L st w) (ka : WP y d T j L (.int a :: st) w → WP y d T n L st w) (k : WP y d T j L (.int (if 0 ≤ x then b else a) :: st) w) : WP y d T pc L (.int x :: st) w :=
  r_if_ge t n hd ht hn (fun q => kb (by rw [if_pos q] at k; exact k)) (fun q => ka (by rw [if_neg q] at k; exact k))
theorem rt_icmp_ge {x z a b : Int32} {off : Int} {j : Nat} (t n : Nat) (hd : decode y.2.1 pc = .ok (.if_icmp .ge off, 3)) (ht : (pc : Int) + off = (t : Int)) (hn : pc + 3 = n) (kb : WP y d T j L (.int b :: st) w → WP y d T t L st w) (ka : WP y d T j L (.int a :: st) w → WP y d T n L st w) (k : WP y d T j L (.int (if z ≤ x then b else a) :: st) w) : WP y d T pc L (.int z :: .int x :: st) w :=
  r_icmp_ge t n hd ht hn (fun q => kb (by rw [if_pos q] at k; exact k)) (fun q => ka (by rw [if_neg q] at k; exact k))
theorem rt_if_gt {x a b : Int32} {off : Int} {j : Nat} (t n : Nat) (hd : decode y.2.1 pc = .ok (.ifCond .gt off, 3)) (ht : (pc : Int) + off = (t : Int)) (hn : pc + 3 = n) (kb : WP y d T j L (.int b :: st) w → WP y d T t L st w) (ka : WP y d T j L (.int a :: st) w → WP y d T n L st w) (k : WP y d T j L (.int (if 0 < x then b else a) :: st) w) : WP y d T pc L (.int x :: st) w :=
  r_if_gt t n hd ht hn (fun q => kb (by rw [if_pos q] at k; exact k)) (fun q => ka (by rw [if_neg q] at k; exact k))
theorem rt_icmp_gt {x z a b : Int32} {off : Int} {j : Nat} (t n : Nat) (hd : decode y.2.1 pc = .ok (.if_icmp .gt off, 3)) (ht : (pc : Int) + off = (t : Int)) (hn : pc + 3 = n) (kb : WP y d T j L (.int b :: st) w → WP y d T t L st w) (ka : WP y d T j L (.int a :: st) w → WP y d T n L st w) (k : WP y d T j L (.int (if z < x then b else a) :: st) w) : WP y d T pc L (.int z :: .int x :: st) w :=
  r_icmp_gt t n hd ht hn (fun q => kb (by rw [if_pos q] at k; exact k)) (fun q => ka (by rw [if_neg q] at k; exact k))
theorem rt_if_le {x a b : Int32} {off : Int} {j : Nat} (t n : Nat) (hd : decode y.2.1 pc = .ok (.ifCond .le off, 3)) (ht : (pc : Int) + off = (t : Int)) (hn : pc + 3 = n) (kb : WP y d T j L (.int b :: st) w → WP y d T t L st w) (ka : WP y d T j L (.int a :: st) w → WP y d T n L st w) (k : WP y d T j L (.int (if x ≤ 0 then b else a) :: st) w) : WP y d T pc L (.int x :: st) w :=
  r_if_le t n hd ht hn (fun q => kb (by rw [if_pos q] at k; exact k)) (fun q => ka (by rw [if_neg q] at k; exact k))
theorem rt_icmp_le {x z a b : Int32} {off : Int} {j : Nat} (t n : Nat) (hd : decode y.2.1 pc = .ok (.if_icmp .le off, 3)) (ht : (pc : Int) + off = (t : Int)) (hn : pc + 3 = n) (kb : WP y d T j L (.int b :: st) w → WP y d T t L st w) (ka : WP y d T j L (.int a :: st) w → WP y d T n L st w) (k : WP y d T j L (.int (if x ≤ z then b else a) :: st) w) : WP y d T pc L (.int z :: .int x :: st) w :=
  r_icmp_le t n hd ht hn (fun q => kb (by rw [if_pos q] at k; exact k)) (fun q => ka (by rw [if_neg q] at k; exact k))
theorem rt_b_eq {p : Prop} [Decidable p] {a b : Int32} {off : Int} {j : Nat} (t n : Nat) (hd : decode y.2.1 pc = .ok (.ifCond .eq off, 3)) (ht : (pc : Int) + off = (t : Int)) (hn : pc + 3 = n) (kb : WP y d T j L (.int b :: st) w → WP y d T t L st w) (ka : WP y d T j L (.int a :: st) w → WP y d T n L st w) (k : WP y d T j L (.int (if p then a else b) :: st) w) : WP y d T pc L (.int (z_b p) :: st) w :=
  rb_eq t n hd ht hn (fun q => kb (by rw [if_neg q] at k; exact k)) (fun q => ka (by rw [if_pos q] at k; exact k))
theorem rt_b_ne {p : Prop} [Decidable p] {a b : Int32} {off : Int} {j : Nat} (t n : Nat) (hd : decode y.2.1 pc = .ok (.ifCond .ne off, 3)) (ht : (pc : Int) + off = (t : Int)) (hn : pc + 3 = n) (kb : WP y d T j L (.int b :: st) w → WP y d T t L st w) (ka : WP y d T j L (.int a :: st) w → WP y d T n L st w) (k : WP y d T j L (.int (if p then b else a) :: st) w) : WP y d T pc L (.int (z_b p) :: st) w :=
  rb_ne t n hd ht hn (fun q => kb (by rw [if_pos q] at k; exact k)) (fun q => ka (by rw [if_neg q] at k; exact k))
end TERN
/-! ===== bits of small sets ===== -/
theorem b_sh : ∀ g, g < 64 → ∀ b, b < 6 → ((nI g >>> (nI b &&& 31)) &&& 1) = nI (bi g b) := by decide +kernel
theorem b_or : ∀ g, g < 64 → ∀ b, b < 6 → bi g b = 0 → nI g ||| ((1 : Int32) <<< (nI b &&& 31)) = nI (g + 2 ^ b) := by decide +kernel
theorem b_rm : ∀ g, g < 64 → ∀ b, b < 6 → bi g b = 1 → nI g &&& (((1 : Int32) <<< (nI b &&& 31)) ^^^ (-1)) = nI (g - 2 ^ b) := by decide +kernel
theorem b_sl : ∀ b, b < 7 → ((1 : Int32) <<< (nI b &&& 31)) = nI (2 ^ b) := by decide +kernel
theorem bi_add : ∀ g, g < 64 → ∀ b, b < 6 → bi g b = 0 → ∀ c, c < 6 → bi (g + 2 ^ b) c = if c = b then 1 else bi g c := by decide +kernel
theorem bi_sub : ∀ g, g < 64 → ∀ b, b < 6 → bi g b = 1 → ∀ c, c < 6 → bi (g - 2 ^ b) c = if c = b then 0 else bi g c := by decide +kernel
theorem g_add : ∀ n, n < 7 → ∀ g, g < 2 ^ n → ∀ b, b < n → bi g b = 0 → g + 2 ^ b < 2 ^ n := by decide +kernel
theorem g_out : ∀ n, n < 7 → ∀ g, g < 2 ^ n → ∀ b, b < 6 → n ≤ b → bi g b = 0 := by decide +kernel
theorem p2_le : ∀ n, n < 7 → 2 ^ n ≤ 64 := by decide
theorem bi_ext : ∀ g, g < 64 → ∀ h, h < 64 → (∀ c, c < 6 → bi g c = bi h c) → g = h := by decide +kernel
/-! small sums -/
theorem n0_max {a b : Nat} (ha : a < 1073741824) (hb : b < 1073741824) : (if (0 : Int32) < nI a - nI b then nI a - nI b else 0) = nI (a - b) := by
  rcases Nat.lt_or_ge b a with h | h
  · rw [nI_sub (by omega), if_pos]
    rw [ti_lt, ti_n (by omega)]
    show (0 : Int) < _
    omega
  · rw [if_neg, show a - b = 0 by omega, nI_0]
    rw [ti_lt, pk_sub_toInt (by omega) (by omega)]
    show ¬ (0 : Int) < _
    omega
theorem n_max {a b : Nat} (ha : a < 2147483648) (hb : b < 2147483648) : (if nI a < nI b then nI b else nI a) = nI (max a b) := by
  by_cases h : a < b
  · rw [if_pos ((nI_lt' ha hb).mpr h), Nat.max_eq_right (by omega)]
  · rw [if_neg (fun z => h ((nI_lt' ha hb).mp z)), Nat.max_eq_left (by omega)]
theorem n_min {a b : Nat} (ha : a < 2147483648) (hb : b < 2147483648) : (if nI b < nI a then nI b else nI a) = nI (min a b) := by
  by_cases h : b < a
  · rw [if_pos ((nI_lt' hb ha).mpr h), Nat.min_eq_right (by omega)]
  · rw [if_neg (fun z => h ((nI_lt' hb ha).mp z)), Nat.min_eq_left (by omega)]
theorem n_ite {p : Prop} [Decidable p] {a b : Nat} : (if p then nI a else nI b) = nI (if p then a else b) := by split <;> rfl
end
section
/-! ===== leaves ===== -/
set_option maxRecDepth 20000 in
set_option maxHeartbeats 4000000 in
theorem c_within {d : Nat} {w : zW} (v a b : Int32) : CT mX6_within d [.int v, .int a, .int b] w (z_i fun x w' => z_b (a.toInt ≤ v.toInt ∧ v.toInt ≤ b.toInt) = x ∧ w = w') := by
  refine CT.of [some (.int v), some (.int a), some (.int b)] rfl (Nat.le_of_ble_eq_true rfl) rfl ?_
  refine r_iload_n 1 dX6_within_0 rfl rfl ?_
  refine r_iload_n 2 dX6_within_1 rfl rfl ?_
  refine r_icmp_gt 14 5 dX6_within_2 (by decide) rfl (fun h2 => ?_) (fun h2 => ?_)
  · refine r_iconst 15 (v := 0) dX6_within_14 (by decide) rfl ?_
    exact r_iret .boolean dX6_within_15 rfl (rfl) (⟨by simp only [ti_lt, ti_le] at *; first | exact z_bp (by omega) | exact z_bn (by omega), rfl⟩)
  · refine r_iload_n 6 dX6_within_5 rfl rfl ?_
    refine r_iload_n 7 dX6_within_6 rfl rfl ?_
    refine r_icmp_gt 14 10 dX6_within_7 (by decide) rfl (fun h7 => ?_) (fun h7 => ?_)
    · refine r_iconst 15 (v := 0) dX6_within_14 (by decide) rfl ?_
      exact r_iret .boolean dX6_within_15 rfl (rfl) (⟨by simp only [ti_lt, ti_le] at *; first | exact z_bp (by omega) | exact z_bn (by omega), rfl⟩)
    · refine r_iconst 11 (v := 1) dX6_within_10 (by decide) rfl ?_
      refine r_goto 15 dX6_within_11 (by decide) ?_
      exact r_iret .boolean dX6_within_15 rfl (rfl) (⟨by simp only [ti_lt, ti_le] at *; first | exact z_bp (by omega) | exact z_bn (by omega), rfl⟩)
set_option maxRecDepth 20000 in
set_option maxHeartbeats 4000000 in
theorem c_otherSide {d : Nat} {w : zW} (i : Nat) (hi : i < 2) : CT mX6_otherSide d [.int (nI i)] w (z_i fun x w' => nI (1 - i) = x ∧ w = w') := by
  refine CT.of [some (.int (nI i))] rfl (Nat.le_of_ble_eq_true rfl) rfl ?_
  refine r_iload_n 1 dX6_otherSide_0 rfl rfl ?_
  refine r_if_ne 8 4 dX6_otherSide_1 (by decide) rfl (fun h1 => ?_) (fun h1 => ?_)
  · have h1 : i = 1 := by
      rcases (by omega : i = 0 ∨ i = 1) with z | z
      · subst z; exact absurd rfl h1
      · exact z
    subst h1
    refine r_iconst 9 (v := 0) dX6_otherSide_8 (by decide) rfl ?_
    exact r_iret .int dX6_otherSide_9 rfl (rfl) (⟨rfl, rfl⟩)
  · have h1 : i = 0 := by
      rcases (by omega : i = 0 ∨ i = 1) with z | z
      · exact z
      · subst z; exact absurd h1 (by decide)
    subst h1
    refine r_iconst 5 (v := 1) dX6_otherSide_4 (by decide) rfl ?_
    refine r_goto 9 dX6_otherSide_5 (by decide) ?_
    exact r_iret .int dX6_otherSide_9 rfl (rfl) (⟨rfl, rfl⟩)
set_option maxRecDepth 20000 in
set_option maxHeartbeats 4000000 in
theorem c_mark {d B i j : Nat} {w : zW} (hB : z_isL B) (hi : i < 6) (hj : j < 5) : CT mX1_mark d [.ref B, .int (nI i), .int (nI j)] w (z_i fun x w' => w (B + 2) (i * 5 + j) = x ∧ w = w') := by
  refine CT.of [some (.ref B), some (.int (nI i)), some (.int (nI j))] rfl (Nat.le_of_ble_eq_true rfl) rfl ?_
  refine r_aload_n 1 dX1_mark_0 rfl rfl ?_
  refine r_getr 4 dX1_mark_1 fz_X1_23 (z_L0 hB) rfl rfl ?_
  refine r_iload_n 5 dX1_mark_4 rfl rfl ?_
  refine r_iconst 6 (v := 5) dX1_mark_5 (by decide) rfl ?_
  refine r_imul 7 dX1_mark_6 rfl ?_
  refine r_iload_n 8 dX1_mark_7 rfl rfl ?_
  refine r_iadd 9 dX1_mark_8 rfl ?_
  refine rj_iald 10 (i * 5 + j) dX1_mark_9 (z_L2 hB) (by rw [← nI_add, ← nI_mul]; rfl) (by omega) (by decide) rfl ?_
  exact r_iret .int dX1_mark_10 rfl (rfl) (⟨rfl, rfl⟩)
set_option maxRecDepth 20000 in
set_option maxHeartbeats 4000000 in
theorem c_setMark {d B i j : Nat} {w : zW} {v : Int32} (hB : z_isL B) (hi : i < 6) (hj : j < 5) : CT mX1_setMark d [.ref B, .int (nI i), .int (nI j), .int v] w (z_v fun w' => z_up w (B + 2) (i * 5 + j) v = w') := by
  refine CT.of [some (.ref B), some (.int (nI i)), some (.int (nI j)), some (.int v)] rfl (Nat.le_of_ble_eq_true rfl) rfl ?_
  refine r_aload_n 1 dX1_setMark_0 rfl rfl ?_
  refine r_getr 4 dX1_setMark_1 fz_X1_23 (z_L0 hB) rfl rfl ?_
  refine r_iload_n 5 dX1_setMark_4 rfl rfl ?_
  refine r_iconst 6 (v := 5) dX1_setMark_5 (by decide) rfl ?_
  refine r_imul 7 dX1_setMark_6 rfl ?_
  refine r_iload_n 8 dX1_setMark_7 rfl rfl ?_
  refine r_iadd 9 dX1_setMark_8 rfl ?_
  refine r_iload_n 10 dX1_setMark_9 rfl rfl ?_
  refine rj_iast 11 (i * 5 + j) dX1_setMark_10 (z_L2 hB) (by rw [← nI_add, ← nI_mul]; rfl) (by omega) (by decide) rfl ?_
  exact r_vret dX1_setMark_11 rfl (rfl)
set_option maxRecDepth 20000 in
set_option maxHeartbeats 4000000 in
theorem m_in {d : Nat} {w : zW} (v a b : Int64) : CT mX7_in d [.long v, .long a, .long b] w (z_i fun x w' => z_b (a.toInt ≤ v.toInt ∧ v.toInt ≤ b.toInt) = x ∧ w = w') := by
  refine CT.of [some (.long v), none, some (.long a), none, some (.long b), none] rfl (Nat.le_of_ble_eq_true rfl) rfl ?_
  refine r_lload_n 1 dX7_in_0 rfl rfl ?_
  refine r_lload_n 2 dX7_in_1 rfl rfl ?_
  refine r_lcmp 3 dX7_in_2 rfl ?_
  refine r_if_lt 17 6 dX7_in_3 (by decide) rfl (fun h3 => ?_) (fun h3 => ?_)
  · refine r_iconst 18 (v := 0) dX7_in_17 (by decide) rfl ?_
    exact r_iret .boolean dX7_in_18 rfl (rfl) (⟨by simp only [cmp_lt, cmp_gt] at *; first | exact z_bp (by omega) | exact z_bn (by omega), rfl⟩)
  · refine r_lload_n 7 dX7_in_6 rfl rfl ?_
    refine r_lload 9 dX7_in_7 rfl rfl ?_
    refine r_lcmp 10 dX7_in_9 rfl ?_
    refine r_if_gt 17 13 dX7_in_10 (by decide) rfl (fun h10 => ?_) (fun h10 => ?_)
    · refine r_iconst 18 (v := 0) dX7_in_17 (by decide) rfl ?_
      exact r_iret .boolean dX7_in_18 rfl (rfl) (⟨by simp only [cmp_lt, cmp_gt] at *; first | exact z_bp (by omega) | exact z_bn (by omega), rfl⟩)
    · refine r_iconst 14 (v := 1) dX7_in_13 (by decide) rfl ?_
      refine r_goto 18 dX7_in_14 (by decide) ?_
      exact r_iret .boolean dX7_in_18 rfl (rfl) (⟨by simp only [cmp_lt, cmp_gt] at *; first | exact z_bp (by omega) | exact z_bn (by omega), rfl⟩)
set_option maxRecDepth 20000 in
set_option maxHeartbeats 4000000 in
theorem m_flag {d : Nat} {w : zW} (p : Prop) [Decidable p] : CT mX7_flag d [.int (z_b p)] w (z_i fun x w' => z_b p = x ∧ w = w') := by
  refine CT.of [some (.int (z_b p))] rfl (Nat.le_of_ble_eq_true rfl) rfl ?_
  refine r_iload_n 1 dX7_flag_0 rfl rfl ?_
  refine rb_eq 8 4 dX7_flag_1 (by decide) rfl (fun h1 => ?_) (fun h1 => ?_)
  · refine r_iconst 9 (v := 0) dX7_flag_8 (by decide) rfl ?_
    exact r_iret .int dX7_flag_9 rfl (rfl) (⟨by first | exact z_bp ‹_› | exact z_bn ‹_›, rfl⟩)
  · refine r_iconst 5 (v := 1) dX7_flag_4 (by decide) rfl ?_
    refine r_goto 9 dX7_flag_5 (by decide) ?_
    exact r_iret .int dX7_flag_9 rfl (rfl) (⟨by first | exact z_bp ‹_› | exact z_bn ‹_›, rfl⟩)
set_option maxRecDepth 20000 in
set_option maxHeartbeats 4000000 in
theorem m_of {d i j : Nat} {w : zW} (hi : i < 6) (hj : j < 6) : CT mX7_of d [.ref 50, .int (nI i), .int (nI j)] w (z_i fun x w' => w 52 (6 + 6 * i + j) = x ∧ w = w') := by
  refine CT.of [some (.ref 50), some (.int (nI i)), some (.int (nI j))] rfl (Nat.le_of_ble_eq_true rfl) rfl ?_
  refine r_aload_n 1 dX7_of_0 rfl rfl ?_
  refine r_getr 4 dX7_of_1 fz_X7_13 sh_50 rfl rfl ?_
  refine r_bipush 6 (v := 6) dX7_of_4 (by decide) rfl ?_
  refine r_bipush 8 (v := 6) dX7_of_6 (by decide) rfl ?_
  refine r_iload_n 9 dX7_of_8 rfl rfl ?_
  refine r_imul 10 dX7_of_9 rfl ?_
  refine r_iadd 11 dX7_of_10 rfl ?_
  refine r_iload_n 12 dX7_of_11 rfl rfl ?_
  refine r_iadd 13 dX7_of_12 rfl ?_
  refine rj_iald 14 (6 + 6 * i + j) dX7_of_13 sh_52 (by rw [← nI_add, ← nI_add, ← nI_mul]; rfl) (by omega) (by decide) rfl ?_
  exact r_iret .int dX7_of_14 rfl (rfl) (⟨rfl, rfl⟩)
set_option maxRecDepth 20000 in
set_option maxHeartbeats 4000000 in
theorem m_becomesOf {d i j : Nat} {w : zW} {v : Int32} (hi : i < 6) (hj : j < 6) : CT mX7_becomesOf d [.ref 50, .int (nI i), .int (nI j), .int v] w (z_v fun w' => z_up w 52 (6 + 6 * i + j) v = w') := by
  refine CT.of [some (.ref 50), some (.int (nI i)), some (.int (nI j)), some (.int v)] rfl (Nat.le_of_ble_eq_true rfl) rfl ?_
  refine r_aload_n 1 dX7_becomesOf_0 rfl rfl ?_
  refine r_getr 4 dX7_becomesOf_1 fz_X7_13 sh_50 rfl rfl ?_
  refine r_bipush 6 (v := 6) dX7_becomesOf_4 (by decide) rfl ?_
  refine r_bipush 8 (v := 6) dX7_becomesOf_6 (by decide) rfl ?_
  refine r_iload_n 9 dX7_becomesOf_8 rfl rfl ?_
  refine r_imul 10 dX7_becomesOf_9 rfl ?_
  refine r_iadd 11 dX7_becomesOf_10 rfl ?_
  refine r_iload_n 12 dX7_becomesOf_11 rfl rfl ?_
  refine r_iadd 13 dX7_becomesOf_12 rfl ?_
  refine r_iload_n 14 dX7_becomesOf_13 rfl rfl ?_
  refine rj_iast 15 (6 + 6 * i + j) dX7_becomesOf_14 sh_52 (by rw [← nI_add, ← nI_add, ← nI_mul]; rfl) (by omega) (by decide) rfl ?_
  exact r_vret dX7_becomesOf_15 rfl (rfl)
set_option maxRecDepth 20000 in
set_option maxHeartbeats 4000000 in
theorem m_becomes {d i : Nat} {w : zW} {v : Int32} (hi : i < 165) : CT mX7_becomes d [.ref 50, .int (nI i), .int v] w (z_i fun x w' => w 51 i = x ∧ z_up w 51 i v = w') := by
  refine CT.of [some (.ref 50), some (.int (nI i)), some (.int v), none] rfl (Nat.le_of_ble_eq_true rfl) rfl ?_
  refine r_aload_n 1 dX7_becomes_0 rfl rfl ?_
  refine r_getr 4 dX7_becomes_1 fz_X7_7 sh_50 rfl rfl ?_
  refine r_iload_n 5 dX7_becomes_4 rfl rfl ?_
  refine rj_iald 6 (i) dX7_becomes_5 sh_51 (rfl) (hi) (by decide) rfl ?_
  refine r_istore_n 7 (L' := [_, _, _, _]) dX7_becomes_6 (by decide) rfl rfl rfl ?_
  refine r_aload_n 8 dX7_becomes_7 rfl rfl ?_
  refine r_getr 11 dX7_becomes_8 fz_X7_7 sh_50 rfl rfl ?_
  refine r_iload_n 12 dX7_becomes_11 rfl rfl ?_
  refine r_iload_n 13 dX7_becomes_12 rfl rfl ?_
  refine rj_iast 14 (i) dX7_becomes_13 sh_51 (rfl) (hi) (by decide) rfl ?_
  refine r_iload_n 15 dX7_becomes_14 rfl rfl ?_
  exact r_iret .int dX7_becomes_15 rfl (rfl) (⟨rfl, rfl⟩)
end
section
/-! ===== the class: Lock ===== -/
/-- the lock at B has n boats and the numbers K (the law aside) -/
def lkD (w : zW) (B n : Nat) (K : Nat → Nat) : Prop := (∀ k, k < 6 → k ≠ 3 → w (B + 1) k = nI (K k)) ∧ (∀ b q, b < n → q < 5 → w (B + 2) (b * 5 + q) = nI (K (6 + 6 * b + q))) ∧ w B 2 = nI n
theorem lkD.congr {w w' : zW} {B n : Nat} {K : Nat → Nat} (h : lkD w B n K) (h0 : w' B 2 = w B 2) (h1 : w' (B + 1) = w (B + 1)) (h2 : w' (B + 2) = w (B + 2)) : lkD w' B n K :=
  ⟨fun k hk hk3 => by rw [h1]; exact h.1 k hk hk3, fun b q hb hq => by rw [h2]; exact h.2.1 b q hb hq, by rw [h0]; exact h.2.2⟩
theorem z_isL.lt {B : Nat} (h : z_isL B) : B < 22 := by rcases h with rfl | rfl | rfl | rfl | rfl <;> decide
theorem z_isL.pos {B : Nat} (h : z_isL B) : 1 ≤ B := by rcases h with rfl | rfl | rfl | rfl | rfl <;> decide
set_option maxRecDepth 20000 in
set_option maxHeartbeats 4000000 in
theorem c_countsFrom {d B n b A : Nat} {w : zW} {K : Nat → Nat} (hd : 2 ≤ d) (hB : z_isL B) (hA : A < 1000) (hV : kV A n K) (hL : lkD w B n K) (hb : b < n) : CT mX1_countsFrom d [.ref B, .int (nI b)] w (z_i fun x w' => nI (k_ct K b) = x ∧ w = w') := by
  obtain ⟨v1, v2, v3, v4, v5, v6, v7, v8⟩ := id hV
  obtain ⟨u1, u2, u3, u4, u5, u6⟩ := v8 b hb
  refine CT.of [some (.ref B), some (.int (nI b)), none] rfl (Nat.le_of_ble_eq_true rfl) rfl ?_
  refine r_aload_n 1 dX1_countsFrom_0 rfl rfl ?_
  refine r_getr 4 dX1_countsFrom_1 fz_X1_18 (z_L0 hB) rfl rfl ?_
  refine r_iconst 5 (v := 4) dX1_countsFrom_4 (by decide) rfl ?_
  refine rj_iald 6 (4) dX1_countsFrom_5 (z_L1 hB) (rfl) (by decide) (by decide) rfl ?_
  refine r_eq (hL.1 4 (by decide) (by decide)) ?_
  refine r_istore_n 7 (L' := [_, _, _]) dX1_countsFrom_6 (by decide) rfl rfl rfl ?_
  refine r_aload_n 8 dX1_countsFrom_7 rfl rfl ?_
  refine r_getr 11 dX1_countsFrom_8 fz_X1_18 (z_L0 hB) rfl rfl ?_
  refine r_iconst 12 (v := 5) dX1_countsFrom_11 (by decide) rfl ?_
  refine rj_iald 13 (5) dX1_countsFrom_12 (z_L1 hB) (rfl) (by decide) (by decide) rfl ?_
  refine r_eq (hL.1 5 (by decide) (by decide)) ?_
  refine r_iconst 14 (v := 1) dX1_countsFrom_13 (by decide) rfl ?_
  refine r_icmp_ne 28 17 dX1_countsFrom_14 (by decide) rfl (fun h14 => ?_) (fun h14 => ?_)
  · have h14 : ¬ K 5 = 1 := fun z => h14 (by rw [z]; rfl)
    refine r_iconst 29 (v := 0) dX1_countsFrom_28 (by decide) rfl ?_
    refine r_aload_n 30 dX1_countsFrom_29 rfl rfl ?_
    refine r_iload_n 31 dX1_countsFrom_30 rfl rfl ?_
    refine r_iconst 32 (v := 2) dX1_countsFrom_31 (by decide) rfl ?_
    refine r_callV (y2 := mX1_mark) (as := [_, _]) 35 dX1_countsFrom_32 ml_X1_48 mv_X1_mark (c_mark (d := d - 1) hB (i := b) (j := 2) (by omega) (by decide)) (by omega) (z_L0 hB) ⟨_, rfl, rfl⟩ rfl (Nat.le_of_ble_eq_true rfl) rfl (kk_i ?_)
    rintro _ _ ⟨rfl, rfl⟩
    refine r_eq (hL.2.1 b 2 hb (by decide)) ?_
    refine r_iload_n 36 dX1_countsFrom_35 rfl rfl ?_
    refine r_isub 37 dX1_countsFrom_36 rfl ?_
    refine r_mmax 40 dX1_countsFrom_37 ml_X1_52 (by omega) (Nat.le_of_ble_eq_true rfl) rfl ?_
    refine r_eq (n0_max (by omega) (by omega)) ?_
    exact r_iret .int dX1_countsFrom_40 rfl (rfl) (⟨by rw [k_ct]; first | (rw [if_neg (fun z => h14 z.1)]; done) | (congr 1; split <;> omega), rfl⟩)
  · have h14 : K 5 = 1 := by
      have : nI (K 5) = nI 1 := h14
      exact (nI_inj (by omega) (by decide)).mp this
    refine r_iload_n 18 dX1_countsFrom_17 rfl rfl ?_
    refine r_aload_n 19 dX1_countsFrom_18 rfl rfl ?_
    refine r_iload_n 20 dX1_countsFrom_19 rfl rfl ?_
    refine r_iconst 21 (v := 4) dX1_countsFrom_20 (by decide) rfl ?_
    refine r_callV (y2 := mX1_mark) (as := [_, _]) 24 dX1_countsFrom_21 ml_X1_48 mv_X1_mark (c_mark (d := d - 1) hB (i := b) (j := 4) (by omega) (by decide)) (by omega) (z_L0 hB) ⟨_, rfl, rfl⟩ rfl (Nat.le_of_ble_eq_true rfl) rfl (kk_i ?_)
    rintro _ _ ⟨rfl, rfl⟩
    refine r_eq (hL.2.1 b 4 hb (by decide)) ?_
    refine r_mmax 27 dX1_countsFrom_24 ml_X1_52 (by omega) (Nat.le_of_ble_eq_true rfl) rfl ?_
    refine r_eq (n_max (by omega) (by omega)) ?_
    refine r_istore_n 28 (L' := [_, _, _]) dX1_countsFrom_27 (by decide) rfl rfl rfl ?_
    refine r_iconst 29 (v := 0) dX1_countsFrom_28 (by decide) rfl ?_
    refine r_aload_n 30 dX1_countsFrom_29 rfl rfl ?_
    refine r_iload_n 31 dX1_countsFrom_30 rfl rfl ?_
    refine r_iconst 32 (v := 2) dX1_countsFrom_31 (by decide) rfl ?_
    refine r_callV (y2 := mX1_mark) (as := [_, _]) 35 dX1_countsFrom_32 ml_X1_48 mv_X1_mark (c_mark (d := d - 1) hB (i := b) (j := 2) (by omega) (by decide)) (by omega) (z_L0 hB) ⟨_, rfl, rfl⟩ rfl (Nat.le_of_ble_eq_true rfl) rfl (kk_i ?_)
    rintro _ _ ⟨rfl, rfl⟩
    refine r_eq (hL.2.1 b 2 hb (by decide)) ?_
    refine r_iload_n 36 dX1_countsFrom_35 rfl rfl ?_
    refine r_isub 37 dX1_countsFrom_36 rfl ?_
    refine r_mmax 40 dX1_countsFrom_37 ml_X1_52 (by omega) (Nat.le_of_ble_eq_true rfl) rfl ?_
    refine r_eq (n0_max (by omega) (by omega)) ?_
    exact r_iret .int dX1_countsFrom_40 rfl (rfl) (⟨by rw [k_ct]; first | (rw [if_neg (fun z => h14 z.1)]; done) | (congr 1; split <;> omega), rfl⟩)
end
