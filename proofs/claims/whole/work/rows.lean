section
-- ===== PART A: goes FIRST, ahead of the names: the tables' words, and 'selects' of the private methods out of them =====
/-- a private method of a class that the tables say can be made, by its rows of tables_1 -/
def lw_okq (q : MethodName × Nat) : Prop := (q.1.cls ≠ "java/lang/invoke/MethodHandle" ∧ q.1.cls ≠ "java/lang/invoke/VarHandle") ∧ Cond.instantiable q.1.cls q.2 ∈ tables_1 ∧ Cond.privateMethod q.1 ∈ tables_1 ∧ Cond.instanceMethod q.1 ∈ tables_1
theorem lw_p0 : lw_okq (⟨"GuestHouse", "settle", "(II)V"⟩, 7) := ⟨⟨by decide +kernel, by decide +kernel⟩, List.mem_of_getElem? (i := 11) (by decide +kernel), List.mem_of_getElem? (i := 91) (by decide +kernel), List.mem_of_getElem? (i := 92) (by decide +kernel)⟩
theorem lw_p1 : lw_okq (⟨"GuestHouse", "leastFree", "()I"⟩, 7) := ⟨⟨by decide +kernel, by decide +kernel⟩, List.mem_of_getElem? (i := 11) (by decide +kernel), List.mem_of_getElem? (i := 132) (by decide +kernel), List.mem_of_getElem? (i := 133) (by decide +kernel)⟩
theorem lw_p2 : lw_okq (⟨"GuestHouse", "find", "(I)LGuestHouse$Guest;"⟩, 7) := ⟨⟨by decide +kernel, by decide +kernel⟩, List.mem_of_getElem? (i := 11) (by decide +kernel), List.mem_of_getElem? (i := 136) (by decide +kernel), List.mem_of_getElem? (i := 137) (by decide +kernel)⟩
theorem lw_p3 : lw_okq (⟨"GuestHouse", "room", "(I)LGuestHouse$Guest;"⟩, 7) := ⟨⟨by decide +kernel, by decide +kernel⟩, List.mem_of_getElem? (i := 11) (by decide +kernel), List.mem_of_getElem? (i := 140) (by decide +kernel), List.mem_of_getElem? (i := 141) (by decide +kernel)⟩
theorem lw_p4 : lw_okq (⟨"GuestHouse$Host", "bring", "(I)I"⟩, 13) := ⟨⟨by decide +kernel, by decide +kernel⟩, List.mem_of_getElem? (i := 19) (by decide +kernel), List.mem_of_getElem? (i := 252) (by decide +kernel), List.mem_of_getElem? (i := 253) (by decide +kernel)⟩
theorem lw_p5 : lw_okq (⟨"GuestHouse$Host", "isSheet", "(I)Z"⟩, 13) := ⟨⟨by decide +kernel, by decide +kernel⟩, List.mem_of_getElem? (i := 19) (by decide +kernel), List.mem_of_getElem? (i := 256) (by decide +kernel), List.mem_of_getElem? (i := 257) (by decide +kernel)⟩
theorem lw_p6 : lw_okq (⟨"GuestHouse$Host", "takeFrame", "(I)I"⟩, 13) := ⟨⟨by decide +kernel, by decide +kernel⟩, List.mem_of_getElem? (i := 19) (by decide +kernel), List.mem_of_getElem? (i := 260) (by decide +kernel), List.mem_of_getElem? (i := 261) (by decide +kernel)⟩
theorem lw_p7 : lw_okq (⟨"GuestHouse$Host", "makeOwn", "(LGuestHouse$Guest;II)I"⟩, 13) := ⟨⟨by decide +kernel, by decide +kernel⟩, List.mem_of_getElem? (i := 19) (by decide +kernel), List.mem_of_getElem? (i := 281) (by decide +kernel), List.mem_of_getElem? (i := 282) (by decide +kernel)⟩
theorem lw_p8 : lw_okq (⟨"GuestHouse$Host", "takeSheet", "()I"⟩, 13) := ⟨⟨by decide +kernel, by decide +kernel⟩, List.mem_of_getElem? (i := 19) (by decide +kernel), List.mem_of_getElem? (i := 285) (by decide +kernel), List.mem_of_getElem? (i := 286) (by decide +kernel)⟩
theorem lw_p9 : lw_okq (⟨"GuestHouse$Host", "freeSheet", "(I)V"⟩, 13) := ⟨⟨by decide +kernel, by decide +kernel⟩, List.mem_of_getElem? (i := 19) (by decide +kernel), List.mem_of_getElem? (i := 336) (by decide +kernel), List.mem_of_getElem? (i := 337) (by decide +kernel)⟩
theorem lw_p10 : lw_okq (⟨"GuestHouse", "nextTurn", "()LGuestHouse$Guest;"⟩, 7) := ⟨⟨by decide +kernel, by decide +kernel⟩, List.mem_of_getElem? (i := 11) (by decide +kernel), List.mem_of_getElem? (i := 344) (by decide +kernel), List.mem_of_getElem? (i := 345) (by decide +kernel)⟩
theorem lw_p11 : lw_okq (⟨"GuestHouse$Processor", "locate", "(LGuestHouse$Guest;II)I"⟩, 5) := ⟨⟨by decide +kernel, by decide +kernel⟩, List.mem_of_getElem? (i := 67) (by decide +kernel), List.mem_of_getElem? (i := 359) (by decide +kernel), List.mem_of_getElem? (i := 360) (by decide +kernel)⟩
theorem lw_p12 : lw_okq (⟨"GuestHouse$Processor", "refuse", "(II)I"⟩, 5) := ⟨⟨by decide +kernel, by decide +kernel⟩, List.mem_of_getElem? (i := 67) (by decide +kernel), List.mem_of_getElem? (i := 364) (by decide +kernel), List.mem_of_getElem? (i := 365) (by decide +kernel)⟩
theorem lw_p13 : lw_okq (⟨"GuestHouse$Processor", "useMemory", "(LGuestHouse$Guest;I)V"⟩, 5) := ⟨⟨by decide +kernel, by decide +kernel⟩, List.mem_of_getElem? (i := 67) (by decide +kernel), List.mem_of_getElem? (i := 388) (by decide +kernel), List.mem_of_getElem? (i := 389) (by decide +kernel)⟩
theorem lw_p14 : lw_okq (⟨"GuestHouse$Processor", "jump", "(LGuestHouse$Guest;I)V"⟩, 5) := ⟨⟨by decide +kernel, by decide +kernel⟩, List.mem_of_getElem? (i := 67) (by decide +kernel), List.mem_of_getElem? (i := 392) (by decide +kernel), List.mem_of_getElem? (i := 393) (by decide +kernel)⟩
theorem lw_p15 : lw_okq (⟨"GuestHouse$Processor", "callOrTime", "(LGuestHouse$Guest;I)V"⟩, 5) := ⟨⟨by decide +kernel, by decide +kernel⟩, List.mem_of_getElem? (i := 67) (by decide +kernel), List.mem_of_getElem? (i := 396) (by decide +kernel), List.mem_of_getElem? (i := 397) (by decide +kernel)⟩
def lw_privs_1 : List (MethodName × Nat) := [(⟨"GuestHouse", "settle", "(II)V"⟩, 7), (⟨"GuestHouse", "leastFree", "()I"⟩, 7), (⟨"GuestHouse", "find", "(I)LGuestHouse$Guest;"⟩, 7), (⟨"GuestHouse", "room", "(I)LGuestHouse$Guest;"⟩, 7), (⟨"GuestHouse$Host", "bring", "(I)I"⟩, 13), (⟨"GuestHouse$Host", "isSheet", "(I)Z"⟩, 13), (⟨"GuestHouse$Host", "takeFrame", "(I)I"⟩, 13), (⟨"GuestHouse$Host", "makeOwn", "(LGuestHouse$Guest;II)I"⟩, 13), (⟨"GuestHouse$Host", "takeSheet", "()I"⟩, 13), (⟨"GuestHouse$Host", "freeSheet", "(I)V"⟩, 13), (⟨"GuestHouse", "nextTurn", "()LGuestHouse$Guest;"⟩, 7), (⟨"GuestHouse$Processor", "locate", "(LGuestHouse$Guest;II)I"⟩, 5), (⟨"GuestHouse$Processor", "refuse", "(II)I"⟩, 5), (⟨"GuestHouse$Processor", "useMemory", "(LGuestHouse$Guest;I)V"⟩, 5), (⟨"GuestHouse$Processor", "jump", "(LGuestHouse$Guest;I)V"⟩, 5), (⟨"GuestHouse$Processor", "callOrTime", "(LGuestHouse$Guest;I)V"⟩, 5)]
theorem lw_r1 : ∀ q ∈ lw_privs_1, lw_okq q := List.forall_mem_cons.mpr ⟨lw_p0, List.forall_mem_cons.mpr ⟨lw_p1, List.forall_mem_cons.mpr ⟨lw_p2, List.forall_mem_cons.mpr ⟨lw_p3, List.forall_mem_cons.mpr ⟨lw_p4, List.forall_mem_cons.mpr ⟨lw_p5, List.forall_mem_cons.mpr ⟨lw_p6, List.forall_mem_cons.mpr ⟨lw_p7, List.forall_mem_cons.mpr ⟨lw_p8, List.forall_mem_cons.mpr ⟨lw_p9, List.forall_mem_cons.mpr ⟨lw_p10, List.forall_mem_cons.mpr ⟨lw_p11, List.forall_mem_cons.mpr ⟨lw_p12, List.forall_mem_cons.mpr ⟨lw_p13, List.forall_mem_cons.mpr ⟨lw_p14, List.forall_mem_cons.mpr ⟨lw_p15, fun _ h => absurd h List.not_mem_nil⟩⟩⟩⟩⟩⟩⟩⟩⟩⟩⟩⟩⟩⟩⟩⟩
theorem lw_p16 : lw_okq (⟨"GuestHouse$Processor", "supervise", "(LGuestHouse$Guest;I)V"⟩, 5) := ⟨⟨by decide +kernel, by decide +kernel⟩, List.mem_of_getElem? (i := 67) (by decide +kernel), List.mem_of_getElem? (i := 400) (by decide +kernel), List.mem_of_getElem? (i := 401) (by decide +kernel)⟩
theorem lw_p17 : lw_okq (⟨"GuestHouse$Processor", "readControl", "(LGuestHouse$Guest;I)V"⟩, 5) := ⟨⟨by decide +kernel, by decide +kernel⟩, List.mem_of_getElem? (i := 67) (by decide +kernel), List.mem_of_getElem? (i := 404) (by decide +kernel), List.mem_of_getElem? (i := 405) (by decide +kernel)⟩
theorem lw_p18 : lw_okq (⟨"GuestHouse$Processor", "writeControl", "(LGuestHouse$Guest;I)V"⟩, 5) := ⟨⟨by decide +kernel, by decide +kernel⟩, List.mem_of_getElem? (i := 67) (by decide +kernel), List.mem_of_getElem? (i := 408) (by decide +kernel), List.mem_of_getElem? (i := 409) (by decide +kernel)⟩
theorem lw_p19 : lw_okq (⟨"GuestHouse$Processor", "waitForLine", "(LGuestHouse$Guest;)V"⟩, 5) := ⟨⟨by decide +kernel, by decide +kernel⟩, List.mem_of_getElem? (i := 67) (by decide +kernel), List.mem_of_getElem? (i := 417) (by decide +kernel), List.mem_of_getElem? (i := 418) (by decide +kernel)⟩
theorem lw_p20 : lw_okq (⟨"GuestHouse$Processor", "giveOut", "(LGuestHouse$Guest;II)V"⟩, 5) := ⟨⟨by decide +kernel, by decide +kernel⟩, List.mem_of_getElem? (i := 67) (by decide +kernel), List.mem_of_getElem? (i := 428) (by decide +kernel), List.mem_of_getElem? (i := 429) (by decide +kernel)⟩
theorem lw_p21 : lw_okq (⟨"GuestHouse", "countGuests", "()I"⟩, 7) := ⟨⟨by decide +kernel, by decide +kernel⟩, List.mem_of_getElem? (i := 11) (by decide +kernel), List.mem_of_getElem? (i := 490) (by decide +kernel), List.mem_of_getElem? (i := 491) (by decide +kernel)⟩
theorem lw_p22 : lw_okq (⟨"GuestHouse$Host", "countWrongUses", "([LGuestHouse$Guest;)I"⟩, 13) := ⟨⟨by decide +kernel, by decide +kernel⟩, List.mem_of_getElem? (i := 19) (by decide +kernel), List.mem_of_getElem? (i := 502) (by decide +kernel), List.mem_of_getElem? (i := 503) (by decide +kernel)⟩
theorem lw_p23 : lw_okq (⟨"GuestHouse$Host", "countWrongSheets", "()I"⟩, 13) := ⟨⟨by decide +kernel, by decide +kernel⟩, List.mem_of_getElem? (i := 19) (by decide +kernel), List.mem_of_getElem? (i := 506) (by decide +kernel), List.mem_of_getElem? (i := 507) (by decide +kernel)⟩
theorem lw_p24 : lw_okq (⟨"GuestHouse$Host", "countDifferent", "(II)I"⟩, 13) := ⟨⟨by decide +kernel, by decide +kernel⟩, List.mem_of_getElem? (i := 19) (by decide +kernel), List.mem_of_getElem? (i := 510) (by decide +kernel), List.mem_of_getElem? (i := 511) (by decide +kernel)⟩
theorem lw_p25 : lw_okq (⟨"GuestHouse$Host", "countWrongFrames", "()I"⟩, 13) := ⟨⟨by decide +kernel, by decide +kernel⟩, List.mem_of_getElem? (i := 19) (by decide +kernel), List.mem_of_getElem? (i := 514) (by decide +kernel), List.mem_of_getElem? (i := 515) (by decide +kernel)⟩
theorem lw_p26 : lw_okq (⟨"GuestHouse$Host", "countWrongFree", "()I"⟩, 13) := ⟨⟨by decide +kernel, by decide +kernel⟩, List.mem_of_getElem? (i := 19) (by decide +kernel), List.mem_of_getElem? (i := 518) (by decide +kernel), List.mem_of_getElem? (i := 519) (by decide +kernel)⟩
theorem lw_p27 : lw_okq (⟨"GuestHouseModel", "free", "()I"⟩, 5) := ⟨⟨by decide +kernel, by decide +kernel⟩, List.mem_of_getElem? (i := 530) (by decide +kernel), List.mem_of_getElem? (i := 642) (by decide +kernel), List.mem_of_getElem? (i := 643) (by decide +kernel)⟩
theorem lw_p28 : lw_okq (⟨"GuestHouseModel$Bare", "forget", "()V"⟩, 19) := ⟨⟨by decide +kernel, by decide +kernel⟩, List.mem_of_getElem? (i := 537) (by decide +kernel), List.mem_of_getElem? (i := 654) (by decide +kernel), List.mem_of_getElem? (i := 655) (by decide +kernel)⟩
theorem lw_p29 : lw_okq (⟨"GuestHouseModel", "of", "(I)LGuestHouseModel$Bare;"⟩, 5) := ⟨⟨by decide +kernel, by decide +kernel⟩, List.mem_of_getElem? (i := 530) (by decide +kernel), List.mem_of_getElem? (i := 662) (by decide +kernel), List.mem_of_getElem? (i := 663) (by decide +kernel)⟩
theorem lw_p30 : lw_okq (⟨"GuestHouseModel", "turn", "()Z"⟩, 5) := ⟨⟨by decide +kernel, by decide +kernel⟩, List.mem_of_getElem? (i := 530) (by decide +kernel), List.mem_of_getElem? (i := 707) (by decide +kernel), List.mem_of_getElem? (i := 708) (by decide +kernel)⟩
theorem lw_p31 : lw_okq (⟨"GuestHouseModel", "isRunning", "(I)Z"⟩, 5) := ⟨⟨by decide +kernel, by decide +kernel⟩, List.mem_of_getElem? (i := 530) (by decide +kernel), List.mem_of_getElem? (i := 711) (by decide +kernel), List.mem_of_getElem? (i := 712) (by decide +kernel)⟩
def lw_privs_2 : List (MethodName × Nat) := [(⟨"GuestHouse$Processor", "supervise", "(LGuestHouse$Guest;I)V"⟩, 5), (⟨"GuestHouse$Processor", "readControl", "(LGuestHouse$Guest;I)V"⟩, 5), (⟨"GuestHouse$Processor", "writeControl", "(LGuestHouse$Guest;I)V"⟩, 5), (⟨"GuestHouse$Processor", "waitForLine", "(LGuestHouse$Guest;)V"⟩, 5), (⟨"GuestHouse$Processor", "giveOut", "(LGuestHouse$Guest;II)V"⟩, 5), (⟨"GuestHouse", "countGuests", "()I"⟩, 7), (⟨"GuestHouse$Host", "countWrongUses", "([LGuestHouse$Guest;)I"⟩, 13), (⟨"GuestHouse$Host", "countWrongSheets", "()I"⟩, 13), (⟨"GuestHouse$Host", "countDifferent", "(II)I"⟩, 13), (⟨"GuestHouse$Host", "countWrongFrames", "()I"⟩, 13), (⟨"GuestHouse$Host", "countWrongFree", "()I"⟩, 13), (⟨"GuestHouseModel", "free", "()I"⟩, 5), (⟨"GuestHouseModel$Bare", "forget", "()V"⟩, 19), (⟨"GuestHouseModel", "of", "(I)LGuestHouseModel$Bare;"⟩, 5), (⟨"GuestHouseModel", "turn", "()Z"⟩, 5), (⟨"GuestHouseModel", "isRunning", "(I)Z"⟩, 5)]
theorem lw_r2 : ∀ q ∈ lw_privs_2, lw_okq q := List.forall_mem_cons.mpr ⟨lw_p16, List.forall_mem_cons.mpr ⟨lw_p17, List.forall_mem_cons.mpr ⟨lw_p18, List.forall_mem_cons.mpr ⟨lw_p19, List.forall_mem_cons.mpr ⟨lw_p20, List.forall_mem_cons.mpr ⟨lw_p21, List.forall_mem_cons.mpr ⟨lw_p22, List.forall_mem_cons.mpr ⟨lw_p23, List.forall_mem_cons.mpr ⟨lw_p24, List.forall_mem_cons.mpr ⟨lw_p25, List.forall_mem_cons.mpr ⟨lw_p26, List.forall_mem_cons.mpr ⟨lw_p27, List.forall_mem_cons.mpr ⟨lw_p28, List.forall_mem_cons.mpr ⟨lw_p29, List.forall_mem_cons.mpr ⟨lw_p30, List.forall_mem_cons.mpr ⟨lw_p31, fun _ h => absurd h List.not_mem_nil⟩⟩⟩⟩⟩⟩⟩⟩⟩⟩⟩⟩⟩⟩⟩⟩
theorem lw_p32 : lw_okq (⟨"GuestHouseModel$Bare", "hasStatus", "(I)Z"⟩, 19) := ⟨⟨by decide +kernel, by decide +kernel⟩, List.mem_of_getElem? (i := 537) (by decide +kernel), List.mem_of_getElem? (i := 719) (by decide +kernel), List.mem_of_getElem? (i := 720) (by decide +kernel)⟩
theorem lw_p33 : lw_okq (⟨"GuestHouseModel$Bare", "isTimeUp", "()Z"⟩, 19) := ⟨⟨by decide +kernel, by decide +kernel⟩, List.mem_of_getElem? (i := 537) (by decide +kernel), List.mem_of_getElem? (i := 723) (by decide +kernel), List.mem_of_getElem? (i := 724) (by decide +kernel)⟩
theorem lw_p34 : lw_okq (⟨"GuestHouseModel$Bare", "fail", "(II)V"⟩, 19) := ⟨⟨by decide +kernel, by decide +kernel⟩, List.mem_of_getElem? (i := 537) (by decide +kernel), List.mem_of_getElem? (i := 727) (by decide +kernel), List.mem_of_getElem? (i := 728) (by decide +kernel)⟩
theorem lw_p35 : lw_okq (⟨"GuestHouseModel$Bare", "reach", "(II)I"⟩, 19) := ⟨⟨by decide +kernel, by decide +kernel⟩, List.mem_of_getElem? (i := 537) (by decide +kernel), List.mem_of_getElem? (i := 731) (by decide +kernel), List.mem_of_getElem? (i := 732) (by decide +kernel)⟩
theorem lw_p36 : lw_okq (⟨"GuestHouseModel$Bare", "fill", "(III)V"⟩, 19) := ⟨⟨by decide +kernel, by decide +kernel⟩, List.mem_of_getElem? (i := 537) (by decide +kernel), List.mem_of_getElem? (i := 736) (by decide +kernel), List.mem_of_getElem? (i := 737) (by decide +kernel)⟩
theorem lw_p37 : lw_okq (⟨"GuestHouseModel$Bare", "tableWord", "(I)I"⟩, 19) := ⟨⟨by decide +kernel, by decide +kernel⟩, List.mem_of_getElem? (i := 537) (by decide +kernel), List.mem_of_getElem? (i := 740) (by decide +kernel), List.mem_of_getElem? (i := 741) (by decide +kernel)⟩
theorem lw_p38 : lw_okq (⟨"GuestHouseModel$Bare", "work", "(I)V"⟩, 19) := ⟨⟨by decide +kernel, by decide +kernel⟩, List.mem_of_getElem? (i := 537) (by decide +kernel), List.mem_of_getElem? (i := 744) (by decide +kernel), List.mem_of_getElem? (i := 745) (by decide +kernel)⟩
theorem lw_p39 : lw_okq (⟨"GuestHouseModel$Bare", "moved", "(IIII)V"⟩, 19) := ⟨⟨by decide +kernel, by decide +kernel⟩, List.mem_of_getElem? (i := 537) (by decide +kernel), List.mem_of_getElem? (i := 751) (by decide +kernel), List.mem_of_getElem? (i := 752) (by decide +kernel)⟩
theorem lw_p40 : lw_okq (⟨"GuestHouseModel$Bare", "own", "(IIII)V"⟩, 19) := ⟨⟨by decide +kernel, by decide +kernel⟩, List.mem_of_getElem? (i := 537) (by decide +kernel), List.mem_of_getElem? (i := 758) (by decide +kernel), List.mem_of_getElem? (i := 759) (by decide +kernel)⟩
theorem lw_p41 : lw_okq (⟨"GuestHouseModel$Bare", "taken", "()I"⟩, 19) := ⟨⟨by decide +kernel, by decide +kernel⟩, List.mem_of_getElem? (i := 537) (by decide +kernel), List.mem_of_getElem? (i := 762) (by decide +kernel), List.mem_of_getElem? (i := 763) (by decide +kernel)⟩
theorem lw_p42 : lw_okq (⟨"GuestHouseModel$Bare", "put", "(II)V"⟩, 19) := ⟨⟨by decide +kernel, by decide +kernel⟩, List.mem_of_getElem? (i := 537) (by decide +kernel), List.mem_of_getElem? (i := 766) (by decide +kernel), List.mem_of_getElem? (i := 767) (by decide +kernel)⟩
def lw_privs_3 : List (MethodName × Nat) := [(⟨"GuestHouseModel$Bare", "hasStatus", "(I)Z"⟩, 19), (⟨"GuestHouseModel$Bare", "isTimeUp", "()Z"⟩, 19), (⟨"GuestHouseModel$Bare", "fail", "(II)V"⟩, 19), (⟨"GuestHouseModel$Bare", "reach", "(II)I"⟩, 19), (⟨"GuestHouseModel$Bare", "fill", "(III)V"⟩, 19), (⟨"GuestHouseModel$Bare", "tableWord", "(I)I"⟩, 19), (⟨"GuestHouseModel$Bare", "work", "(I)V"⟩, 19), (⟨"GuestHouseModel$Bare", "moved", "(IIII)V"⟩, 19), (⟨"GuestHouseModel$Bare", "own", "(IIII)V"⟩, 19), (⟨"GuestHouseModel$Bare", "taken", "()I"⟩, 19), (⟨"GuestHouseModel$Bare", "put", "(II)V"⟩, 19)]
theorem lw_r3 : ∀ q ∈ lw_privs_3, lw_okq q := List.forall_mem_cons.mpr ⟨lw_p32, List.forall_mem_cons.mpr ⟨lw_p33, List.forall_mem_cons.mpr ⟨lw_p34, List.forall_mem_cons.mpr ⟨lw_p35, List.forall_mem_cons.mpr ⟨lw_p36, List.forall_mem_cons.mpr ⟨lw_p37, List.forall_mem_cons.mpr ⟨lw_p38, List.forall_mem_cons.mpr ⟨lw_p39, List.forall_mem_cons.mpr ⟨lw_p40, List.forall_mem_cons.mpr ⟨lw_p41, List.forall_mem_cons.mpr ⟨lw_p42, fun _ h => absurd h List.not_mem_nil⟩⟩⟩⟩⟩⟩⟩⟩⟩⟩⟩
def lw_privs : List (MethodName × Nat) := lw_privs_1 ++ (lw_privs_2 ++ (lw_privs_3))
def lw_tbl : List Cond := k2_sels lw_privs ++ tables_1
theorem lw_privs_ok : ∀ q ∈ lw_privs, lw_okq q := by
  show ∀ q ∈ lw_privs_1 ++ (lw_privs_2 ++ (lw_privs_3)), lw_okq q
  exact List.forall_mem_append.mpr ⟨lw_r1, List.forall_mem_append.mpr ⟨lw_r2, lw_r3⟩⟩
end
section
/-! ===== BEGIN words of one list among another's, by their places ===== -/
theorem goodIn_r {big : List Cond} (ws : List Cond) (ps : List Nat) (hp : ws = ps.filterMap (fun i => big[i]?)) (h : ws.all goodWord = true) : GoodIn big ws := by
  intro w hw
  have h1 := List.all_eq_true.mp h w hw
  rw [hp] at hw
  obtain ⟨i, -, hi⟩ := List.mem_filterMap.mp hw
  have hm : w ∈ big := by first | exact List.mem_of_getElem? hi | exact List.getElem?_mem hi
  exact ⟨hm, good_of_word h1⟩
theorem goodIn_app {big a b : List Cond} (ha : GoodIn big a) (hb : GoodIn big b) : GoodIn big (a ++ b) := fun w h => (List.mem_append.mp h).elim (ha w) (hb w)
theorem goodIn_ca {big a b : List Cond} {c : Cond} (ha : GoodIn big (c :: a)) (hb : GoodIn big b) : GoodIn big (c :: (a ++ b)) := fun w h => (List.mem_cons.mp h).elim (fun e => ha w (List.mem_cons.mpr (Or.inl e))) (fun h => (List.mem_append.mp h).elim (fun h => ha w (List.mem_cons.mpr (Or.inr h))) (hb w))
theorem goodIn_sub {big ws : List Cond} (hm : ∀ w ∈ ws, w ∈ big) (h : ws.all goodWord = true) : GoodIn big ws := fun w hw => ⟨hm w hw, good_of_word (List.all_eq_true.mp h w hw)⟩
/-! ===== END ===== -/

/-! ===== BEGIN printed: names, fields, word lists, decode rows ===== -/
def RX0 : String := "GuestHouse$Guest"
def TX0 : u_T := fun k => match k with
  | 0 => ("GuestHouse$Guest", "here", "Z", false)
  | 1 => ("GuestHouse$Guest", "phase", "I", false)
  | 2 => ("GuestHouse$Guest", "pc", "I", false)
  | 3 => ("GuestHouse$Guest", "mode", "I", false)
  | 4 => ("GuestHouse$Guest", "place", "I", false)
  | 5 => ("GuestHouse$Guest", "traps", "I", false)
  | 6 => ("GuestHouse$Guest", "frames", "I", false)
  | 7 => ("GuestHouse$Guest", "sheets", "[I", true)
  | 8 => ("GuestHouse$Guest", "sectors", "[I", true)
  | 9 => ("GuestHouse$Guest", "registers", "[I", true)
  | 10 => ("GuestHouse$Guest", "controls", "[I", true)
  | 11 => ("GuestHouse$Guest", "cache", "[I", true)
  | 12 => ("GuestHouse$Guest", "arrivals", "[I", true)
  | 13 => ("GuestHouse$Guest", "oldest", "I", false)
  | 14 => ("GuestHouse$Guest", "waiting", "I", false)
  | 15 => ("GuestHouse$Guest", "kept", "[I", true)
  | _ => ("GuestHouse$Guest", "putCount", "I", false)
def tyX0 : Nat → FieldType := fun k => match k with
  | 0 => .boolean
  | 1 => .int
  | 2 => .int
  | 3 => .int
  | 4 => .int
  | 5 => .int
  | 6 => .int
  | 7 => .array .int
  | 8 => .array .int
  | 9 => .array .int
  | 10 => .array .int
  | 11 => .array .int
  | 12 => .array .int
  | 13 => .int
  | 14 => .int
  | 15 => .array .int
  | _ => .int
abbrev wsX00 : List Cond := u_ws RX0 TX0 17
theorem nmX0 : ∀ a, a < 17 → ∀ b, b < 17 → a ≠ b → (TX0 a).2.1 ≠ (TX0 b).2.1 := by decide +kernel
theorem tyX0_ok : ∀ k, k < 17 → parseFieldDescriptor (TX0 k).2.2.1 = some (tyX0 k) := by decide +kernel
abbrev cX0_init : ByteArray := prog_2_method_1_code
def yX0_init : MethodName := ⟨RX0, "<init>", "()V"⟩
abbrev cX0_renew : ByteArray := prog_2_method_2_code
def yX0_renew : MethodName := ⟨RX0, "renew", "(I)V"⟩
abbrev cX0_reset : ByteArray := prog_2_method_3_code
def yX0_reset : MethodName := ⟨RX0, "reset", "()V"⟩
abbrev cX0_become : ByteArray := prog_2_method_4_code
def yX0_become : MethodName := ⟨RX0, "become", "(LGuestHouse$Guest;)V"⟩
abbrev cX0_hasWord : ByteArray := prog_2_method_5_code
def yX0_hasWord : MethodName := ⟨RX0, "hasWord", "(I)Z"⟩
abbrev cX0_emptyCache : ByteArray := prog_2_method_6_code
def yX0_emptyCache : MethodName := ⟨RX0, "emptyCache", "()V"⟩
abbrev cX0_arrive : ByteArray := prog_2_method_7_code
def yX0_arrive : MethodName := ⟨RX0, "arrive", "(I)Z"⟩
abbrev cX0_takeOldest : ByteArray := prog_2_method_8_code
def yX0_takeOldest : MethodName := ⟨RX0, "takeOldest", "()I"⟩
abbrev cX0_putOut : ByteArray := prog_2_method_9_code
def yX0_putOut : MethodName := ⟨RX0, "putOut", "(I)V"⟩
abbrev cX0_keptCount : ByteArray := prog_2_method_10_code
def yX0_keptCount : MethodName := ⟨RX0, "keptCount", "()I"⟩
abbrev cX0_timerIsUp : ByteArray := prog_2_method_11_code
def yX0_timerIsUp : MethodName := ⟨RX0, "timerIsUp", "()Z"⟩
abbrev cX0_enterTrap : ByteArray := prog_2_method_12_code
def yX0_enterTrap : MethodName := ⟨RX0, "enterTrap", "(II)V"⟩
abbrev cX0_leaveTrap : ByteArray := prog_2_method_13_code
def yX0_leaveTrap : MethodName := ⟨RX0, "leaveTrap", "()V"⟩
abbrev cX0_tell : ByteArray := prog_2_method_14_code
def yX0_tell : MethodName := ⟨RX0, "tell", "(I)I"⟩
abbrev cX0_countFaults : ByteArray := prog_2_method_15_code
def yX0_countFaults : MethodName := ⟨RX0, "countFaults", "()I"⟩
def RX1 : String := "GuestHouse$Host"
def TX1 : u_T := fun k => match k with
  | 0 => ("GuestHouse$Host", "frames", "I", false)
  | 1 => ("GuestHouse$Host", "opened", "I", false)
  | 2 => ("GuestHouse$Host", "hand", "I", false)
  | 3 => ("GuestHouse$Host", "freeCount", "I", false)
  | 4 => ("GuestHouse$Host", "memory", "[I", false)
  | 5 => ("GuestHouse$Host", "away", "[I", false)
  | 6 => ("GuestHouse$Host", "owner", "[I", true)
  | 7 => ("GuestHouse$Host", "recent", "[Z", true)
  | 8 => ("GuestHouse$Host", "uses", "[I", true)
  | 9 => ("GuestHouse$Host", "where", "[I", true)
  | 10 => ("GuestHouse$Host", "changed", "[Z", true)
  | 11 => ("GuestHouse$Host", "free", "[I", true)
  | _ => ("GuestHouse$Host", "seen", "[I", true)
def tyX1 : Nat → FieldType := fun k => match k with
  | 0 => .int
  | 1 => .int
  | 2 => .int
  | 3 => .int
  | 4 => .array .int
  | 5 => .array .int
  | 6 => .array .int
  | 7 => .array .boolean
  | 8 => .array .int
  | 9 => .array .int
  | 10 => .array .boolean
  | 11 => .array .int
  | _ => .array .int
abbrev wsX10 : List Cond := u_ws RX1 TX1 13
theorem nmX1 : ∀ a, a < 13 → ∀ b, b < 13 → a ≠ b → (TX1 a).2.1 ≠ (TX1 b).2.1 := by decide +kernel
theorem tyX1_ok : ∀ k, k < 13 → parseFieldDescriptor (TX1 k).2.2.1 = some (tyX1 k) := by decide +kernel
abbrev cX1_init : ByteArray := prog_3_method_1_code
def yX1_init : MethodName := ⟨RX1, "<init>", "()V"⟩
abbrev cX1_renew : ByteArray := prog_3_method_2_code
def yX1_renew : MethodName := ⟨RX1, "renew", "(I)V"⟩
abbrev cX1_lendBlank : ByteArray := prog_3_method_3_code
def yX1_lendBlank : MethodName := ⟨RX1, "lendBlank", "(LGuestHouse$Guest;)V"⟩
abbrev cX1_shareSheets : ByteArray := prog_3_method_4_code
def yX1_shareSheets : MethodName := ⟨RX1, "shareSheets", "(LGuestHouse$Guest;LGuestHouse$Guest;)V"⟩
abbrev cX1_release : ByteArray := prog_3_method_5_code
def yX1_release : MethodName := ⟨RX1, "release", "(LGuestHouse$Guest;)V"⟩
abbrev cX1_read : ByteArray := prog_3_method_6_code
def yX1_read : MethodName := ⟨RX1, "read", "(LGuestHouse$Guest;I)I"⟩
abbrev cX1_write : ByteArray := prog_3_method_7_code
def yX1_write : MethodName := ⟨RX1, "write", "(LGuestHouse$Guest;II)V"⟩
abbrev cX1_saveFrame : ByteArray := prog_3_method_8_code
def yX1_saveFrame : MethodName := ⟨RX1, "saveFrame", "(LGuestHouse$Guest;II)V"⟩
abbrev cX1_loadFrame : ByteArray := prog_3_method_9_code
def yX1_loadFrame : MethodName := ⟨RX1, "loadFrame", "(LGuestHouse$Guest;II)V"⟩
abbrev cX1_countFaults : ByteArray := prog_3_method_10_code
def yX1_countFaults : MethodName := ⟨RX1, "countFaults", "([LGuestHouse$Guest;)I"⟩
abbrev cX1_isSheet : ByteArray := prog_3_method_11_code
def yX1_isSheet : MethodName := ⟨RX1, "isSheet", "(I)Z"⟩
abbrev cX1_bring : ByteArray := prog_3_method_12_code
def yX1_bring : MethodName := ⟨RX1, "bring", "(I)I"⟩
abbrev cX1_makeOwn : ByteArray := prog_3_method_13_code
def yX1_makeOwn : MethodName := ⟨RX1, "makeOwn", "(LGuestHouse$Guest;II)I"⟩
abbrev cX1_takeFrame : ByteArray := prog_3_method_14_code
def yX1_takeFrame : MethodName := ⟨RX1, "takeFrame", "(I)I"⟩
abbrev cX1_takeSheet : ByteArray := prog_3_method_15_code
def yX1_takeSheet : MethodName := ⟨RX1, "takeSheet", "()I"⟩
abbrev cX1_freeSheet : ByteArray := prog_3_method_16_code
def yX1_freeSheet : MethodName := ⟨RX1, "freeSheet", "(I)V"⟩
abbrev cX1_countWrongUses : ByteArray := prog_3_method_17_code
def yX1_countWrongUses : MethodName := ⟨RX1, "countWrongUses", "([LGuestHouse$Guest;)I"⟩
abbrev cX1_countWrongSheets : ByteArray := prog_3_method_18_code
def yX1_countWrongSheets : MethodName := ⟨RX1, "countWrongSheets", "()I"⟩
abbrev cX1_countDifferent : ByteArray := prog_3_method_19_code
def yX1_countDifferent : MethodName := ⟨RX1, "countDifferent", "(II)I"⟩
abbrev cX1_countWrongFrames : ByteArray := prog_3_method_20_code
def yX1_countWrongFrames : MethodName := ⟨RX1, "countWrongFrames", "()I"⟩
abbrev cX1_countWrongFree : ByteArray := prog_3_method_21_code
def yX1_countWrongFree : MethodName := ⟨RX1, "countWrongFree", "()I"⟩
def RX2 : String := "GuestHouse$Processor"
def TX2 : u_T := fun k => match k with
  | 0 => ("GuestHouse$Processor", "host", "LGuestHouse$Host;", true)
  | 1 => ("GuestHouse$Processor", "trap", "I", false)
  | 2 => ("GuestHouse$Processor", "bad", "I", false)
  | 3 => ("GuestHouse$Processor", "next", "I", false)
  | _ => ("GuestHouse$Processor", "count", "I", false)
def tyX2 : Nat → FieldType := fun k => match k with
  | 0 => .object "GuestHouse$Host"
  | 1 => .int
  | 2 => .int
  | 3 => .int
  | _ => .int
abbrev wsX20 : List Cond := u_ws RX2 TX2 5
theorem nmX2 : ∀ a, a < 5 → ∀ b, b < 5 → a ≠ b → (TX2 a).2.1 ≠ (TX2 b).2.1 := by decide +kernel
theorem tyX2_ok : ∀ k, k < 5 → parseFieldDescriptor (TX2 k).2.2.1 = some (tyX2 k) := by decide +kernel
abbrev cX2_init : ByteArray := prog_4_method_1_code
def yX2_init : MethodName := ⟨RX2, "<init>", "(LGuestHouse$Host;)V"⟩
abbrev cX2_step : ByteArray := prog_4_method_2_code
def yX2_step : MethodName := ⟨RX2, "step", "(LGuestHouse$Guest;)V"⟩
abbrev cX2_valueA : ByteArray := prog_4_method_3_code
def yX2_valueA : MethodName := ⟨RX2, "valueA", "(LGuestHouse$Guest;I)I"⟩
abbrev cX2_valueB : ByteArray := prog_4_method_4_code
def yX2_valueB : MethodName := ⟨RX2, "valueB", "(LGuestHouse$Guest;I)I"⟩
abbrev cX2_number : ByteArray := prog_4_method_5_code
def yX2_number : MethodName := ⟨RX2, "number", "(I)I"⟩
abbrev cX2_setD : ByteArray := prog_4_method_6_code
def yX2_setD : MethodName := ⟨RX2, "setD", "(LGuestHouse$Guest;II)V"⟩
abbrev cX2_refuse : ByteArray := prog_4_method_7_code
def yX2_refuse : MethodName := ⟨RX2, "refuse", "(II)I"⟩
abbrev cX2_lineTrap : ByteArray := prog_4_method_8_code
def yX2_lineTrap : MethodName := ⟨RX2, "lineTrap", "(LGuestHouse$Guest;)I"⟩
abbrev cX2_locate : ByteArray := prog_4_method_9_code
def yX2_locate : MethodName := ⟨RX2, "locate", "(LGuestHouse$Guest;II)I"⟩
abbrev cX2_sum : ByteArray := prog_4_method_10_code
def yX2_sum : MethodName := ⟨RX2, "sum", "(LGuestHouse$Guest;I)I"⟩
abbrev cX2_useMemory : ByteArray := prog_4_method_11_code
def yX2_useMemory : MethodName := ⟨RX2, "useMemory", "(LGuestHouse$Guest;I)V"⟩
abbrev cX2_jump : ByteArray := prog_4_method_12_code
def yX2_jump : MethodName := ⟨RX2, "jump", "(LGuestHouse$Guest;I)V"⟩
abbrev cX2_callOrTime : ByteArray := prog_4_method_13_code
def yX2_callOrTime : MethodName := ⟨RX2, "callOrTime", "(LGuestHouse$Guest;I)V"⟩
abbrev cX2_supervise : ByteArray := prog_4_method_14_code
def yX2_supervise : MethodName := ⟨RX2, "supervise", "(LGuestHouse$Guest;I)V"⟩
abbrev cX2_readControl : ByteArray := prog_4_method_15_code
def yX2_readControl : MethodName := ⟨RX2, "readControl", "(LGuestHouse$Guest;I)V"⟩
abbrev cX2_writeControl : ByteArray := prog_4_method_16_code
def yX2_writeControl : MethodName := ⟨RX2, "writeControl", "(LGuestHouse$Guest;I)V"⟩
abbrev cX2_waitForLine : ByteArray := prog_4_method_17_code
def yX2_waitForLine : MethodName := ⟨RX2, "waitForLine", "(LGuestHouse$Guest;)V"⟩
abbrev cX2_takeIn : ByteArray := prog_4_method_18_code
def yX2_takeIn : MethodName := ⟨RX2, "takeIn", "(LGuestHouse$Guest;I)I"⟩
abbrev cX2_giveOut : ByteArray := prog_4_method_19_code
def yX2_giveOut : MethodName := ⟨RX2, "giveOut", "(LGuestHouse$Guest;II)V"⟩
def RX3 : String := "GuestHouse"
def TX3 : u_T := fun k => match k with
  | 0 => ("GuestHouse", "host", "LGuestHouse$Host;", true)
  | 1 => ("GuestHouse", "processor", "LGuestHouse$Processor;", true)
  | 2 => ("GuestHouse", "guests", "[LGuestHouse$Guest;", true)
  | 3 => ("GuestHouse", "slice", "I", false)
  | 4 => ("GuestHouse", "current", "I", false)
  | 5 => ("GuestHouse", "left", "I", false)
  | _ => ("GuestHouse", "steps", "I", false)
def tyX3 : Nat → FieldType := fun k => match k with
  | 0 => .object "GuestHouse$Host"
  | 1 => .object "GuestHouse$Processor"
  | 2 => .array (.object "GuestHouse$Guest")
  | 3 => .int
  | 4 => .int
  | 5 => .int
  | _ => .int
abbrev wsX30 : List Cond := u_ws RX3 TX3 7
theorem nmX3 : ∀ a, a < 7 → ∀ b, b < 7 → a ≠ b → (TX3 a).2.1 ≠ (TX3 b).2.1 := by decide +kernel
theorem tyX3_ok : ∀ k, k < 7 → parseFieldDescriptor (TX3 k).2.2.1 = some (tyX3 k) := by decide +kernel
abbrev cX3_init : ByteArray := prog_1_method_1_code
def yX3_init : MethodName := ⟨RX3, "<init>", "()V"⟩
abbrev cX3_install : ByteArray := prog_1_method_2_code
def yX3_install : MethodName := ⟨RX3, "install", "(II)I"⟩
abbrev cX3_guest : ByteArray := prog_1_method_3_code
def yX3_guest : MethodName := ⟨RX3, "guest", "(I)I"⟩
abbrev cX3_poke : ByteArray := prog_1_method_4_code
def yX3_poke : MethodName := ⟨RX3, "poke", "(III)I"⟩
abbrev cX3_pokeDisk : ByteArray := prog_1_method_5_code
def yX3_pokeDisk : MethodName := ⟨RX3, "pokeDisk", "(III)I"⟩
abbrev cX3_start : ByteArray := prog_1_method_6_code
def yX3_start : MethodName := ⟨RX3, "start", "(II)I"⟩
abbrev cX3_stop : ByteArray := prog_1_method_7_code
def yX3_stop : MethodName := ⟨RX3, "stop", "(I)I"⟩
abbrev cX3_input : ByteArray := prog_1_method_8_code
def yX3_input : MethodName := ⟨RX3, "input", "(II)I"⟩
abbrev cX3_copy : ByteArray := prog_1_method_9_code
def yX3_copy : MethodName := ⟨RX3, "copy", "(I)I"⟩
abbrev cX3_drop : ByteArray := prog_1_method_10_code
def yX3_drop : MethodName := ⟨RX3, "drop", "(I)I"⟩
abbrev cX3_run : ByteArray := prog_1_method_11_code
def yX3_run : MethodName := ⟨RX3, "run", "(I)I"⟩
abbrev cX3_only : ByteArray := prog_1_method_12_code
def yX3_only : MethodName := ⟨RX3, "only", "(II)I"⟩
abbrev cX3_state : ByteArray := prog_1_method_13_code
def yX3_state : MethodName := ⟨RX3, "state", "(I)I"⟩
abbrev cX3_told : ByteArray := prog_1_method_14_code
def yX3_told : MethodName := ⟨RX3, "told", "(II)I"⟩
abbrev cX3_peek : ByteArray := prog_1_method_15_code
def yX3_peek : MethodName := ⟨RX3, "peek", "(II)I"⟩
abbrev cX3_disk : ByteArray := prog_1_method_16_code
def yX3_disk : MethodName := ⟨RX3, "disk", "(II)I"⟩
abbrev cX3_out : ByteArray := prog_1_method_17_code
def yX3_out : MethodName := ⟨RX3, "out", "(II)I"⟩
abbrev cX3_cached : ByteArray := prog_1_method_18_code
def yX3_cached : MethodName := ⟨RX3, "cached", "(II)I"⟩
abbrev cX3_house : ByteArray := prog_1_method_19_code
def yX3_house : MethodName := ⟨RX3, "house", "(I)I"⟩
abbrev cX3_audit : ByteArray := prog_1_method_20_code
def yX3_audit : MethodName := ⟨RX3, "audit", "()I"⟩
abbrev cX3_settle : ByteArray := prog_1_method_21_code
def yX3_settle : MethodName := ⟨RX3, "settle", "(II)V"⟩
abbrev cX3_find : ByteArray := prog_1_method_22_code
def yX3_find : MethodName := ⟨RX3, "find", "(I)LGuestHouse$Guest;"⟩
abbrev cX3_leastFree : ByteArray := prog_1_method_23_code
def yX3_leastFree : MethodName := ⟨RX3, "leastFree", "()I"⟩
abbrev cX3_countGuests : ByteArray := prog_1_method_24_code
def yX3_countGuests : MethodName := ⟨RX3, "countGuests", "()I"⟩
abbrev cX3_room : ByteArray := prog_1_method_25_code
def yX3_room : MethodName := ⟨RX3, "room", "(I)LGuestHouse$Guest;"⟩
abbrev cX3_nextTurn : ByteArray := prog_1_method_26_code
def yX3_nextTurn : MethodName := ⟨RX3, "nextTurn", "()LGuestHouse$Guest;"⟩
def RX4 : String := "GuestHouseModel$Bare"
def TX4 : u_T := fun k => match k with
  | 0 => ("GuestHouseModel$Bare", "frames", "I", false)
  | 1 => ("GuestHouseModel$Bare", "isThere", "Z", false)
  | 2 => ("GuestHouseModel$Bare", "memory", "[I", true)
  | 3 => ("GuestHouseModel$Bare", "disk", "[I", true)
  | 4 => ("GuestHouseModel$Bare", "\x72", "[I", true)
  | 5 => ("GuestHouseModel$Bare", "control", "[I", true)
  | 6 => ("GuestHouseModel$Bare", "frameOf", "[I", true)
  | 7 => ("GuestHouseModel$Bare", "bits", "[I", true)
  | 8 => ("GuestHouseModel$Bare", "in", "[I", true)
  | 9 => ("GuestHouseModel$Bare", "out", "[I", true)
  | 10 => ("GuestHouseModel$Bare", "pc", "I", false)
  | 11 => ("GuestHouseModel$Bare", "mode", "I", false)
  | 12 => ("GuestHouseModel$Bare", "state", "I", false)
  | 13 => ("GuestHouseModel$Bare", "place", "I", false)
  | 14 => ("GuestHouseModel$Bare", "ins", "I", false)
  | 15 => ("GuestHouseModel$Bare", "outs", "I", false)
  | 16 => ("GuestHouseModel$Bare", "traps", "I", false)
  | 17 => ("GuestHouseModel$Bare", "code", "I", false)
  | _ => ("GuestHouseModel$Bare", "told", "I", false)
def tyX4 : Nat → FieldType := fun k => match k with
  | 0 => .int
  | 1 => .boolean
  | 2 => .array .int
  | 3 => .array .int
  | 4 => .array .int
  | 5 => .array .int
  | 6 => .array .int
  | 7 => .array .int
  | 8 => .array .int
  | 9 => .array .int
  | 10 => .int
  | 11 => .int
  | 12 => .int
  | 13 => .int
  | 14 => .int
  | 15 => .int
  | 16 => .int
  | 17 => .int
  | _ => .int
abbrev wsX40 : List Cond := u_ws RX4 TX4 19
theorem nmX4 : ∀ a, a < 19 → ∀ b, b < 19 → a ≠ b → (TX4 a).2.1 ≠ (TX4 b).2.1 := by decide +kernel
theorem tyX4_ok : ∀ k, k < 19 → parseFieldDescriptor (TX4 k).2.2.1 = some (tyX4 k) := by decide +kernel
abbrev cX4_init : ByteArray := prog_7_method_1_code
def yX4_init : MethodName := ⟨RX4, "<init>", "()V"⟩
abbrev cX4_make : ByteArray := prog_7_method_2_code
def yX4_make : MethodName := ⟨RX4, "make", "(I)V"⟩
abbrev cX4_copy : ByteArray := prog_7_method_3_code
def yX4_copy : MethodName := ⟨RX4, "copy", "(LGuestHouseModel$Bare;)V"⟩
abbrev cX4_start : ByteArray := prog_7_method_4_code
def yX4_start : MethodName := ⟨RX4, "start", "(I)V"⟩
abbrev cX4_forget : ByteArray := prog_7_method_5_code
def yX4_forget : MethodName := ⟨RX4, "forget", "()V"⟩
abbrev cX4_isMemory : ByteArray := prog_7_method_6_code
def yX4_isMemory : MethodName := ⟨RX4, "isMemory", "(I)Z"⟩
abbrev cX4_hasStatus : ByteArray := prog_7_method_7_code
def yX4_hasStatus : MethodName := ⟨RX4, "hasStatus", "(I)Z"⟩
abbrev cX4_isTimeUp : ByteArray := prog_7_method_8_code
def yX4_isTimeUp : MethodName := ⟨RX4, "isTimeUp", "()Z"⟩
abbrev cX4_step : ByteArray := prog_7_method_9_code
def yX4_step : MethodName := ⟨RX4, "step", "()V"⟩
abbrev cX4_fail : ByteArray := prog_7_method_10_code
def yX4_fail : MethodName := ⟨RX4, "fail", "(II)V"⟩
abbrev cX4_reach : ByteArray := prog_7_method_11_code
def yX4_reach : MethodName := ⟨RX4, "reach", "(II)I"⟩
abbrev cX4_tableWord : ByteArray := prog_7_method_12_code
def yX4_tableWord : MethodName := ⟨RX4, "tableWord", "(I)I"⟩
abbrev cX4_fill : ByteArray := prog_7_method_13_code
def yX4_fill : MethodName := ⟨RX4, "fill", "(III)V"⟩
abbrev cX4_work : ByteArray := prog_7_method_14_code
def yX4_work : MethodName := ⟨RX4, "work", "(I)V"⟩
abbrev cX4_made : ByteArray := prog_7_method_15_code
def yX4_made : MethodName := ⟨RX4, "made", "(IIII)I"⟩
abbrev cX4_goes : ByteArray := prog_7_method_16_code
def yX4_goes : MethodName := ⟨RX4, "goes", "(III)Z"⟩
abbrev cX4_moved : ByteArray := prog_7_method_17_code
def yX4_moved : MethodName := ⟨RX4, "moved", "(IIII)V"⟩
abbrev cX4_own : ByteArray := prog_7_method_18_code
def yX4_own : MethodName := ⟨RX4, "own", "(IIII)V"⟩
abbrev cX4_taken : ByteArray := prog_7_method_19_code
def yX4_taken : MethodName := ⟨RX4, "taken", "()I"⟩
abbrev cX4_put : ByteArray := prog_7_method_20_code
def yX4_put : MethodName := ⟨RX4, "put", "(II)V"⟩
def RX5 : String := "GuestHouseModel"
def TX5 : u_T := fun k => match k with
  | 0 => ("GuestHouseModel", "guests", "[LGuestHouseModel$Bare;", true)
  | 1 => ("GuestHouseModel", "slice", "I", false)
  | 2 => ("GuestHouseModel", "current", "I", false)
  | 3 => ("GuestHouseModel", "left", "I", false)
  | _ => ("GuestHouseModel", "steps", "I", false)
def tyX5 : Nat → FieldType := fun k => match k with
  | 0 => .array (.object "GuestHouseModel$Bare")
  | 1 => .int
  | 2 => .int
  | 3 => .int
  | _ => .int
abbrev wsX50 : List Cond := u_ws RX5 TX5 5
theorem nmX5 : ∀ a, a < 5 → ∀ b, b < 5 → a ≠ b → (TX5 a).2.1 ≠ (TX5 b).2.1 := by decide +kernel
theorem tyX5_ok : ∀ k, k < 5 → parseFieldDescriptor (TX5 k).2.2.1 = some (tyX5 k) := by decide +kernel
abbrev cX5_isBelow : ByteArray := prog_6_method_1_code
def yX5_isBelow : MethodName := ⟨RX5, "isBelow", "(II)Z"⟩
abbrev cX5_init : ByteArray := prog_6_method_2_code
def yX5_init : MethodName := ⟨RX5, "<init>", "()V"⟩
abbrev cX5_install : ByteArray := prog_6_method_3_code
def yX5_install : MethodName := ⟨RX5, "install", "(II)I"⟩
abbrev cX5_of : ByteArray := prog_6_method_4_code
def yX5_of : MethodName := ⟨RX5, "of", "(I)LGuestHouseModel$Bare;"⟩
abbrev cX5_free : ByteArray := prog_6_method_5_code
def yX5_free : MethodName := ⟨RX5, "free", "()I"⟩
abbrev cX5_guest : ByteArray := prog_6_method_6_code
def yX5_guest : MethodName := ⟨RX5, "guest", "(I)I"⟩
abbrev cX5_poke : ByteArray := prog_6_method_7_code
def yX5_poke : MethodName := ⟨RX5, "poke", "(III)I"⟩
abbrev cX5_pokeDisk : ByteArray := prog_6_method_8_code
def yX5_pokeDisk : MethodName := ⟨RX5, "pokeDisk", "(III)I"⟩
abbrev cX5_start : ByteArray := prog_6_method_9_code
def yX5_start : MethodName := ⟨RX5, "start", "(II)I"⟩
abbrev cX5_stop : ByteArray := prog_6_method_10_code
def yX5_stop : MethodName := ⟨RX5, "stop", "(I)I"⟩
abbrev cX5_input : ByteArray := prog_6_method_11_code
def yX5_input : MethodName := ⟨RX5, "input", "(II)I"⟩
abbrev cX5_copy : ByteArray := prog_6_method_12_code
def yX5_copy : MethodName := ⟨RX5, "copy", "(I)I"⟩
abbrev cX5_drop : ByteArray := prog_6_method_13_code
def yX5_drop : MethodName := ⟨RX5, "drop", "(I)I"⟩
abbrev cX5_isRunning : ByteArray := prog_6_method_14_code
def yX5_isRunning : MethodName := ⟨RX5, "isRunning", "(I)Z"⟩
abbrev cX5_turn : ByteArray := prog_6_method_15_code
def yX5_turn : MethodName := ⟨RX5, "turn", "()Z"⟩
abbrev cX5_run : ByteArray := prog_6_method_16_code
def yX5_run : MethodName := ⟨RX5, "run", "(I)I"⟩
abbrev cX5_only : ByteArray := prog_6_method_17_code
def yX5_only : MethodName := ⟨RX5, "only", "(II)I"⟩
abbrev cX5_state : ByteArray := prog_6_method_18_code
def yX5_state : MethodName := ⟨RX5, "state", "(I)I"⟩
abbrev cX5_told : ByteArray := prog_6_method_19_code
def yX5_told : MethodName := ⟨RX5, "told", "(II)I"⟩
abbrev cX5_peek : ByteArray := prog_6_method_20_code
def yX5_peek : MethodName := ⟨RX5, "peek", "(II)I"⟩
abbrev cX5_disk : ByteArray := prog_6_method_21_code
def yX5_disk : MethodName := ⟨RX5, "disk", "(II)I"⟩
abbrev cX5_out : ByteArray := prog_6_method_22_code
def yX5_out : MethodName := ⟨RX5, "out", "(II)I"⟩
abbrev cX5_cached : ByteArray := prog_6_method_23_code
def yX5_cached : MethodName := ⟨RX5, "cached", "(II)I"⟩
abbrev cX5_house : ByteArray := prog_6_method_24_code
def yX5_house : MethodName := ⟨RX5, "house", "(I)I"⟩
abbrev cX5_audit : ByteArray := prog_6_method_25_code
def yX5_audit : MethodName := ⟨RX5, "audit", "()I"⟩
def RJx8e188 : String := "java/lang/Cloneable"
def TJx8e188 : u_T := fun k => match k with
  | _ => ("", "", "", false)
def tyJx8e188 : Nat → FieldType := fun k => match k with
  | _ => .int
abbrev wsJx8e1880 : List Cond := u_ws RJx8e188 TJx8e188 0
theorem nmJx8e188 : ∀ a, a < 0 → ∀ b, b < 0 → a ≠ b → (TJx8e188 a).2.1 ≠ (TJx8e188 b).2.1 := by decide +kernel
theorem tyJx8e188_ok : ∀ k, k < 0 → parseFieldDescriptor (TJx8e188 k).2.2.1 = some (tyJx8e188 k) := by decide +kernel
def RJ9 : String := "java/lang/Math"
def TJ9 : u_T := fun k => match k with
  | _ => ("", "", "", false)
def tyJ9 : Nat → FieldType := fun k => match k with
  | _ => .int
abbrev wsJ90 : List Cond := u_ws RJ9 TJ9 0
theorem nmJ9 : ∀ a, a < 0 → ∀ b, b < 0 → a ≠ b → (TJ9 a).2.1 ≠ (TJ9 b).2.1 := by decide +kernel
theorem tyJ9_ok : ∀ k, k < 0 → parseFieldDescriptor (TJ9 k).2.2.1 = some (tyJ9 k) := by decide +kernel
abbrev cJ9_abs_0f7a4 : ByteArray := prog_9_method_59_code
def yJ9_abs_0f7a4 : MethodName := ⟨RJ9, "abs", "(I)I"⟩
abbrev cJ9_max_7cf53 : ByteArray := prog_9_method_65_code
def yJ9_max_7cf53 : MethodName := ⟨RJ9, "max", "(II)I"⟩
abbrev cJ9_min_7cf53 : ByteArray := prog_9_method_69_code
def yJ9_min_7cf53 : MethodName := ⟨RJ9, "min", "(II)I"⟩
def RJ10 : String := "java/lang/System"
def TJ10 : u_T := fun k => match k with
  | _ => ("", "", "", false)
def tyJ10 : Nat → FieldType := fun k => match k with
  | _ => .int
abbrev wsJ100 : List Cond := u_ws RJ10 TJ10 0
theorem nmJ10 : ∀ a, a < 0 → ∀ b, b < 0 → a ≠ b → (TJ10 a).2.1 ≠ (TJ10 b).2.1 := by decide +kernel
theorem tyJ10_ok : ∀ k, k < 0 → parseFieldDescriptor (TJ10 k).2.2.1 = some (tyJ10 k) := by decide +kernel
def RJ7 : String := "java/util/Arrays"
def TJ7 : u_T := fun k => match k with
  | _ => ("", "", "", false)
def tyJ7 : Nat → FieldType := fun k => match k with
  | _ => .int
abbrev wsJ70 : List Cond := u_ws RJ7 TJ7 0
theorem nmJ7 : ∀ a, a < 0 → ∀ b, b < 0 → a ≠ b → (TJ7 a).2.1 ≠ (TJ7 b).2.1 := by decide +kernel
theorem tyJ7_ok : ∀ k, k < 0 → parseFieldDescriptor (TJ7 k).2.2.1 = some (tyJ7 k) := by decide +kernel
abbrev cJ7_fill_53178 : ByteArray := prog_11_method_103_code
def yJ7_fill_53178 : MethodName := ⟨RJ7, "fill", "([II)V"⟩
abbrev cJ7_copyOf_59c91 : ByteArray := prog_11_method_123_code
def yJ7_copyOf_59c91 : MethodName := ⟨RJ7, "copyOf", "([II)[I"⟩
def RL : String := "GuestHouseLaw"
abbrev cL_law : ByteArray := code
def yL_law : MethodName := ⟨RL, "law", "([I)Z"⟩
abbrev vwCl : List vw_C := [(RX0, TX0, 17), (RX1, TX1, 13), (RX2, TX2, 5), (RX3, TX3, 7), (RX4, TX4, 19), (RX5, TX5, 5)]
end
section
theorem dX0_init_0 : decode cX0_init 0 = .ok (.aload_n 0, 1) := by decide +kernel
theorem dX0_init_1 : decode cX0_init 1 = .ok (.invokespecial 3, 3) := by decide +kernel
theorem dX0_init_4 : decode cX0_init 4 = .ok (.aload_n 0, 1) := by decide +kernel
theorem dX0_init_5 : decode cX0_init 5 = .ok (.bipush 64, 2) := by decide +kernel
theorem dX0_init_7 : decode cX0_init 7 = .ok (.newarray .int, 2) := by decide +kernel
theorem dX0_init_9 : decode cX0_init 9 = .ok (.putfield 9, 3) := by decide +kernel
theorem dX0_init_12 : decode cX0_init 12 = .ok (.aload_n 0, 1) := by decide +kernel
theorem dX0_init_13 : decode cX0_init 13 = .ok (.sipush 1024, 3) := by decide +kernel
theorem dX0_init_16 : decode cX0_init 16 = .ok (.newarray .int, 2) := by decide +kernel
theorem dX0_init_18 : decode cX0_init 18 = .ok (.putfield 15, 3) := by decide +kernel
theorem dX0_init_21 : decode cX0_init 21 = .ok (.aload_n 0, 1) := by decide +kernel
theorem dX0_init_22 : decode cX0_init 22 = .ok (.bipush 8, 2) := by decide +kernel
theorem dX0_init_24 : decode cX0_init 24 = .ok (.newarray .int, 2) := by decide +kernel
theorem dX0_init_26 : decode cX0_init 26 = .ok (.putfield 18, 3) := by decide +kernel
theorem dX0_init_29 : decode cX0_init 29 = .ok (.aload_n 0, 1) := by decide +kernel
theorem dX0_init_30 : decode cX0_init 30 = .ok (.bipush 10, 2) := by decide +kernel
theorem dX0_init_32 : decode cX0_init 32 = .ok (.newarray .int, 2) := by decide +kernel
theorem dX0_init_34 : decode cX0_init 34 = .ok (.putfield 21, 3) := by decide +kernel
theorem dX0_init_37 : decode cX0_init 37 = .ok (.aload_n 0, 1) := by decide +kernel
theorem dX0_init_38 : decode cX0_init 38 = .ok (.sipush 256, 3) := by decide +kernel
theorem dX0_init_41 : decode cX0_init 41 = .ok (.newarray .int, 2) := by decide +kernel
theorem dX0_init_43 : decode cX0_init 43 = .ok (.putfield 24, 3) := by decide +kernel
theorem dX0_init_46 : decode cX0_init 46 = .ok (.aload_n 0, 1) := by decide +kernel
theorem dX0_init_47 : decode cX0_init 47 = .ok (.bipush 64, 2) := by decide +kernel
theorem dX0_init_49 : decode cX0_init 49 = .ok (.newarray .int, 2) := by decide +kernel
theorem dX0_init_51 : decode cX0_init 51 = .ok (.putfield 27, 3) := by decide +kernel
theorem dX0_init_54 : decode cX0_init 54 = .ok (.aload_n 0, 1) := by decide +kernel
theorem dX0_init_55 : decode cX0_init 55 = .ok (.sipush 1000, 3) := by decide +kernel
theorem dX0_init_58 : decode cX0_init 58 = .ok (.newarray .int, 2) := by decide +kernel
theorem dX0_init_60 : decode cX0_init 60 = .ok (.putfield 30, 3) := by decide +kernel
theorem dX0_init_63 : decode cX0_init 63 = .ok (.return_, 1) := by decide +kernel
theorem dX0_renew_0 : decode cX0_renew 0 = .ok (.aload_n 0, 1) := by decide +kernel
theorem dX0_renew_1 : decode cX0_renew 1 = .ok (.iconst 1, 1) := by decide +kernel
theorem dX0_renew_2 : decode cX0_renew 2 = .ok (.putfield 33, 3) := by decide +kernel
theorem dX0_renew_5 : decode cX0_renew 5 = .ok (.aload_n 0, 1) := by decide +kernel
theorem dX0_renew_6 : decode cX0_renew 6 = .ok (.iconst 0, 1) := by decide +kernel
theorem dX0_renew_7 : decode cX0_renew 7 = .ok (.putfield 37, 3) := by decide +kernel
theorem dX0_renew_10 : decode cX0_renew 10 = .ok (.aload_n 0, 1) := by decide +kernel
theorem dX0_renew_11 : decode cX0_renew 11 = .ok (.iload_n 1, 1) := by decide +kernel
theorem dX0_renew_12 : decode cX0_renew 12 = .ok (.putfield 41, 3) := by decide +kernel
theorem dX0_renew_15 : decode cX0_renew 15 = .ok (.aload_n 0, 1) := by decide +kernel
theorem dX0_renew_16 : decode cX0_renew 16 = .ok (.invokevirtual 44, 3) := by decide +kernel
theorem dX0_renew_19 : decode cX0_renew 19 = .ok (.aload_n 0, 1) := by decide +kernel
theorem dX0_renew_20 : decode cX0_renew 20 = .ok (.getfield 15, 3) := by decide +kernel
theorem dX0_renew_23 : decode cX0_renew 23 = .ok (.iconst 0, 1) := by decide +kernel
theorem dX0_renew_24 : decode cX0_renew 24 = .ok (.invokestatic 47, 3) := by decide +kernel
theorem dX0_renew_27 : decode cX0_renew 27 = .ok (.aload_n 0, 1) := by decide +kernel
theorem dX0_renew_28 : decode cX0_renew 28 = .ok (.iconst 0, 1) := by decide +kernel
theorem dX0_renew_29 : decode cX0_renew 29 = .ok (.putfield 53, 3) := by decide +kernel
theorem dX0_renew_32 : decode cX0_renew 32 = .ok (.aload_n 0, 1) := by decide +kernel
theorem dX0_renew_33 : decode cX0_renew 33 = .ok (.iconst 0, 1) := by decide +kernel
theorem dX0_renew_34 : decode cX0_renew 34 = .ok (.putfield 56, 3) := by decide +kernel
theorem dX0_renew_37 : decode cX0_renew 37 = .ok (.aload_n 0, 1) := by decide +kernel
theorem dX0_renew_38 : decode cX0_renew 38 = .ok (.iconst 0, 1) := by decide +kernel
theorem dX0_renew_39 : decode cX0_renew 39 = .ok (.putfield 59, 3) := by decide +kernel
theorem dX0_renew_42 : decode cX0_renew 42 = .ok (.return_, 1) := by decide +kernel
theorem dX0_reset_0 : decode cX0_reset 0 = .ok (.aload_n 0, 1) := by decide +kernel
theorem dX0_reset_1 : decode cX0_reset 1 = .ok (.getfield 18, 3) := by decide +kernel
theorem dX0_reset_4 : decode cX0_reset 4 = .ok (.iconst 0, 1) := by decide +kernel
theorem dX0_reset_5 : decode cX0_reset 5 = .ok (.invokestatic 47, 3) := by decide +kernel
theorem dX0_reset_8 : decode cX0_reset 8 = .ok (.aload_n 0, 1) := by decide +kernel
theorem dX0_reset_9 : decode cX0_reset 9 = .ok (.getfield 21, 3) := by decide +kernel
theorem dX0_reset_12 : decode cX0_reset 12 = .ok (.iconst 0, 1) := by decide +kernel
theorem dX0_reset_13 : decode cX0_reset 13 = .ok (.invokestatic 47, 3) := by decide +kernel
theorem dX0_reset_16 : decode cX0_reset 16 = .ok (.aload_n 0, 1) := by decide +kernel
theorem dX0_reset_17 : decode cX0_reset 17 = .ok (.getfield 21, 3) := by decide +kernel
theorem dX0_reset_20 : decode cX0_reset 20 = .ok (.bipush 9, 2) := by decide +kernel
theorem dX0_reset_22 : decode cX0_reset 22 = .ok (.aload_n 0, 1) := by decide +kernel
theorem dX0_reset_23 : decode cX0_reset 23 = .ok (.getfield 41, 3) := by decide +kernel
theorem dX0_reset_26 : decode cX0_reset 26 = .ok (.iastore, 1) := by decide +kernel
theorem dX0_reset_27 : decode cX0_reset 27 = .ok (.aload_n 0, 1) := by decide +kernel
theorem dX0_reset_28 : decode cX0_reset 28 = .ok (.iconst 0, 1) := by decide +kernel
theorem dX0_reset_29 : decode cX0_reset 29 = .ok (.putfield 62, 3) := by decide +kernel
theorem dX0_reset_32 : decode cX0_reset 32 = .ok (.aload_n 0, 1) := by decide +kernel
theorem dX0_reset_33 : decode cX0_reset 33 = .ok (.iconst 0, 1) := by decide +kernel
theorem dX0_reset_34 : decode cX0_reset 34 = .ok (.putfield 65, 3) := by decide +kernel
theorem dX0_reset_37 : decode cX0_reset 37 = .ok (.aload_n 0, 1) := by decide +kernel
theorem dX0_reset_38 : decode cX0_reset 38 = .ok (.iconst 0, 1) := by decide +kernel
theorem dX0_reset_39 : decode cX0_reset 39 = .ok (.putfield 68, 3) := by decide +kernel
theorem dX0_reset_42 : decode cX0_reset 42 = .ok (.aload_n 0, 1) := by decide +kernel
theorem dX0_reset_43 : decode cX0_reset 43 = .ok (.iconst 0, 1) := by decide +kernel
theorem dX0_reset_44 : decode cX0_reset 44 = .ok (.putfield 71, 3) := by decide +kernel
theorem dX0_reset_47 : decode cX0_reset 47 = .ok (.aload_n 0, 1) := by decide +kernel
theorem dX0_reset_48 : decode cX0_reset 48 = .ok (.invokevirtual 74, 3) := by decide +kernel
theorem dX0_reset_51 : decode cX0_reset 51 = .ok (.return_, 1) := by decide +kernel
theorem dX0_become_0 : decode cX0_become 0 = .ok (.aload_n 0, 1) := by decide +kernel
theorem dX0_become_1 : decode cX0_become 1 = .ok (.iconst 1, 1) := by decide +kernel
theorem dX0_become_2 : decode cX0_become 2 = .ok (.putfield 33, 3) := by decide +kernel
theorem dX0_become_5 : decode cX0_become 5 = .ok (.aload_n 0, 1) := by decide +kernel
theorem dX0_become_6 : decode cX0_become 6 = .ok (.aload_n 1, 1) := by decide +kernel
theorem dX0_become_7 : decode cX0_become 7 = .ok (.getfield 37, 3) := by decide +kernel
theorem dX0_become_10 : decode cX0_become 10 = .ok (.putfield 37, 3) := by decide +kernel
theorem dX0_become_13 : decode cX0_become 13 = .ok (.aload_n 0, 1) := by decide +kernel
theorem dX0_become_14 : decode cX0_become 14 = .ok (.aload_n 1, 1) := by decide +kernel
theorem dX0_become_15 : decode cX0_become 15 = .ok (.getfield 62, 3) := by decide +kernel
theorem dX0_become_18 : decode cX0_become 18 = .ok (.putfield 62, 3) := by decide +kernel
theorem dX0_become_21 : decode cX0_become 21 = .ok (.aload_n 0, 1) := by decide +kernel
theorem dX0_become_22 : decode cX0_become 22 = .ok (.aload_n 1, 1) := by decide +kernel
theorem dX0_become_23 : decode cX0_become 23 = .ok (.getfield 65, 3) := by decide +kernel
theorem dX0_become_26 : decode cX0_become 26 = .ok (.putfield 65, 3) := by decide +kernel
theorem dX0_become_29 : decode cX0_become 29 = .ok (.aload_n 0, 1) := by decide +kernel
theorem dX0_become_30 : decode cX0_become 30 = .ok (.aload_n 1, 1) := by decide +kernel
theorem dX0_become_31 : decode cX0_become 31 = .ok (.getfield 68, 3) := by decide +kernel
theorem dX0_become_34 : decode cX0_become 34 = .ok (.putfield 68, 3) := by decide +kernel
theorem dX0_become_37 : decode cX0_become 37 = .ok (.aload_n 0, 1) := by decide +kernel
theorem dX0_become_38 : decode cX0_become 38 = .ok (.aload_n 1, 1) := by decide +kernel
theorem dX0_become_39 : decode cX0_become 39 = .ok (.getfield 71, 3) := by decide +kernel
theorem dX0_become_42 : decode cX0_become 42 = .ok (.putfield 71, 3) := by decide +kernel
theorem dX0_become_45 : decode cX0_become 45 = .ok (.aload_n 0, 1) := by decide +kernel
theorem dX0_become_46 : decode cX0_become 46 = .ok (.aload_n 1, 1) := by decide +kernel
theorem dX0_become_47 : decode cX0_become 47 = .ok (.getfield 41, 3) := by decide +kernel
theorem dX0_become_50 : decode cX0_become 50 = .ok (.putfield 41, 3) := by decide +kernel
theorem dX0_become_53 : decode cX0_become 53 = .ok (.aload_n 0, 1) := by decide +kernel
theorem dX0_become_54 : decode cX0_become 54 = .ok (.aload_n 1, 1) := by decide +kernel
theorem dX0_become_55 : decode cX0_become 55 = .ok (.getfield 53, 3) := by decide +kernel
theorem dX0_become_58 : decode cX0_become 58 = .ok (.putfield 53, 3) := by decide +kernel
theorem dX0_become_61 : decode cX0_become 61 = .ok (.aload_n 0, 1) := by decide +kernel
theorem dX0_become_62 : decode cX0_become 62 = .ok (.aload_n 1, 1) := by decide +kernel
theorem dX0_become_63 : decode cX0_become 63 = .ok (.getfield 56, 3) := by decide +kernel
theorem dX0_become_66 : decode cX0_become 66 = .ok (.putfield 56, 3) := by decide +kernel
theorem dX0_become_69 : decode cX0_become 69 = .ok (.aload_n 0, 1) := by decide +kernel
theorem dX0_become_70 : decode cX0_become 70 = .ok (.aload_n 1, 1) := by decide +kernel
theorem dX0_become_71 : decode cX0_become 71 = .ok (.getfield 59, 3) := by decide +kernel
theorem dX0_become_74 : decode cX0_become 74 = .ok (.putfield 59, 3) := by decide +kernel
theorem dX0_become_77 : decode cX0_become 77 = .ok (.aload_n 1, 1) := by decide +kernel
theorem dX0_become_78 : decode cX0_become 78 = .ok (.getfield 15, 3) := by decide +kernel
theorem dX0_become_81 : decode cX0_become 81 = .ok (.iconst 0, 1) := by decide +kernel
theorem dX0_become_82 : decode cX0_become 82 = .ok (.aload_n 0, 1) := by decide +kernel
theorem dX0_become_83 : decode cX0_become 83 = .ok (.getfield 15, 3) := by decide +kernel
theorem dX0_become_86 : decode cX0_become 86 = .ok (.iconst 0, 1) := by decide +kernel
theorem dX0_become_87 : decode cX0_become 87 = .ok (.sipush 1024, 3) := by decide +kernel
theorem dX0_become_90 : decode cX0_become 90 = .ok (.invokestatic 77, 3) := by decide +kernel
theorem dX0_become_93 : decode cX0_become 93 = .ok (.aload_n 1, 1) := by decide +kernel
theorem dX0_become_94 : decode cX0_become 94 = .ok (.getfield 18, 3) := by decide +kernel
theorem dX0_become_97 : decode cX0_become 97 = .ok (.iconst 0, 1) := by decide +kernel
theorem dX0_become_98 : decode cX0_become 98 = .ok (.aload_n 0, 1) := by decide +kernel
theorem dX0_become_99 : decode cX0_become 99 = .ok (.getfield 18, 3) := by decide +kernel
theorem dX0_become_102 : decode cX0_become 102 = .ok (.iconst 0, 1) := by decide +kernel
theorem dX0_become_103 : decode cX0_become 103 = .ok (.bipush 8, 2) := by decide +kernel
theorem dX0_become_105 : decode cX0_become 105 = .ok (.invokestatic 77, 3) := by decide +kernel
theorem dX0_become_108 : decode cX0_become 108 = .ok (.aload_n 1, 1) := by decide +kernel
theorem dX0_become_109 : decode cX0_become 109 = .ok (.getfield 21, 3) := by decide +kernel
theorem dX0_become_112 : decode cX0_become 112 = .ok (.iconst 0, 1) := by decide +kernel
theorem dX0_become_113 : decode cX0_become 113 = .ok (.aload_n 0, 1) := by decide +kernel
theorem dX0_become_114 : decode cX0_become 114 = .ok (.getfield 21, 3) := by decide +kernel
theorem dX0_become_117 : decode cX0_become 117 = .ok (.iconst 0, 1) := by decide +kernel
theorem dX0_become_118 : decode cX0_become 118 = .ok (.bipush 10, 2) := by decide +kernel
theorem dX0_become_120 : decode cX0_become 120 = .ok (.invokestatic 77, 3) := by decide +kernel
theorem dX0_become_123 : decode cX0_become 123 = .ok (.aload_n 1, 1) := by decide +kernel
theorem dX0_become_124 : decode cX0_become 124 = .ok (.getfield 24, 3) := by decide +kernel
theorem dX0_become_127 : decode cX0_become 127 = .ok (.iconst 0, 1) := by decide +kernel
theorem dX0_become_128 : decode cX0_become 128 = .ok (.aload_n 0, 1) := by decide +kernel
theorem dX0_become_129 : decode cX0_become 129 = .ok (.getfield 24, 3) := by decide +kernel
theorem dX0_become_132 : decode cX0_become 132 = .ok (.iconst 0, 1) := by decide +kernel
theorem dX0_become_133 : decode cX0_become 133 = .ok (.sipush 256, 3) := by decide +kernel
theorem dX0_become_136 : decode cX0_become 136 = .ok (.invokestatic 77, 3) := by decide +kernel
theorem dX0_become_139 : decode cX0_become 139 = .ok (.aload_n 1, 1) := by decide +kernel
theorem dX0_become_140 : decode cX0_become 140 = .ok (.getfield 27, 3) := by decide +kernel
theorem dX0_become_143 : decode cX0_become 143 = .ok (.iconst 0, 1) := by decide +kernel
theorem dX0_become_144 : decode cX0_become 144 = .ok (.aload_n 0, 1) := by decide +kernel
theorem dX0_become_145 : decode cX0_become 145 = .ok (.getfield 27, 3) := by decide +kernel
theorem dX0_become_148 : decode cX0_become 148 = .ok (.iconst 0, 1) := by decide +kernel
theorem dX0_become_149 : decode cX0_become 149 = .ok (.bipush 64, 2) := by decide +kernel
theorem dX0_become_151 : decode cX0_become 151 = .ok (.invokestatic 77, 3) := by decide +kernel
theorem dX0_become_154 : decode cX0_become 154 = .ok (.aload_n 1, 1) := by decide +kernel
theorem dX0_become_155 : decode cX0_become 155 = .ok (.getfield 30, 3) := by decide +kernel
theorem dX0_become_158 : decode cX0_become 158 = .ok (.iconst 0, 1) := by decide +kernel
theorem dX0_become_159 : decode cX0_become 159 = .ok (.aload_n 0, 1) := by decide +kernel
theorem dX0_become_160 : decode cX0_become 160 = .ok (.getfield 30, 3) := by decide +kernel
theorem dX0_become_163 : decode cX0_become 163 = .ok (.iconst 0, 1) := by decide +kernel
theorem dX0_become_164 : decode cX0_become 164 = .ok (.sipush 1000, 3) := by decide +kernel
theorem dX0_become_167 : decode cX0_become 167 = .ok (.invokestatic 77, 3) := by decide +kernel
theorem dX0_become_170 : decode cX0_become 170 = .ok (.return_, 1) := by decide +kernel
theorem dX0_hasWord_0 : decode cX0_hasWord 0 = .ok (.iload_n 1, 1) := by decide +kernel
theorem dX0_hasWord_1 : decode cX0_hasWord 1 = .ok (.ifCond .lt 18, 3) := by decide +kernel
theorem dX0_hasWord_4 : decode cX0_hasWord 4 = .ok (.iload_n 1, 1) := by decide +kernel
theorem dX0_hasWord_5 : decode cX0_hasWord 5 = .ok (.bipush 64, 2) := by decide +kernel
theorem dX0_hasWord_7 : decode cX0_hasWord 7 = .ok (.aload_n 0, 1) := by decide +kernel
theorem dX0_hasWord_8 : decode cX0_hasWord 8 = .ok (.getfield 41, 3) := by decide +kernel
theorem dX0_hasWord_11 : decode cX0_hasWord 11 = .ok (.imul, 1) := by decide +kernel
theorem dX0_hasWord_12 : decode cX0_hasWord 12 = .ok (.if_icmp .ge 7, 3) := by decide +kernel
theorem dX0_hasWord_15 : decode cX0_hasWord 15 = .ok (.iconst 1, 1) := by decide +kernel
theorem dX0_hasWord_16 : decode cX0_hasWord 16 = .ok (.goto 4, 3) := by decide +kernel
theorem dX0_hasWord_19 : decode cX0_hasWord 19 = .ok (.iconst 0, 1) := by decide +kernel
theorem dX0_hasWord_20 : decode cX0_hasWord 20 = .ok (.ireturn, 1) := by decide +kernel
theorem dX0_emptyCache_0 : decode cX0_emptyCache 0 = .ok (.aload_n 0, 1) := by decide +kernel
theorem dX0_emptyCache_1 : decode cX0_emptyCache 1 = .ok (.getfield 24, 3) := by decide +kernel
theorem dX0_emptyCache_4 : decode cX0_emptyCache 4 = .ok (.iconst (-1), 1) := by decide +kernel
theorem dX0_emptyCache_5 : decode cX0_emptyCache 5 = .ok (.invokestatic 47, 3) := by decide +kernel
theorem dX0_emptyCache_8 : decode cX0_emptyCache 8 = .ok (.return_, 1) := by decide +kernel
theorem dX0_arrive_0 : decode cX0_arrive 0 = .ok (.aload_n 0, 1) := by decide +kernel
theorem dX0_arrive_1 : decode cX0_arrive 1 = .ok (.getfield 56, 3) := by decide +kernel
theorem dX0_arrive_4 : decode cX0_arrive 4 = .ok (.bipush 64, 2) := by decide +kernel
theorem dX0_arrive_6 : decode cX0_arrive 6 = .ok (.if_icmp .lt 5, 3) := by decide +kernel
theorem dX0_arrive_9 : decode cX0_arrive 9 = .ok (.iconst 0, 1) := by decide +kernel
theorem dX0_arrive_10 : decode cX0_arrive 10 = .ok (.ireturn, 1) := by decide +kernel
theorem dX0_arrive_11 : decode cX0_arrive 11 = .ok (.aload_n 0, 1) := by decide +kernel
theorem dX0_arrive_12 : decode cX0_arrive 12 = .ok (.getfield 27, 3) := by decide +kernel
theorem dX0_arrive_15 : decode cX0_arrive 15 = .ok (.aload_n 0, 1) := by decide +kernel
theorem dX0_arrive_16 : decode cX0_arrive 16 = .ok (.getfield 53, 3) := by decide +kernel
theorem dX0_arrive_19 : decode cX0_arrive 19 = .ok (.aload_n 0, 1) := by decide +kernel
theorem dX0_arrive_20 : decode cX0_arrive 20 = .ok (.getfield 56, 3) := by decide +kernel
theorem dX0_arrive_23 : decode cX0_arrive 23 = .ok (.iadd, 1) := by decide +kernel
theorem dX0_arrive_24 : decode cX0_arrive 24 = .ok (.bipush 63, 2) := by decide +kernel
theorem dX0_arrive_26 : decode cX0_arrive 26 = .ok (.iand, 1) := by decide +kernel
theorem dX0_arrive_27 : decode cX0_arrive 27 = .ok (.iload_n 1, 1) := by decide +kernel
theorem dX0_arrive_28 : decode cX0_arrive 28 = .ok (.iastore, 1) := by decide +kernel
theorem dX0_arrive_29 : decode cX0_arrive 29 = .ok (.aload_n 0, 1) := by decide +kernel
theorem dX0_arrive_30 : decode cX0_arrive 30 = .ok (.dup, 1) := by decide +kernel
theorem dX0_arrive_31 : decode cX0_arrive 31 = .ok (.getfield 56, 3) := by decide +kernel
theorem dX0_arrive_34 : decode cX0_arrive 34 = .ok (.iconst 1, 1) := by decide +kernel
theorem dX0_arrive_35 : decode cX0_arrive 35 = .ok (.iadd, 1) := by decide +kernel
theorem dX0_arrive_36 : decode cX0_arrive 36 = .ok (.putfield 56, 3) := by decide +kernel
theorem dX0_arrive_39 : decode cX0_arrive 39 = .ok (.iconst 1, 1) := by decide +kernel
theorem dX0_arrive_40 : decode cX0_arrive 40 = .ok (.ireturn, 1) := by decide +kernel
theorem dX0_takeOldest_0 : decode cX0_takeOldest 0 = .ok (.aload_n 0, 1) := by decide +kernel
theorem dX0_takeOldest_1 : decode cX0_takeOldest 1 = .ok (.getfield 56, 3) := by decide +kernel
theorem dX0_takeOldest_4 : decode cX0_takeOldest 4 = .ok (.ifCond .gt 5, 3) := by decide +kernel
theorem dX0_takeOldest_7 : decode cX0_takeOldest 7 = .ok (.iconst 0, 1) := by decide +kernel
theorem dX0_takeOldest_8 : decode cX0_takeOldest 8 = .ok (.ireturn, 1) := by decide +kernel
theorem dX0_takeOldest_9 : decode cX0_takeOldest 9 = .ok (.aload_n 0, 1) := by decide +kernel
theorem dX0_takeOldest_10 : decode cX0_takeOldest 10 = .ok (.getfield 27, 3) := by decide +kernel
theorem dX0_takeOldest_13 : decode cX0_takeOldest 13 = .ok (.aload_n 0, 1) := by decide +kernel
theorem dX0_takeOldest_14 : decode cX0_takeOldest 14 = .ok (.getfield 53, 3) := by decide +kernel
theorem dX0_takeOldest_17 : decode cX0_takeOldest 17 = .ok (.bipush 63, 2) := by decide +kernel
theorem dX0_takeOldest_19 : decode cX0_takeOldest 19 = .ok (.iand, 1) := by decide +kernel
theorem dX0_takeOldest_20 : decode cX0_takeOldest 20 = .ok (.iaload, 1) := by decide +kernel
theorem dX0_takeOldest_21 : decode cX0_takeOldest 21 = .ok (.istore_n 1, 1) := by decide +kernel
theorem dX0_takeOldest_22 : decode cX0_takeOldest 22 = .ok (.aload_n 0, 1) := by decide +kernel
theorem dX0_takeOldest_23 : decode cX0_takeOldest 23 = .ok (.aload_n 0, 1) := by decide +kernel
theorem dX0_takeOldest_24 : decode cX0_takeOldest 24 = .ok (.getfield 53, 3) := by decide +kernel
theorem dX0_takeOldest_27 : decode cX0_takeOldest 27 = .ok (.iconst 1, 1) := by decide +kernel
theorem dX0_takeOldest_28 : decode cX0_takeOldest 28 = .ok (.iadd, 1) := by decide +kernel
theorem dX0_takeOldest_29 : decode cX0_takeOldest 29 = .ok (.bipush 63, 2) := by decide +kernel
theorem dX0_takeOldest_31 : decode cX0_takeOldest 31 = .ok (.iand, 1) := by decide +kernel
theorem dX0_takeOldest_32 : decode cX0_takeOldest 32 = .ok (.putfield 53, 3) := by decide +kernel
theorem dX0_takeOldest_35 : decode cX0_takeOldest 35 = .ok (.aload_n 0, 1) := by decide +kernel
theorem dX0_takeOldest_36 : decode cX0_takeOldest 36 = .ok (.dup, 1) := by decide +kernel
theorem dX0_takeOldest_37 : decode cX0_takeOldest 37 = .ok (.getfield 56, 3) := by decide +kernel
theorem dX0_takeOldest_40 : decode cX0_takeOldest 40 = .ok (.iconst 1, 1) := by decide +kernel
theorem dX0_takeOldest_41 : decode cX0_takeOldest 41 = .ok (.isub, 1) := by decide +kernel
theorem dX0_takeOldest_42 : decode cX0_takeOldest 42 = .ok (.putfield 56, 3) := by decide +kernel
theorem dX0_takeOldest_45 : decode cX0_takeOldest 45 = .ok (.iload_n 1, 1) := by decide +kernel
theorem dX0_takeOldest_46 : decode cX0_takeOldest 46 = .ok (.ireturn, 1) := by decide +kernel
theorem dX0_putOut_0 : decode cX0_putOut 0 = .ok (.aload_n 0, 1) := by decide +kernel
theorem dX0_putOut_1 : decode cX0_putOut 1 = .ok (.getfield 59, 3) := by decide +kernel
theorem dX0_putOut_4 : decode cX0_putOut 4 = .ok (.ifCond .lt 23, 3) := by decide +kernel
theorem dX0_putOut_7 : decode cX0_putOut 7 = .ok (.aload_n 0, 1) := by decide +kernel
theorem dX0_putOut_8 : decode cX0_putOut 8 = .ok (.getfield 59, 3) := by decide +kernel
theorem dX0_putOut_11 : decode cX0_putOut 11 = .ok (.sipush 1000, 3) := by decide +kernel
theorem dX0_putOut_14 : decode cX0_putOut 14 = .ok (.if_icmp .ge 13, 3) := by decide +kernel
theorem dX0_putOut_17 : decode cX0_putOut 17 = .ok (.aload_n 0, 1) := by decide +kernel
theorem dX0_putOut_18 : decode cX0_putOut 18 = .ok (.getfield 30, 3) := by decide +kernel
theorem dX0_putOut_21 : decode cX0_putOut 21 = .ok (.aload_n 0, 1) := by decide +kernel
theorem dX0_putOut_22 : decode cX0_putOut 22 = .ok (.getfield 59, 3) := by decide +kernel
theorem dX0_putOut_25 : decode cX0_putOut 25 = .ok (.iload_n 1, 1) := by decide +kernel
theorem dX0_putOut_26 : decode cX0_putOut 26 = .ok (.iastore, 1) := by decide +kernel
theorem dX0_putOut_27 : decode cX0_putOut 27 = .ok (.aload_n 0, 1) := by decide +kernel
theorem dX0_putOut_28 : decode cX0_putOut 28 = .ok (.dup, 1) := by decide +kernel
theorem dX0_putOut_29 : decode cX0_putOut 29 = .ok (.getfield 59, 3) := by decide +kernel
theorem dX0_putOut_32 : decode cX0_putOut 32 = .ok (.iconst 1, 1) := by decide +kernel
theorem dX0_putOut_33 : decode cX0_putOut 33 = .ok (.iadd, 1) := by decide +kernel
theorem dX0_putOut_34 : decode cX0_putOut 34 = .ok (.putfield 59, 3) := by decide +kernel
theorem dX0_putOut_37 : decode cX0_putOut 37 = .ok (.return_, 1) := by decide +kernel
theorem dX0_keptCount_0 : decode cX0_keptCount 0 = .ok (.aload_n 0, 1) := by decide +kernel
theorem dX0_keptCount_1 : decode cX0_keptCount 1 = .ok (.getfield 59, 3) := by decide +kernel
theorem dX0_keptCount_4 : decode cX0_keptCount 4 = .ok (.sipush 1000, 3) := by decide +kernel
theorem dX0_keptCount_7 : decode cX0_keptCount 7 = .ok (.invokestatic 83, 3) := by decide +kernel
theorem dX0_keptCount_10 : decode cX0_keptCount 10 = .ok (.ireturn, 1) := by decide +kernel
theorem dX0_timerIsUp_0 : decode cX0_timerIsUp 0 = .ok (.aload_n 0, 1) := by decide +kernel
theorem dX0_timerIsUp_1 : decode cX0_timerIsUp 1 = .ok (.getfield 21, 3) := by decide +kernel
theorem dX0_timerIsUp_4 : decode cX0_timerIsUp 4 = .ok (.bipush 6, 2) := by decide +kernel
theorem dX0_timerIsUp_6 : decode cX0_timerIsUp 6 = .ok (.iaload, 1) := by decide +kernel
theorem dX0_timerIsUp_7 : decode cX0_timerIsUp 7 = .ok (.ifCond .eq 25, 3) := by decide +kernel
theorem dX0_timerIsUp_10 : decode cX0_timerIsUp 10 = .ok (.aload_n 0, 1) := by decide +kernel
theorem dX0_timerIsUp_11 : decode cX0_timerIsUp 11 = .ok (.getfield 21, 3) := by decide +kernel
theorem dX0_timerIsUp_14 : decode cX0_timerIsUp 14 = .ok (.bipush 8, 2) := by decide +kernel
theorem dX0_timerIsUp_16 : decode cX0_timerIsUp 16 = .ok (.iaload, 1) := by decide +kernel
theorem dX0_timerIsUp_17 : decode cX0_timerIsUp 17 = .ok (.aload_n 0, 1) := by decide +kernel
theorem dX0_timerIsUp_18 : decode cX0_timerIsUp 18 = .ok (.getfield 21, 3) := by decide +kernel
theorem dX0_timerIsUp_21 : decode cX0_timerIsUp 21 = .ok (.bipush 6, 2) := by decide +kernel
theorem dX0_timerIsUp_23 : decode cX0_timerIsUp 23 = .ok (.iaload, 1) := by decide +kernel
theorem dX0_timerIsUp_24 : decode cX0_timerIsUp 24 = .ok (.isub, 1) := by decide +kernel
theorem dX0_timerIsUp_25 : decode cX0_timerIsUp 25 = .ok (.ifCond .lt 7, 3) := by decide +kernel
theorem dX0_timerIsUp_28 : decode cX0_timerIsUp 28 = .ok (.iconst 1, 1) := by decide +kernel
theorem dX0_timerIsUp_29 : decode cX0_timerIsUp 29 = .ok (.goto 4, 3) := by decide +kernel
theorem dX0_timerIsUp_32 : decode cX0_timerIsUp 32 = .ok (.iconst 0, 1) := by decide +kernel
theorem dX0_timerIsUp_33 : decode cX0_timerIsUp 33 = .ok (.ireturn, 1) := by decide +kernel
theorem dX0_enterTrap_0 : decode cX0_enterTrap 0 = .ok (.aload_n 0, 1) := by decide +kernel
theorem dX0_enterTrap_1 : decode cX0_enterTrap 1 = .ok (.getfield 21, 3) := by decide +kernel
theorem dX0_enterTrap_4 : decode cX0_enterTrap 4 = .ok (.iconst 0, 1) := by decide +kernel
theorem dX0_enterTrap_5 : decode cX0_enterTrap 5 = .ok (.iaload, 1) := by decide +kernel
theorem dX0_enterTrap_6 : decode cX0_enterTrap 6 = .ok (.istore_n 3, 1) := by decide +kernel
theorem dX0_enterTrap_7 : decode cX0_enterTrap 7 = .ok (.iload_n 3, 1) := by decide +kernel
theorem dX0_enterTrap_8 : decode cX0_enterTrap 8 = .ok (.iconst 1, 1) := by decide +kernel
theorem dX0_enterTrap_9 : decode cX0_enterTrap 9 = .ok (.iand, 1) := by decide +kernel
theorem dX0_enterTrap_10 : decode cX0_enterTrap 10 = .ok (.ifCond .eq 7, 3) := by decide +kernel
theorem dX0_enterTrap_13 : decode cX0_enterTrap 13 = .ok (.iconst 2, 1) := by decide +kernel
theorem dX0_enterTrap_14 : decode cX0_enterTrap 14 = .ok (.goto 4, 3) := by decide +kernel
theorem dX0_enterTrap_17 : decode cX0_enterTrap 17 = .ok (.iconst 0, 1) := by decide +kernel
theorem dX0_enterTrap_18 : decode cX0_enterTrap 18 = .ok (.aload_n 0, 1) := by decide +kernel
theorem dX0_enterTrap_19 : decode cX0_enterTrap 19 = .ok (.getfield 65, 3) := by decide +kernel
theorem dX0_enterTrap_22 : decode cX0_enterTrap 22 = .ok (.ifCond .eq 7, 3) := by decide +kernel
theorem dX0_enterTrap_25 : decode cX0_enterTrap 25 = .ok (.iconst 4, 1) := by decide +kernel
theorem dX0_enterTrap_26 : decode cX0_enterTrap 26 = .ok (.goto 4, 3) := by decide +kernel
theorem dX0_enterTrap_29 : decode cX0_enterTrap 29 = .ok (.iconst 0, 1) := by decide +kernel
theorem dX0_enterTrap_30 : decode cX0_enterTrap 30 = .ok (.ior, 1) := by decide +kernel
theorem dX0_enterTrap_31 : decode cX0_enterTrap 31 = .ok (.istore 4, 2) := by decide +kernel
theorem dX0_enterTrap_33 : decode cX0_enterTrap 33 = .ok (.aload_n 0, 1) := by decide +kernel
theorem dX0_enterTrap_34 : decode cX0_enterTrap 34 = .ok (.getfield 21, 3) := by decide +kernel
theorem dX0_enterTrap_37 : decode cX0_enterTrap 37 = .ok (.iconst 0, 1) := by decide +kernel
theorem dX0_enterTrap_38 : decode cX0_enterTrap 38 = .ok (.iload_n 3, 1) := by decide +kernel
theorem dX0_enterTrap_39 : decode cX0_enterTrap 39 = .ok (.sipush 1792, 3) := by decide +kernel
theorem dX0_enterTrap_42 : decode cX0_enterTrap 42 = .ok (.iand, 1) := by decide +kernel
theorem dX0_enterTrap_43 : decode cX0_enterTrap 43 = .ok (.iload 4, 2) := by decide +kernel
theorem dX0_enterTrap_45 : decode cX0_enterTrap 45 = .ok (.ior, 1) := by decide +kernel
theorem dX0_enterTrap_46 : decode cX0_enterTrap 46 = .ok (.iastore, 1) := by decide +kernel
theorem dX0_enterTrap_47 : decode cX0_enterTrap 47 = .ok (.aload_n 0, 1) := by decide +kernel
theorem dX0_enterTrap_48 : decode cX0_enterTrap 48 = .ok (.getfield 21, 3) := by decide +kernel
theorem dX0_enterTrap_51 : decode cX0_enterTrap 51 = .ok (.iconst 1, 1) := by decide +kernel
theorem dX0_enterTrap_52 : decode cX0_enterTrap 52 = .ok (.iload_n 1, 1) := by decide +kernel
theorem dX0_enterTrap_53 : decode cX0_enterTrap 53 = .ok (.iastore, 1) := by decide +kernel
theorem dX0_enterTrap_54 : decode cX0_enterTrap 54 = .ok (.aload_n 0, 1) := by decide +kernel
theorem dX0_enterTrap_55 : decode cX0_enterTrap 55 = .ok (.getfield 21, 3) := by decide +kernel
theorem dX0_enterTrap_58 : decode cX0_enterTrap 58 = .ok (.iconst 2, 1) := by decide +kernel
theorem dX0_enterTrap_59 : decode cX0_enterTrap 59 = .ok (.aload_n 0, 1) := by decide +kernel
theorem dX0_enterTrap_60 : decode cX0_enterTrap 60 = .ok (.getfield 62, 3) := by decide +kernel
theorem dX0_enterTrap_63 : decode cX0_enterTrap 63 = .ok (.iastore, 1) := by decide +kernel
theorem dX0_enterTrap_64 : decode cX0_enterTrap 64 = .ok (.aload_n 0, 1) := by decide +kernel
theorem dX0_enterTrap_65 : decode cX0_enterTrap 65 = .ok (.getfield 21, 3) := by decide +kernel
theorem dX0_enterTrap_68 : decode cX0_enterTrap 68 = .ok (.iconst 3, 1) := by decide +kernel
theorem dX0_enterTrap_69 : decode cX0_enterTrap 69 = .ok (.iload_n 2, 1) := by decide +kernel
theorem dX0_enterTrap_70 : decode cX0_enterTrap 70 = .ok (.iastore, 1) := by decide +kernel
theorem dX0_enterTrap_71 : decode cX0_enterTrap 71 = .ok (.aload_n 0, 1) := by decide +kernel
theorem dX0_enterTrap_72 : decode cX0_enterTrap 72 = .ok (.iconst 1, 1) := by decide +kernel
theorem dX0_enterTrap_73 : decode cX0_enterTrap 73 = .ok (.putfield 65, 3) := by decide +kernel
theorem dX0_enterTrap_76 : decode cX0_enterTrap 76 = .ok (.aload_n 0, 1) := by decide +kernel
theorem dX0_enterTrap_77 : decode cX0_enterTrap 77 = .ok (.aload_n 0, 1) := by decide +kernel
theorem dX0_enterTrap_78 : decode cX0_enterTrap 78 = .ok (.getfield 21, 3) := by decide +kernel
theorem dX0_enterTrap_81 : decode cX0_enterTrap 81 = .ok (.iconst 4, 1) := by decide +kernel
theorem dX0_enterTrap_82 : decode cX0_enterTrap 82 = .ok (.iaload, 1) := by decide +kernel
theorem dX0_enterTrap_83 : decode cX0_enterTrap 83 = .ok (.putfield 62, 3) := by decide +kernel
theorem dX0_enterTrap_86 : decode cX0_enterTrap 86 = .ok (.aload_n 0, 1) := by decide +kernel
theorem dX0_enterTrap_87 : decode cX0_enterTrap 87 = .ok (.dup, 1) := by decide +kernel
theorem dX0_enterTrap_88 : decode cX0_enterTrap 88 = .ok (.getfield 71, 3) := by decide +kernel
theorem dX0_enterTrap_91 : decode cX0_enterTrap 91 = .ok (.iconst 1, 1) := by decide +kernel
theorem dX0_enterTrap_92 : decode cX0_enterTrap 92 = .ok (.iadd, 1) := by decide +kernel
theorem dX0_enterTrap_93 : decode cX0_enterTrap 93 = .ok (.putfield 71, 3) := by decide +kernel
theorem dX0_enterTrap_96 : decode cX0_enterTrap 96 = .ok (.return_, 1) := by decide +kernel
theorem dX0_leaveTrap_0 : decode cX0_leaveTrap 0 = .ok (.aload_n 0, 1) := by decide +kernel
theorem dX0_leaveTrap_1 : decode cX0_leaveTrap 1 = .ok (.getfield 21, 3) := by decide +kernel
theorem dX0_leaveTrap_4 : decode cX0_leaveTrap 4 = .ok (.iconst 0, 1) := by decide +kernel
theorem dX0_leaveTrap_5 : decode cX0_leaveTrap 5 = .ok (.iaload, 1) := by decide +kernel
theorem dX0_leaveTrap_6 : decode cX0_leaveTrap 6 = .ok (.istore_n 1, 1) := by decide +kernel
theorem dX0_leaveTrap_7 : decode cX0_leaveTrap 7 = .ok (.iload_n 1, 1) := by decide +kernel
theorem dX0_leaveTrap_8 : decode cX0_leaveTrap 8 = .ok (.iconst 2, 1) := by decide +kernel
theorem dX0_leaveTrap_9 : decode cX0_leaveTrap 9 = .ok (.iand, 1) := by decide +kernel
theorem dX0_leaveTrap_10 : decode cX0_leaveTrap 10 = .ok (.ifCond .eq 7, 3) := by decide +kernel
theorem dX0_leaveTrap_13 : decode cX0_leaveTrap 13 = .ok (.iconst 1, 1) := by decide +kernel
theorem dX0_leaveTrap_14 : decode cX0_leaveTrap 14 = .ok (.goto 4, 3) := by decide +kernel
theorem dX0_leaveTrap_17 : decode cX0_leaveTrap 17 = .ok (.iconst 0, 1) := by decide +kernel
theorem dX0_leaveTrap_18 : decode cX0_leaveTrap 18 = .ok (.istore_n 2, 1) := by decide +kernel
theorem dX0_leaveTrap_19 : decode cX0_leaveTrap 19 = .ok (.aload_n 0, 1) := by decide +kernel
theorem dX0_leaveTrap_20 : decode cX0_leaveTrap 20 = .ok (.getfield 21, 3) := by decide +kernel
theorem dX0_leaveTrap_23 : decode cX0_leaveTrap 23 = .ok (.iconst 0, 1) := by decide +kernel
theorem dX0_leaveTrap_24 : decode cX0_leaveTrap 24 = .ok (.iload_n 1, 1) := by decide +kernel
theorem dX0_leaveTrap_25 : decode cX0_leaveTrap 25 = .ok (.sipush 1792, 3) := by decide +kernel
theorem dX0_leaveTrap_28 : decode cX0_leaveTrap 28 = .ok (.iand, 1) := by decide +kernel
theorem dX0_leaveTrap_29 : decode cX0_leaveTrap 29 = .ok (.iconst 2, 1) := by decide +kernel
theorem dX0_leaveTrap_30 : decode cX0_leaveTrap 30 = .ok (.ior, 1) := by decide +kernel
theorem dX0_leaveTrap_31 : decode cX0_leaveTrap 31 = .ok (.iload_n 2, 1) := by decide +kernel
theorem dX0_leaveTrap_32 : decode cX0_leaveTrap 32 = .ok (.ior, 1) := by decide +kernel
theorem dX0_leaveTrap_33 : decode cX0_leaveTrap 33 = .ok (.iastore, 1) := by decide +kernel
theorem dX0_leaveTrap_34 : decode cX0_leaveTrap 34 = .ok (.aload_n 0, 1) := by decide +kernel
theorem dX0_leaveTrap_35 : decode cX0_leaveTrap 35 = .ok (.iload_n 1, 1) := by decide +kernel
theorem dX0_leaveTrap_36 : decode cX0_leaveTrap 36 = .ok (.iconst 4, 1) := by decide +kernel
theorem dX0_leaveTrap_37 : decode cX0_leaveTrap 37 = .ok (.iand, 1) := by decide +kernel
theorem dX0_leaveTrap_38 : decode cX0_leaveTrap 38 = .ok (.ifCond .eq 7, 3) := by decide +kernel
theorem dX0_leaveTrap_41 : decode cX0_leaveTrap 41 = .ok (.iconst 1, 1) := by decide +kernel
theorem dX0_leaveTrap_42 : decode cX0_leaveTrap 42 = .ok (.goto 4, 3) := by decide +kernel
theorem dX0_leaveTrap_45 : decode cX0_leaveTrap 45 = .ok (.iconst 0, 1) := by decide +kernel
theorem dX0_leaveTrap_46 : decode cX0_leaveTrap 46 = .ok (.putfield 65, 3) := by decide +kernel
theorem dX0_leaveTrap_49 : decode cX0_leaveTrap 49 = .ok (.return_, 1) := by decide +kernel
theorem dX0_tell_0 : decode cX0_tell 0 = .ok (.iload_n 1, 1) := by decide +kernel
theorem dX0_tell_1 : decode cX0_tell 1 = .ok (.ifCond .lt 16, 3) := by decide +kernel
theorem dX0_tell_4 : decode cX0_tell 4 = .ok (.iload_n 1, 1) := by decide +kernel
theorem dX0_tell_5 : decode cX0_tell 5 = .ok (.bipush 8, 2) := by decide +kernel
theorem dX0_tell_7 : decode cX0_tell 7 = .ok (.if_icmp .ge 10, 3) := by decide +kernel
theorem dX0_tell_10 : decode cX0_tell 10 = .ok (.aload_n 0, 1) := by decide +kernel
theorem dX0_tell_11 : decode cX0_tell 11 = .ok (.getfield 18, 3) := by decide +kernel
theorem dX0_tell_14 : decode cX0_tell 14 = .ok (.iload_n 1, 1) := by decide +kernel
theorem dX0_tell_15 : decode cX0_tell 15 = .ok (.iaload, 1) := by decide +kernel
theorem dX0_tell_16 : decode cX0_tell 16 = .ok (.ireturn, 1) := by decide +kernel
theorem dX0_tell_17 : decode cX0_tell 17 = .ok (.iload_n 1, 1) := by decide +kernel
theorem dX0_tell_18 : decode cX0_tell 18 = .ok (.bipush 10, 2) := by decide +kernel
theorem dX0_tell_20 : decode cX0_tell 20 = .ok (.if_icmp .lt 19, 3) := by decide +kernel
theorem dX0_tell_23 : decode cX0_tell 23 = .ok (.iload_n 1, 1) := by decide +kernel
theorem dX0_tell_24 : decode cX0_tell 24 = .ok (.bipush 20, 2) := by decide +kernel
theorem dX0_tell_26 : decode cX0_tell 26 = .ok (.if_icmp .ge 13, 3) := by decide +kernel
theorem dX0_tell_29 : decode cX0_tell 29 = .ok (.aload_n 0, 1) := by decide +kernel
theorem dX0_tell_30 : decode cX0_tell 30 = .ok (.getfield 21, 3) := by decide +kernel
theorem dX0_tell_33 : decode cX0_tell 33 = .ok (.iload_n 1, 1) := by decide +kernel
theorem dX0_tell_34 : decode cX0_tell 34 = .ok (.bipush 10, 2) := by decide +kernel
theorem dX0_tell_36 : decode cX0_tell 36 = .ok (.isub, 1) := by decide +kernel
theorem dX0_tell_37 : decode cX0_tell 37 = .ok (.iaload, 1) := by decide +kernel
theorem dX0_tell_38 : decode cX0_tell 38 = .ok (.ireturn, 1) := by decide +kernel
theorem dX0_tell_39 : decode cX0_tell 39 = .ok (.iload_n 1, 1) := by decide +kernel
theorem dX0_tell_40 : decode cX0_tell 40 = .ok (.tableswitch 110 8 23 #[80, 85, 110, 110, 110, 110, 110, 110, 110, 110, 110, 110, 90, 95, 100, 105], 80) := by decide +kernel
theorem dX0_tell_120 : decode cX0_tell 120 = .ok (.aload_n 0, 1) := by decide +kernel
theorem dX0_tell_121 : decode cX0_tell 121 = .ok (.getfield 62, 3) := by decide +kernel
theorem dX0_tell_124 : decode cX0_tell 124 = .ok (.ireturn, 1) := by decide +kernel
theorem dX0_tell_125 : decode cX0_tell 125 = .ok (.aload_n 0, 1) := by decide +kernel
theorem dX0_tell_126 : decode cX0_tell 126 = .ok (.getfield 65, 3) := by decide +kernel
theorem dX0_tell_129 : decode cX0_tell 129 = .ok (.ireturn, 1) := by decide +kernel
theorem dX0_tell_130 : decode cX0_tell 130 = .ok (.aload_n 0, 1) := by decide +kernel
theorem dX0_tell_131 : decode cX0_tell 131 = .ok (.getfield 56, 3) := by decide +kernel
theorem dX0_tell_134 : decode cX0_tell 134 = .ok (.ireturn, 1) := by decide +kernel
theorem dX0_tell_135 : decode cX0_tell 135 = .ok (.aload_n 0, 1) := by decide +kernel
theorem dX0_tell_136 : decode cX0_tell 136 = .ok (.getfield 59, 3) := by decide +kernel
theorem dX0_tell_139 : decode cX0_tell 139 = .ok (.ireturn, 1) := by decide +kernel
theorem dX0_tell_140 : decode cX0_tell 140 = .ok (.aload_n 0, 1) := by decide +kernel
theorem dX0_tell_141 : decode cX0_tell 141 = .ok (.getfield 68, 3) := by decide +kernel
theorem dX0_tell_144 : decode cX0_tell 144 = .ok (.ireturn, 1) := by decide +kernel
theorem dX0_tell_145 : decode cX0_tell 145 = .ok (.aload_n 0, 1) := by decide +kernel
theorem dX0_tell_146 : decode cX0_tell 146 = .ok (.getfield 71, 3) := by decide +kernel
theorem dX0_tell_149 : decode cX0_tell 149 = .ok (.ireturn, 1) := by decide +kernel
theorem dX0_tell_150 : decode cX0_tell 150 = .ok (.iconst 0, 1) := by decide +kernel
theorem dX0_tell_151 : decode cX0_tell 151 = .ok (.ireturn, 1) := by decide +kernel
theorem dX0_countFaults_0 : decode cX0_countFaults 0 = .ok (.aload_n 0, 1) := by decide +kernel
theorem dX0_countFaults_1 : decode cX0_countFaults 1 = .ok (.getfield 21, 3) := by decide +kernel
theorem dX0_countFaults_4 : decode cX0_countFaults 4 = .ok (.iconst 0, 1) := by decide +kernel
theorem dX0_countFaults_5 : decode cX0_countFaults 5 = .ok (.iaload, 1) := by decide +kernel
theorem dX0_countFaults_6 : decode cX0_countFaults 6 = .ok (.sipush (-1800), 3) := by decide +kernel
theorem dX0_countFaults_9 : decode cX0_countFaults 9 = .ok (.iand, 1) := by decide +kernel
theorem dX0_countFaults_10 : decode cX0_countFaults 10 = .ok (.ifCond .eq 7, 3) := by decide +kernel
theorem dX0_countFaults_13 : decode cX0_countFaults 13 = .ok (.iconst 1, 1) := by decide +kernel
theorem dX0_countFaults_14 : decode cX0_countFaults 14 = .ok (.goto 4, 3) := by decide +kernel
theorem dX0_countFaults_17 : decode cX0_countFaults 17 = .ok (.iconst 0, 1) := by decide +kernel
theorem dX0_countFaults_18 : decode cX0_countFaults 18 = .ok (.istore_n 1, 1) := by decide +kernel
theorem dX0_countFaults_19 : decode cX0_countFaults 19 = .ok (.iload_n 1, 1) := by decide +kernel
theorem dX0_countFaults_20 : decode cX0_countFaults 20 = .ok (.aload_n 0, 1) := by decide +kernel
theorem dX0_countFaults_21 : decode cX0_countFaults 21 = .ok (.getfield 21, 3) := by decide +kernel
theorem dX0_countFaults_24 : decode cX0_countFaults 24 = .ok (.bipush 9, 2) := by decide +kernel
theorem dX0_countFaults_26 : decode cX0_countFaults 26 = .ok (.iaload, 1) := by decide +kernel
theorem dX0_countFaults_27 : decode cX0_countFaults 27 = .ok (.aload_n 0, 1) := by decide +kernel
theorem dX0_countFaults_28 : decode cX0_countFaults 28 = .ok (.getfield 41, 3) := by decide +kernel
theorem dX0_countFaults_31 : decode cX0_countFaults 31 = .ok (.if_icmp .eq 7, 3) := by decide +kernel
theorem dX0_countFaults_34 : decode cX0_countFaults 34 = .ok (.iconst 1, 1) := by decide +kernel
theorem dX0_countFaults_35 : decode cX0_countFaults 35 = .ok (.goto 4, 3) := by decide +kernel
theorem dX0_countFaults_38 : decode cX0_countFaults 38 = .ok (.iconst 0, 1) := by decide +kernel
theorem dX0_countFaults_39 : decode cX0_countFaults 39 = .ok (.iadd, 1) := by decide +kernel
theorem dX0_countFaults_40 : decode cX0_countFaults 40 = .ok (.istore_n 1, 1) := by decide +kernel
theorem dX0_countFaults_41 : decode cX0_countFaults 41 = .ok (.iload_n 1, 1) := by decide +kernel
theorem dX0_countFaults_42 : decode cX0_countFaults 42 = .ok (.aload_n 0, 1) := by decide +kernel
theorem dX0_countFaults_43 : decode cX0_countFaults 43 = .ok (.getfield 65, 3) := by decide +kernel
theorem dX0_countFaults_46 : decode cX0_countFaults 46 = .ok (.ifCond .eq 15, 3) := by decide +kernel
theorem dX0_countFaults_49 : decode cX0_countFaults 49 = .ok (.aload_n 0, 1) := by decide +kernel
theorem dX0_countFaults_50 : decode cX0_countFaults 50 = .ok (.getfield 65, 3) := by decide +kernel
theorem dX0_countFaults_53 : decode cX0_countFaults 53 = .ok (.iconst 1, 1) := by decide +kernel
theorem dX0_countFaults_54 : decode cX0_countFaults 54 = .ok (.if_icmp .eq 7, 3) := by decide +kernel
theorem dX0_countFaults_57 : decode cX0_countFaults 57 = .ok (.iconst 1, 1) := by decide +kernel
theorem dX0_countFaults_58 : decode cX0_countFaults 58 = .ok (.goto 4, 3) := by decide +kernel
theorem dX0_countFaults_61 : decode cX0_countFaults 61 = .ok (.iconst 0, 1) := by decide +kernel
theorem dX0_countFaults_62 : decode cX0_countFaults 62 = .ok (.iadd, 1) := by decide +kernel
theorem dX0_countFaults_63 : decode cX0_countFaults 63 = .ok (.istore_n 1, 1) := by decide +kernel
theorem dX0_countFaults_64 : decode cX0_countFaults 64 = .ok (.iload_n 1, 1) := by decide +kernel
theorem dX0_countFaults_65 : decode cX0_countFaults 65 = .ok (.aload_n 0, 1) := by decide +kernel
theorem dX0_countFaults_66 : decode cX0_countFaults 66 = .ok (.getfield 56, 3) := by decide +kernel
theorem dX0_countFaults_69 : decode cX0_countFaults 69 = .ok (.ifCond .lt 12, 3) := by decide +kernel
theorem dX0_countFaults_72 : decode cX0_countFaults 72 = .ok (.aload_n 0, 1) := by decide +kernel
theorem dX0_countFaults_73 : decode cX0_countFaults 73 = .ok (.getfield 56, 3) := by decide +kernel
theorem dX0_countFaults_76 : decode cX0_countFaults 76 = .ok (.bipush 64, 2) := by decide +kernel
theorem dX0_countFaults_78 : decode cX0_countFaults 78 = .ok (.if_icmp .le 7, 3) := by decide +kernel
theorem dX0_countFaults_81 : decode cX0_countFaults 81 = .ok (.iconst 1, 1) := by decide +kernel
theorem dX0_countFaults_82 : decode cX0_countFaults 82 = .ok (.goto 4, 3) := by decide +kernel
theorem dX0_countFaults_85 : decode cX0_countFaults 85 = .ok (.iconst 0, 1) := by decide +kernel
theorem dX0_countFaults_86 : decode cX0_countFaults 86 = .ok (.iadd, 1) := by decide +kernel
theorem dX0_countFaults_87 : decode cX0_countFaults 87 = .ok (.istore_n 1, 1) := by decide +kernel
theorem dX0_countFaults_88 : decode cX0_countFaults 88 = .ok (.aload_n 0, 1) := by decide +kernel
theorem dX0_countFaults_89 : decode cX0_countFaults 89 = .ok (.getfield 21, 3) := by decide +kernel
theorem dX0_countFaults_92 : decode cX0_countFaults 92 = .ok (.iconst 5, 1) := by decide +kernel
theorem dX0_countFaults_93 : decode cX0_countFaults 93 = .ok (.iaload, 1) := by decide +kernel
theorem dX0_countFaults_94 : decode cX0_countFaults 94 = .ok (.istore_n 2, 1) := by decide +kernel
theorem dX0_countFaults_95 : decode cX0_countFaults 95 = .ok (.iconst 0, 1) := by decide +kernel
theorem dX0_countFaults_96 : decode cX0_countFaults 96 = .ok (.istore_n 3, 1) := by decide +kernel
theorem dX0_countFaults_97 : decode cX0_countFaults 97 = .ok (.iload_n 3, 1) := by decide +kernel
theorem dX0_countFaults_98 : decode cX0_countFaults 98 = .ok (.sipush 256, 3) := by decide +kernel
theorem dX0_countFaults_101 : decode cX0_countFaults 101 = .ok (.if_icmp .ge 91, 3) := by decide +kernel
theorem dX0_countFaults_104 : decode cX0_countFaults 104 = .ok (.aload_n 0, 1) := by decide +kernel
theorem dX0_countFaults_105 : decode cX0_countFaults 105 = .ok (.getfield 24, 3) := by decide +kernel
theorem dX0_countFaults_108 : decode cX0_countFaults 108 = .ok (.iload_n 3, 1) := by decide +kernel
theorem dX0_countFaults_109 : decode cX0_countFaults 109 = .ok (.iaload, 1) := by decide +kernel
theorem dX0_countFaults_110 : decode cX0_countFaults 110 = .ok (.istore 4, 2) := by decide +kernel
theorem dX0_countFaults_112 : decode cX0_countFaults 112 = .ok (.iload_n 2, 1) := by decide +kernel
theorem dX0_countFaults_113 : decode cX0_countFaults 113 = .ok (.ifCond .ge 23, 3) := by decide +kernel
theorem dX0_countFaults_116 : decode cX0_countFaults 116 = .ok (.aload_n 0, 1) := by decide +kernel
theorem dX0_countFaults_117 : decode cX0_countFaults 117 = .ok (.bipush 64, 2) := by decide +kernel
theorem dX0_countFaults_119 : decode cX0_countFaults 119 = .ok (.iload_n 2, 1) := by decide +kernel
theorem dX0_countFaults_120 : decode cX0_countFaults 120 = .ok (.bipush 63, 2) := by decide +kernel
theorem dX0_countFaults_122 : decode cX0_countFaults 122 = .ok (.iand, 1) := by decide +kernel
theorem dX0_countFaults_123 : decode cX0_countFaults 123 = .ok (.imul, 1) := by decide +kernel
theorem dX0_countFaults_124 : decode cX0_countFaults 124 = .ok (.iload_n 3, 1) := by decide +kernel
theorem dX0_countFaults_125 : decode cX0_countFaults 125 = .ok (.iadd, 1) := by decide +kernel
theorem dX0_countFaults_126 : decode cX0_countFaults 126 = .ok (.invokevirtual 89, 3) := by decide +kernel
theorem dX0_countFaults_129 : decode cX0_countFaults 129 = .ok (.ifCond .eq 7, 3) := by decide +kernel
theorem dX0_countFaults_132 : decode cX0_countFaults 132 = .ok (.iconst 1, 1) := by decide +kernel
theorem dX0_countFaults_133 : decode cX0_countFaults 133 = .ok (.goto 4, 3) := by decide +kernel
theorem dX0_countFaults_136 : decode cX0_countFaults 136 = .ok (.iconst 0, 1) := by decide +kernel
theorem dX0_countFaults_137 : decode cX0_countFaults 137 = .ok (.istore 5, 2) := by decide +kernel
theorem dX0_countFaults_139 : decode cX0_countFaults 139 = .ok (.iload 4, 2) := by decide +kernel
theorem dX0_countFaults_141 : decode cX0_countFaults 141 = .ok (.iconst (-1), 1) := by decide +kernel
theorem dX0_countFaults_142 : decode cX0_countFaults 142 = .ok (.if_icmp .eq 24, 3) := by decide +kernel
theorem dX0_countFaults_145 : decode cX0_countFaults 145 = .ok (.iload 4, 2) := by decide +kernel
theorem dX0_countFaults_147 : decode cX0_countFaults 147 = .ok (.ifCond .lt 23, 3) := by decide +kernel
theorem dX0_countFaults_150 : decode cX0_countFaults 150 = .ok (.iload 4, 2) := by decide +kernel
theorem dX0_countFaults_152 : decode cX0_countFaults 152 = .ok (.iconst 3, 1) := by decide +kernel
theorem dX0_countFaults_153 : decode cX0_countFaults 153 = .ok (.ishr, 1) := by decide +kernel
theorem dX0_countFaults_154 : decode cX0_countFaults 154 = .ok (.aload_n 0, 1) := by decide +kernel
theorem dX0_countFaults_155 : decode cX0_countFaults 155 = .ok (.getfield 41, 3) := by decide +kernel
theorem dX0_countFaults_158 : decode cX0_countFaults 158 = .ok (.if_icmp .ge 12, 3) := by decide +kernel
theorem dX0_countFaults_161 : decode cX0_countFaults 161 = .ok (.iload 5, 2) := by decide +kernel
theorem dX0_countFaults_163 : decode cX0_countFaults 163 = .ok (.ifCond .eq 7, 3) := by decide +kernel
theorem dX0_countFaults_166 : decode cX0_countFaults 166 = .ok (.iconst 1, 1) := by decide +kernel
theorem dX0_countFaults_167 : decode cX0_countFaults 167 = .ok (.goto 4, 3) := by decide +kernel
theorem dX0_countFaults_170 : decode cX0_countFaults 170 = .ok (.iconst 0, 1) := by decide +kernel
theorem dX0_countFaults_171 : decode cX0_countFaults 171 = .ok (.istore 6, 2) := by decide +kernel
theorem dX0_countFaults_173 : decode cX0_countFaults 173 = .ok (.iload_n 1, 1) := by decide +kernel
theorem dX0_countFaults_174 : decode cX0_countFaults 174 = .ok (.iload 6, 2) := by decide +kernel
theorem dX0_countFaults_176 : decode cX0_countFaults 176 = .ok (.ifCond .eq 7, 3) := by decide +kernel
theorem dX0_countFaults_179 : decode cX0_countFaults 179 = .ok (.iconst 0, 1) := by decide +kernel
theorem dX0_countFaults_180 : decode cX0_countFaults 180 = .ok (.goto 4, 3) := by decide +kernel
theorem dX0_countFaults_183 : decode cX0_countFaults 183 = .ok (.iconst 1, 1) := by decide +kernel
theorem dX0_countFaults_184 : decode cX0_countFaults 184 = .ok (.iadd, 1) := by decide +kernel
theorem dX0_countFaults_185 : decode cX0_countFaults 185 = .ok (.istore_n 1, 1) := by decide +kernel
theorem dX0_countFaults_186 : decode cX0_countFaults 186 = .ok (.iinc 3 1, 3) := by decide +kernel
theorem dX0_countFaults_189 : decode cX0_countFaults 189 = .ok (.goto (-92), 3) := by decide +kernel
theorem dX0_countFaults_192 : decode cX0_countFaults 192 = .ok (.iload_n 1, 1) := by decide +kernel
theorem dX0_countFaults_193 : decode cX0_countFaults 193 = .ok (.ireturn, 1) := by decide +kernel
end
section
theorem dX1_init_0 : decode cX1_init 0 = .ok (.aload_n 0, 1) := by decide +kernel
theorem dX1_init_1 : decode cX1_init 1 = .ok (.invokespecial 3, 3) := by decide +kernel
theorem dX1_init_4 : decode cX1_init 4 = .ok (.aload_n 0, 1) := by decide +kernel
theorem dX1_init_5 : decode cX1_init 5 = .ok (.sipush 256, 3) := by decide +kernel
theorem dX1_init_8 : decode cX1_init 8 = .ok (.newarray .int, 2) := by decide +kernel
theorem dX1_init_10 : decode cX1_init 10 = .ok (.putfield 9, 3) := by decide +kernel
theorem dX1_init_13 : decode cX1_init 13 = .ok (.aload_n 0, 1) := by decide +kernel
theorem dX1_init_14 : decode cX1_init 14 = .ok (.sipush 256, 3) := by decide +kernel
theorem dX1_init_17 : decode cX1_init 17 = .ok (.newarray .int, 2) := by decide +kernel
theorem dX1_init_19 : decode cX1_init 19 = .ok (.putfield 15, 3) := by decide +kernel
theorem dX1_init_22 : decode cX1_init 22 = .ok (.aload_n 0, 1) := by decide +kernel
theorem dX1_init_23 : decode cX1_init 23 = .ok (.sipush 256, 3) := by decide +kernel
theorem dX1_init_26 : decode cX1_init 26 = .ok (.newarray .int, 2) := by decide +kernel
theorem dX1_init_28 : decode cX1_init 28 = .ok (.putfield 18, 3) := by decide +kernel
theorem dX1_init_31 : decode cX1_init 31 = .ok (.aload_n 0, 1) := by decide +kernel
theorem dX1_init_32 : decode cX1_init 32 = .ok (.sipush 256, 3) := by decide +kernel
theorem dX1_init_35 : decode cX1_init 35 = .ok (.newarray .boolean, 2) := by decide +kernel
theorem dX1_init_37 : decode cX1_init 37 = .ok (.putfield 21, 3) := by decide +kernel
theorem dX1_init_40 : decode cX1_init 40 = .ok (.aload_n 0, 1) := by decide +kernel
theorem dX1_init_41 : decode cX1_init 41 = .ok (.sipush 513, 3) := by decide +kernel
theorem dX1_init_44 : decode cX1_init 44 = .ok (.newarray .int, 2) := by decide +kernel
theorem dX1_init_46 : decode cX1_init 46 = .ok (.putfield 25, 3) := by decide +kernel
theorem dX1_init_49 : decode cX1_init 49 = .ok (.aload_n 0, 1) := by decide +kernel
theorem dX1_init_50 : decode cX1_init 50 = .ok (.sipush 513, 3) := by decide +kernel
theorem dX1_init_53 : decode cX1_init 53 = .ok (.newarray .int, 2) := by decide +kernel
theorem dX1_init_55 : decode cX1_init 55 = .ok (.putfield 28, 3) := by decide +kernel
theorem dX1_init_58 : decode cX1_init 58 = .ok (.aload_n 0, 1) := by decide +kernel
theorem dX1_init_59 : decode cX1_init 59 = .ok (.sipush 513, 3) := by decide +kernel
theorem dX1_init_62 : decode cX1_init 62 = .ok (.newarray .boolean, 2) := by decide +kernel
theorem dX1_init_64 : decode cX1_init 64 = .ok (.putfield 31, 3) := by decide +kernel
theorem dX1_init_67 : decode cX1_init 67 = .ok (.aload_n 0, 1) := by decide +kernel
theorem dX1_init_68 : decode cX1_init 68 = .ok (.sipush 513, 3) := by decide +kernel
theorem dX1_init_71 : decode cX1_init 71 = .ok (.newarray .int, 2) := by decide +kernel
theorem dX1_init_73 : decode cX1_init 73 = .ok (.putfield 34, 3) := by decide +kernel
theorem dX1_init_76 : decode cX1_init 76 = .ok (.aload_n 0, 1) := by decide +kernel
theorem dX1_init_77 : decode cX1_init 77 = .ok (.sipush 513, 3) := by decide +kernel
theorem dX1_init_80 : decode cX1_init 80 = .ok (.newarray .int, 2) := by decide +kernel
theorem dX1_init_82 : decode cX1_init 82 = .ok (.putfield 37, 3) := by decide +kernel
theorem dX1_init_85 : decode cX1_init 85 = .ok (.return_, 1) := by decide +kernel
theorem dX1_renew_0 : decode cX1_renew 0 = .ok (.aload_n 0, 1) := by decide +kernel
theorem dX1_renew_1 : decode cX1_renew 1 = .ok (.iload_n 1, 1) := by decide +kernel
theorem dX1_renew_2 : decode cX1_renew 2 = .ok (.putfield 40, 3) := by decide +kernel
theorem dX1_renew_5 : decode cX1_renew 5 = .ok (.aload_n 0, 1) := by decide +kernel
theorem dX1_renew_6 : decode cX1_renew 6 = .ok (.iconst 0, 1) := by decide +kernel
theorem dX1_renew_7 : decode cX1_renew 7 = .ok (.putfield 44, 3) := by decide +kernel
theorem dX1_renew_10 : decode cX1_renew 10 = .ok (.aload_n 0, 1) := by decide +kernel
theorem dX1_renew_11 : decode cX1_renew 11 = .ok (.iconst 0, 1) := by decide +kernel
theorem dX1_renew_12 : decode cX1_renew 12 = .ok (.putfield 47, 3) := by decide +kernel
theorem dX1_renew_15 : decode cX1_renew 15 = .ok (.aload_n 0, 1) := by decide +kernel
theorem dX1_renew_16 : decode cX1_renew 16 = .ok (.getfield 18, 3) := by decide +kernel
theorem dX1_renew_19 : decode cX1_renew 19 = .ok (.iconst (-1), 1) := by decide +kernel
theorem dX1_renew_20 : decode cX1_renew 20 = .ok (.invokestatic 50, 3) := by decide +kernel
theorem dX1_renew_23 : decode cX1_renew 23 = .ok (.aload_n 0, 1) := by decide +kernel
theorem dX1_renew_24 : decode cX1_renew 24 = .ok (.getfield 25, 3) := by decide +kernel
theorem dX1_renew_27 : decode cX1_renew 27 = .ok (.iconst 0, 1) := by decide +kernel
theorem dX1_renew_28 : decode cX1_renew 28 = .ok (.invokestatic 50, 3) := by decide +kernel
theorem dX1_renew_31 : decode cX1_renew 31 = .ok (.aload_n 0, 1) := by decide +kernel
theorem dX1_renew_32 : decode cX1_renew 32 = .ok (.getfield 28, 3) := by decide +kernel
theorem dX1_renew_35 : decode cX1_renew 35 = .ok (.iconst (-1), 1) := by decide +kernel
theorem dX1_renew_36 : decode cX1_renew 36 = .ok (.invokestatic 50, 3) := by decide +kernel
theorem dX1_renew_39 : decode cX1_renew 39 = .ok (.iconst 0, 1) := by decide +kernel
theorem dX1_renew_40 : decode cX1_renew 40 = .ok (.istore_n 2, 1) := by decide +kernel
theorem dX1_renew_41 : decode cX1_renew 41 = .ok (.iload_n 2, 1) := by decide +kernel
theorem dX1_renew_42 : decode cX1_renew 42 = .ok (.sipush 513, 3) := by decide +kernel
theorem dX1_renew_45 : decode cX1_renew 45 = .ok (.if_icmp .ge 16, 3) := by decide +kernel
theorem dX1_renew_48 : decode cX1_renew 48 = .ok (.aload_n 0, 1) := by decide +kernel
theorem dX1_renew_49 : decode cX1_renew 49 = .ok (.getfield 31, 3) := by decide +kernel
theorem dX1_renew_52 : decode cX1_renew 52 = .ok (.iload_n 2, 1) := by decide +kernel
theorem dX1_renew_53 : decode cX1_renew 53 = .ok (.iconst 0, 1) := by decide +kernel
theorem dX1_renew_54 : decode cX1_renew 54 = .ok (.bastore, 1) := by decide +kernel
theorem dX1_renew_55 : decode cX1_renew 55 = .ok (.iinc 2 1, 3) := by decide +kernel
theorem dX1_renew_58 : decode cX1_renew 58 = .ok (.goto (-17), 3) := by decide +kernel
theorem dX1_renew_61 : decode cX1_renew 61 = .ok (.aload_n 0, 1) := by decide +kernel
theorem dX1_renew_62 : decode cX1_renew 62 = .ok (.getfield 25, 3) := by decide +kernel
theorem dX1_renew_65 : decode cX1_renew 65 = .ok (.iconst 0, 1) := by decide +kernel
theorem dX1_renew_66 : decode cX1_renew 66 = .ok (.iconst 1, 1) := by decide +kernel
theorem dX1_renew_67 : decode cX1_renew 67 = .ok (.iastore, 1) := by decide +kernel
theorem dX1_renew_68 : decode cX1_renew 68 = .ok (.aload_n 0, 1) := by decide +kernel
theorem dX1_renew_69 : decode cX1_renew 69 = .ok (.iconst 0, 1) := by decide +kernel
theorem dX1_renew_70 : decode cX1_renew 70 = .ok (.putfield 56, 3) := by decide +kernel
theorem dX1_renew_73 : decode cX1_renew 73 = .ok (.sipush 512, 3) := by decide +kernel
theorem dX1_renew_76 : decode cX1_renew 76 = .ok (.istore_n 2, 1) := by decide +kernel
theorem dX1_renew_77 : decode cX1_renew 77 = .ok (.iload_n 2, 1) := by decide +kernel
theorem dX1_renew_78 : decode cX1_renew 78 = .ok (.ifCond .le 29, 3) := by decide +kernel
theorem dX1_renew_81 : decode cX1_renew 81 = .ok (.aload_n 0, 1) := by decide +kernel
theorem dX1_renew_82 : decode cX1_renew 82 = .ok (.getfield 34, 3) := by decide +kernel
theorem dX1_renew_85 : decode cX1_renew 85 = .ok (.aload_n 0, 1) := by decide +kernel
theorem dX1_renew_86 : decode cX1_renew 86 = .ok (.getfield 56, 3) := by decide +kernel
theorem dX1_renew_89 : decode cX1_renew 89 = .ok (.iload_n 2, 1) := by decide +kernel
theorem dX1_renew_90 : decode cX1_renew 90 = .ok (.iastore, 1) := by decide +kernel
theorem dX1_renew_91 : decode cX1_renew 91 = .ok (.aload_n 0, 1) := by decide +kernel
theorem dX1_renew_92 : decode cX1_renew 92 = .ok (.dup, 1) := by decide +kernel
theorem dX1_renew_93 : decode cX1_renew 93 = .ok (.getfield 56, 3) := by decide +kernel
theorem dX1_renew_96 : decode cX1_renew 96 = .ok (.iconst 1, 1) := by decide +kernel
theorem dX1_renew_97 : decode cX1_renew 97 = .ok (.iadd, 1) := by decide +kernel
theorem dX1_renew_98 : decode cX1_renew 98 = .ok (.putfield 56, 3) := by decide +kernel
theorem dX1_renew_101 : decode cX1_renew 101 = .ok (.iinc 2 (-1), 3) := by decide +kernel
theorem dX1_renew_104 : decode cX1_renew 104 = .ok (.goto (-27), 3) := by decide +kernel
theorem dX1_renew_107 : decode cX1_renew 107 = .ok (.return_, 1) := by decide +kernel
theorem dX1_lendBlank_0 : decode cX1_lendBlank 0 = .ok (.iconst 0, 1) := by decide +kernel
theorem dX1_lendBlank_1 : decode cX1_lendBlank 1 = .ok (.istore_n 2, 1) := by decide +kernel
theorem dX1_lendBlank_2 : decode cX1_lendBlank 2 = .ok (.iload_n 2, 1) := by decide +kernel
theorem dX1_lendBlank_3 : decode cX1_lendBlank 3 = .ok (.aload_n 1, 1) := by decide +kernel
theorem dX1_lendBlank_4 : decode cX1_lendBlank 4 = .ok (.getfield 59, 3) := by decide +kernel
theorem dX1_lendBlank_7 : decode cX1_lendBlank 7 = .ok (.if_icmp .ge 32, 3) := by decide +kernel
theorem dX1_lendBlank_10 : decode cX1_lendBlank 10 = .ok (.iload_n 2, 1) := by decide +kernel
theorem dX1_lendBlank_11 : decode cX1_lendBlank 11 = .ok (.bipush 64, 2) := by decide +kernel
theorem dX1_lendBlank_13 : decode cX1_lendBlank 13 = .ok (.if_icmp .ge 26, 3) := by decide +kernel
theorem dX1_lendBlank_16 : decode cX1_lendBlank 16 = .ok (.aload_n 1, 1) := by decide +kernel
theorem dX1_lendBlank_17 : decode cX1_lendBlank 17 = .ok (.getfield 62, 3) := by decide +kernel
theorem dX1_lendBlank_20 : decode cX1_lendBlank 20 = .ok (.iload_n 2, 1) := by decide +kernel
theorem dX1_lendBlank_21 : decode cX1_lendBlank 21 = .ok (.iconst 0, 1) := by decide +kernel
theorem dX1_lendBlank_22 : decode cX1_lendBlank 22 = .ok (.iastore, 1) := by decide +kernel
theorem dX1_lendBlank_23 : decode cX1_lendBlank 23 = .ok (.aload_n 0, 1) := by decide +kernel
theorem dX1_lendBlank_24 : decode cX1_lendBlank 24 = .ok (.getfield 25, 3) := by decide +kernel
theorem dX1_lendBlank_27 : decode cX1_lendBlank 27 = .ok (.iconst 0, 1) := by decide +kernel
theorem dX1_lendBlank_28 : decode cX1_lendBlank 28 = .ok (.dup2, 1) := by decide +kernel
theorem dX1_lendBlank_29 : decode cX1_lendBlank 29 = .ok (.iaload, 1) := by decide +kernel
theorem dX1_lendBlank_30 : decode cX1_lendBlank 30 = .ok (.iconst 1, 1) := by decide +kernel
theorem dX1_lendBlank_31 : decode cX1_lendBlank 31 = .ok (.iadd, 1) := by decide +kernel
theorem dX1_lendBlank_32 : decode cX1_lendBlank 32 = .ok (.iastore, 1) := by decide +kernel
theorem dX1_lendBlank_33 : decode cX1_lendBlank 33 = .ok (.iinc 2 1, 3) := by decide +kernel
theorem dX1_lendBlank_36 : decode cX1_lendBlank 36 = .ok (.goto (-34), 3) := by decide +kernel
theorem dX1_lendBlank_39 : decode cX1_lendBlank 39 = .ok (.return_, 1) := by decide +kernel
theorem dX1_shareSheets_0 : decode cX1_shareSheets 0 = .ok (.iconst 0, 1) := by decide +kernel
theorem dX1_shareSheets_1 : decode cX1_shareSheets 1 = .ok (.istore_n 3, 1) := by decide +kernel
theorem dX1_shareSheets_2 : decode cX1_shareSheets 2 = .ok (.iload_n 3, 1) := by decide +kernel
theorem dX1_shareSheets_3 : decode cX1_shareSheets 3 = .ok (.aload_n 1, 1) := by decide +kernel
theorem dX1_shareSheets_4 : decode cX1_shareSheets 4 = .ok (.getfield 59, 3) := by decide +kernel
theorem dX1_shareSheets_7 : decode cX1_shareSheets 7 = .ok (.if_icmp .ge 51, 3) := by decide +kernel
theorem dX1_shareSheets_10 : decode cX1_shareSheets 10 = .ok (.iload_n 3, 1) := by decide +kernel
theorem dX1_shareSheets_11 : decode cX1_shareSheets 11 = .ok (.bipush 64, 2) := by decide +kernel
theorem dX1_shareSheets_13 : decode cX1_shareSheets 13 = .ok (.if_icmp .ge 45, 3) := by decide +kernel
theorem dX1_shareSheets_16 : decode cX1_shareSheets 16 = .ok (.aload_n 1, 1) := by decide +kernel
theorem dX1_shareSheets_17 : decode cX1_shareSheets 17 = .ok (.getfield 62, 3) := by decide +kernel
theorem dX1_shareSheets_20 : decode cX1_shareSheets 20 = .ok (.iload_n 3, 1) := by decide +kernel
theorem dX1_shareSheets_21 : decode cX1_shareSheets 21 = .ok (.iaload, 1) := by decide +kernel
theorem dX1_shareSheets_22 : decode cX1_shareSheets 22 = .ok (.istore 4, 2) := by decide +kernel
theorem dX1_shareSheets_24 : decode cX1_shareSheets 24 = .ok (.aload_n 2, 1) := by decide +kernel
theorem dX1_shareSheets_25 : decode cX1_shareSheets 25 = .ok (.getfield 62, 3) := by decide +kernel
theorem dX1_shareSheets_28 : decode cX1_shareSheets 28 = .ok (.iload_n 3, 1) := by decide +kernel
theorem dX1_shareSheets_29 : decode cX1_shareSheets 29 = .ok (.iload 4, 2) := by decide +kernel
theorem dX1_shareSheets_31 : decode cX1_shareSheets 31 = .ok (.iastore, 1) := by decide +kernel
theorem dX1_shareSheets_32 : decode cX1_shareSheets 32 = .ok (.aload_n 0, 1) := by decide +kernel
theorem dX1_shareSheets_33 : decode cX1_shareSheets 33 = .ok (.iload 4, 2) := by decide +kernel
theorem dX1_shareSheets_35 : decode cX1_shareSheets 35 = .ok (.invokevirtual 65, 3) := by decide +kernel
theorem dX1_shareSheets_38 : decode cX1_shareSheets 38 = .ok (.ifCond .eq 14, 3) := by decide +kernel
theorem dX1_shareSheets_41 : decode cX1_shareSheets 41 = .ok (.aload_n 0, 1) := by decide +kernel
theorem dX1_shareSheets_42 : decode cX1_shareSheets 42 = .ok (.getfield 25, 3) := by decide +kernel
theorem dX1_shareSheets_45 : decode cX1_shareSheets 45 = .ok (.iload 4, 2) := by decide +kernel
theorem dX1_shareSheets_47 : decode cX1_shareSheets 47 = .ok (.dup2, 1) := by decide +kernel
theorem dX1_shareSheets_48 : decode cX1_shareSheets 48 = .ok (.iaload, 1) := by decide +kernel
theorem dX1_shareSheets_49 : decode cX1_shareSheets 49 = .ok (.iconst 1, 1) := by decide +kernel
theorem dX1_shareSheets_50 : decode cX1_shareSheets 50 = .ok (.iadd, 1) := by decide +kernel
theorem dX1_shareSheets_51 : decode cX1_shareSheets 51 = .ok (.iastore, 1) := by decide +kernel
theorem dX1_shareSheets_52 : decode cX1_shareSheets 52 = .ok (.iinc 3 1, 3) := by decide +kernel
theorem dX1_shareSheets_55 : decode cX1_shareSheets 55 = .ok (.goto (-53), 3) := by decide +kernel
theorem dX1_shareSheets_58 : decode cX1_shareSheets 58 = .ok (.return_, 1) := by decide +kernel
theorem dX1_release_0 : decode cX1_release 0 = .ok (.iconst 0, 1) := by decide +kernel
theorem dX1_release_1 : decode cX1_release 1 = .ok (.istore_n 2, 1) := by decide +kernel
theorem dX1_release_2 : decode cX1_release 2 = .ok (.iload_n 2, 1) := by decide +kernel
theorem dX1_release_3 : decode cX1_release 3 = .ok (.aload_n 1, 1) := by decide +kernel
theorem dX1_release_4 : decode cX1_release 4 = .ok (.getfield 59, 3) := by decide +kernel
theorem dX1_release_7 : decode cX1_release 7 = .ok (.if_icmp .ge 54, 3) := by decide +kernel
theorem dX1_release_10 : decode cX1_release 10 = .ok (.iload_n 2, 1) := by decide +kernel
theorem dX1_release_11 : decode cX1_release 11 = .ok (.bipush 64, 2) := by decide +kernel
theorem dX1_release_13 : decode cX1_release 13 = .ok (.if_icmp .ge 48, 3) := by decide +kernel
theorem dX1_release_16 : decode cX1_release 16 = .ok (.aload_n 1, 1) := by decide +kernel
theorem dX1_release_17 : decode cX1_release 17 = .ok (.getfield 62, 3) := by decide +kernel
theorem dX1_release_20 : decode cX1_release 20 = .ok (.iload_n 2, 1) := by decide +kernel
theorem dX1_release_21 : decode cX1_release 21 = .ok (.iaload, 1) := by decide +kernel
theorem dX1_release_22 : decode cX1_release 22 = .ok (.istore_n 3, 1) := by decide +kernel
theorem dX1_release_23 : decode cX1_release 23 = .ok (.aload_n 0, 1) := by decide +kernel
theorem dX1_release_24 : decode cX1_release 24 = .ok (.iload_n 3, 1) := by decide +kernel
theorem dX1_release_25 : decode cX1_release 25 = .ok (.invokevirtual 65, 3) := by decide +kernel
theorem dX1_release_28 : decode cX1_release 28 = .ok (.ifCond .eq 27, 3) := by decide +kernel
theorem dX1_release_31 : decode cX1_release 31 = .ok (.aload_n 0, 1) := by decide +kernel
theorem dX1_release_32 : decode cX1_release 32 = .ok (.getfield 25, 3) := by decide +kernel
theorem dX1_release_35 : decode cX1_release 35 = .ok (.iload_n 3, 1) := by decide +kernel
theorem dX1_release_36 : decode cX1_release 36 = .ok (.dup2, 1) := by decide +kernel
theorem dX1_release_37 : decode cX1_release 37 = .ok (.iaload, 1) := by decide +kernel
theorem dX1_release_38 : decode cX1_release 38 = .ok (.iconst 1, 1) := by decide +kernel
theorem dX1_release_39 : decode cX1_release 39 = .ok (.isub, 1) := by decide +kernel
theorem dX1_release_40 : decode cX1_release 40 = .ok (.iastore, 1) := by decide +kernel
theorem dX1_release_41 : decode cX1_release 41 = .ok (.aload_n 0, 1) := by decide +kernel
theorem dX1_release_42 : decode cX1_release 42 = .ok (.getfield 25, 3) := by decide +kernel
theorem dX1_release_45 : decode cX1_release 45 = .ok (.iload_n 3, 1) := by decide +kernel
theorem dX1_release_46 : decode cX1_release 46 = .ok (.iaload, 1) := by decide +kernel
theorem dX1_release_47 : decode cX1_release 47 = .ok (.ifCond .ne 8, 3) := by decide +kernel
theorem dX1_release_50 : decode cX1_release 50 = .ok (.aload_n 0, 1) := by decide +kernel
theorem dX1_release_51 : decode cX1_release 51 = .ok (.iload_n 3, 1) := by decide +kernel
theorem dX1_release_52 : decode cX1_release 52 = .ok (.invokevirtual 69, 3) := by decide +kernel
theorem dX1_release_55 : decode cX1_release 55 = .ok (.iinc 2 1, 3) := by decide +kernel
theorem dX1_release_58 : decode cX1_release 58 = .ok (.goto (-56), 3) := by decide +kernel
theorem dX1_release_61 : decode cX1_release 61 = .ok (.return_, 1) := by decide +kernel
theorem dX1_read_0 : decode cX1_read 0 = .ok (.aload_n 1, 1) := by decide +kernel
theorem dX1_read_1 : decode cX1_read 1 = .ok (.iload_n 2, 1) := by decide +kernel
theorem dX1_read_2 : decode cX1_read 2 = .ok (.invokevirtual 73, 3) := by decide +kernel
theorem dX1_read_5 : decode cX1_read 5 = .ok (.ifCond .eq 19, 3) := by decide +kernel
theorem dX1_read_8 : decode cX1_read 8 = .ok (.aload_n 0, 1) := by decide +kernel
theorem dX1_read_9 : decode cX1_read 9 = .ok (.aload_n 1, 1) := by decide +kernel
theorem dX1_read_10 : decode cX1_read 10 = .ok (.getfield 62, 3) := by decide +kernel
theorem dX1_read_13 : decode cX1_read 13 = .ok (.iload_n 2, 1) := by decide +kernel
theorem dX1_read_14 : decode cX1_read 14 = .ok (.bipush 6, 2) := by decide +kernel
theorem dX1_read_16 : decode cX1_read 16 = .ok (.ishr, 1) := by decide +kernel
theorem dX1_read_17 : decode cX1_read 17 = .ok (.iaload, 1) := by decide +kernel
theorem dX1_read_18 : decode cX1_read 18 = .ok (.invokevirtual 76, 3) := by decide +kernel
theorem dX1_read_21 : decode cX1_read 21 = .ok (.goto 4, 3) := by decide +kernel
theorem dX1_read_24 : decode cX1_read 24 = .ok (.iconst (-1), 1) := by decide +kernel
theorem dX1_read_25 : decode cX1_read 25 = .ok (.istore_n 3, 1) := by decide +kernel
theorem dX1_read_26 : decode cX1_read 26 = .ok (.iload_n 3, 1) := by decide +kernel
theorem dX1_read_27 : decode cX1_read 27 = .ok (.iconst (-1), 1) := by decide +kernel
theorem dX1_read_28 : decode cX1_read 28 = .ok (.if_icmp .ne 7, 3) := by decide +kernel
theorem dX1_read_31 : decode cX1_read 31 = .ok (.iconst 0, 1) := by decide +kernel
theorem dX1_read_32 : decode cX1_read 32 = .ok (.goto 17, 3) := by decide +kernel
theorem dX1_read_35 : decode cX1_read 35 = .ok (.aload_n 0, 1) := by decide +kernel
theorem dX1_read_36 : decode cX1_read 36 = .ok (.getfield 9, 3) := by decide +kernel
theorem dX1_read_39 : decode cX1_read 39 = .ok (.iload_n 3, 1) := by decide +kernel
theorem dX1_read_40 : decode cX1_read 40 = .ok (.bipush 64, 2) := by decide +kernel
theorem dX1_read_42 : decode cX1_read 42 = .ok (.imul, 1) := by decide +kernel
theorem dX1_read_43 : decode cX1_read 43 = .ok (.iload_n 2, 1) := by decide +kernel
theorem dX1_read_44 : decode cX1_read 44 = .ok (.bipush 63, 2) := by decide +kernel
theorem dX1_read_46 : decode cX1_read 46 = .ok (.iand, 1) := by decide +kernel
theorem dX1_read_47 : decode cX1_read 47 = .ok (.iadd, 1) := by decide +kernel
theorem dX1_read_48 : decode cX1_read 48 = .ok (.iaload, 1) := by decide +kernel
theorem dX1_read_49 : decode cX1_read 49 = .ok (.ireturn, 1) := by decide +kernel
theorem dX1_write_0 : decode cX1_write 0 = .ok (.aload_n 1, 1) := by decide +kernel
theorem dX1_write_1 : decode cX1_write 1 = .ok (.iload_n 2, 1) := by decide +kernel
theorem dX1_write_2 : decode cX1_write 2 = .ok (.invokevirtual 73, 3) := by decide +kernel
theorem dX1_write_5 : decode cX1_write 5 = .ok (.ifCond .eq 19, 3) := by decide +kernel
theorem dX1_write_8 : decode cX1_write 8 = .ok (.aload_n 0, 1) := by decide +kernel
theorem dX1_write_9 : decode cX1_write 9 = .ok (.aload_n 1, 1) := by decide +kernel
theorem dX1_write_10 : decode cX1_write 10 = .ok (.getfield 62, 3) := by decide +kernel
theorem dX1_write_13 : decode cX1_write 13 = .ok (.iload_n 2, 1) := by decide +kernel
theorem dX1_write_14 : decode cX1_write 14 = .ok (.bipush 6, 2) := by decide +kernel
theorem dX1_write_16 : decode cX1_write 16 = .ok (.ishr, 1) := by decide +kernel
theorem dX1_write_17 : decode cX1_write 17 = .ok (.iaload, 1) := by decide +kernel
theorem dX1_write_18 : decode cX1_write 18 = .ok (.invokevirtual 76, 3) := by decide +kernel
theorem dX1_write_21 : decode cX1_write 21 = .ok (.goto 4, 3) := by decide +kernel
theorem dX1_write_24 : decode cX1_write 24 = .ok (.iconst (-1), 1) := by decide +kernel
theorem dX1_write_25 : decode cX1_write 25 = .ok (.istore 4, 2) := by decide +kernel
theorem dX1_write_27 : decode cX1_write 27 = .ok (.iload 4, 2) := by decide +kernel
theorem dX1_write_29 : decode cX1_write 29 = .ok (.iconst (-1), 1) := by decide +kernel
theorem dX1_write_30 : decode cX1_write 30 = .ok (.if_icmp .eq 22, 3) := by decide +kernel
theorem dX1_write_33 : decode cX1_write 33 = .ok (.aload_n 0, 1) := by decide +kernel
theorem dX1_write_34 : decode cX1_write 34 = .ok (.getfield 9, 3) := by decide +kernel
theorem dX1_write_37 : decode cX1_write 37 = .ok (.iload 4, 2) := by decide +kernel
theorem dX1_write_39 : decode cX1_write 39 = .ok (.bipush 64, 2) := by decide +kernel
theorem dX1_write_41 : decode cX1_write 41 = .ok (.imul, 1) := by decide +kernel
theorem dX1_write_42 : decode cX1_write 42 = .ok (.iload_n 2, 1) := by decide +kernel
theorem dX1_write_43 : decode cX1_write 43 = .ok (.bipush 63, 2) := by decide +kernel
theorem dX1_write_45 : decode cX1_write 45 = .ok (.iand, 1) := by decide +kernel
theorem dX1_write_46 : decode cX1_write 46 = .ok (.iadd, 1) := by decide +kernel
theorem dX1_write_47 : decode cX1_write 47 = .ok (.iaload, 1) := by decide +kernel
theorem dX1_write_48 : decode cX1_write 48 = .ok (.iload_n 3, 1) := by decide +kernel
theorem dX1_write_49 : decode cX1_write 49 = .ok (.if_icmp .ne 4, 3) := by decide +kernel
theorem dX1_write_52 : decode cX1_write 52 = .ok (.return_, 1) := by decide +kernel
theorem dX1_write_53 : decode cX1_write 53 = .ok (.aload_n 0, 1) := by decide +kernel
theorem dX1_write_54 : decode cX1_write 54 = .ok (.aload_n 1, 1) := by decide +kernel
theorem dX1_write_55 : decode cX1_write 55 = .ok (.iload_n 2, 1) := by decide +kernel
theorem dX1_write_56 : decode cX1_write 56 = .ok (.bipush 6, 2) := by decide +kernel
theorem dX1_write_58 : decode cX1_write 58 = .ok (.ishr, 1) := by decide +kernel
theorem dX1_write_59 : decode cX1_write 59 = .ok (.iload 4, 2) := by decide +kernel
theorem dX1_write_61 : decode cX1_write 61 = .ok (.invokevirtual 80, 3) := by decide +kernel
theorem dX1_write_64 : decode cX1_write 64 = .ok (.istore 4, 2) := by decide +kernel
theorem dX1_write_66 : decode cX1_write 66 = .ok (.iload 4, 2) := by decide +kernel
theorem dX1_write_68 : decode cX1_write 68 = .ok (.iconst (-1), 1) := by decide +kernel
theorem dX1_write_69 : decode cX1_write 69 = .ok (.if_icmp .eq 19, 3) := by decide +kernel
theorem dX1_write_72 : decode cX1_write 72 = .ok (.aload_n 0, 1) := by decide +kernel
theorem dX1_write_73 : decode cX1_write 73 = .ok (.getfield 9, 3) := by decide +kernel
theorem dX1_write_76 : decode cX1_write 76 = .ok (.iload 4, 2) := by decide +kernel
theorem dX1_write_78 : decode cX1_write 78 = .ok (.bipush 64, 2) := by decide +kernel
theorem dX1_write_80 : decode cX1_write 80 = .ok (.imul, 1) := by decide +kernel
theorem dX1_write_81 : decode cX1_write 81 = .ok (.iload_n 2, 1) := by decide +kernel
theorem dX1_write_82 : decode cX1_write 82 = .ok (.bipush 63, 2) := by decide +kernel
theorem dX1_write_84 : decode cX1_write 84 = .ok (.iand, 1) := by decide +kernel
theorem dX1_write_85 : decode cX1_write 85 = .ok (.iadd, 1) := by decide +kernel
theorem dX1_write_86 : decode cX1_write 86 = .ok (.iload_n 3, 1) := by decide +kernel
theorem dX1_write_87 : decode cX1_write 87 = .ok (.iastore, 1) := by decide +kernel
theorem dX1_write_88 : decode cX1_write 88 = .ok (.return_, 1) := by decide +kernel
theorem dX1_saveFrame_0 : decode cX1_saveFrame 0 = .ok (.aload_n 0, 1) := by decide +kernel
theorem dX1_saveFrame_1 : decode cX1_saveFrame 1 = .ok (.aload_n 1, 1) := by decide +kernel
theorem dX1_saveFrame_2 : decode cX1_saveFrame 2 = .ok (.getfield 62, 3) := by decide +kernel
theorem dX1_saveFrame_5 : decode cX1_saveFrame 5 = .ok (.iload_n 2, 1) := by decide +kernel
theorem dX1_saveFrame_6 : decode cX1_saveFrame 6 = .ok (.bipush 63, 2) := by decide +kernel
theorem dX1_saveFrame_8 : decode cX1_saveFrame 8 = .ok (.iand, 1) := by decide +kernel
theorem dX1_saveFrame_9 : decode cX1_saveFrame 9 = .ok (.iaload, 1) := by decide +kernel
theorem dX1_saveFrame_10 : decode cX1_saveFrame 10 = .ok (.invokevirtual 76, 3) := by decide +kernel
theorem dX1_saveFrame_13 : decode cX1_saveFrame 13 = .ok (.istore 4, 2) := by decide +kernel
theorem dX1_saveFrame_15 : decode cX1_saveFrame 15 = .ok (.iload 4, 2) := by decide +kernel
theorem dX1_saveFrame_17 : decode cX1_saveFrame 17 = .ok (.iconst (-1), 1) := by decide +kernel
theorem dX1_saveFrame_18 : decode cX1_saveFrame 18 = .ok (.if_icmp .eq 28, 3) := by decide +kernel
theorem dX1_saveFrame_21 : decode cX1_saveFrame 21 = .ok (.aload_n 0, 1) := by decide +kernel
theorem dX1_saveFrame_22 : decode cX1_saveFrame 22 = .ok (.getfield 9, 3) := by decide +kernel
theorem dX1_saveFrame_25 : decode cX1_saveFrame 25 = .ok (.iload 4, 2) := by decide +kernel
theorem dX1_saveFrame_27 : decode cX1_saveFrame 27 = .ok (.bipush 64, 2) := by decide +kernel
theorem dX1_saveFrame_29 : decode cX1_saveFrame 29 = .ok (.imul, 1) := by decide +kernel
theorem dX1_saveFrame_30 : decode cX1_saveFrame 30 = .ok (.aload_n 1, 1) := by decide +kernel
theorem dX1_saveFrame_31 : decode cX1_saveFrame 31 = .ok (.getfield 84, 3) := by decide +kernel
theorem dX1_saveFrame_34 : decode cX1_saveFrame 34 = .ok (.iload_n 3, 1) := by decide +kernel
theorem dX1_saveFrame_35 : decode cX1_saveFrame 35 = .ok (.bipush 15, 2) := by decide +kernel
theorem dX1_saveFrame_37 : decode cX1_saveFrame 37 = .ok (.iand, 1) := by decide +kernel
theorem dX1_saveFrame_38 : decode cX1_saveFrame 38 = .ok (.bipush 64, 2) := by decide +kernel
theorem dX1_saveFrame_40 : decode cX1_saveFrame 40 = .ok (.imul, 1) := by decide +kernel
theorem dX1_saveFrame_41 : decode cX1_saveFrame 41 = .ok (.bipush 64, 2) := by decide +kernel
theorem dX1_saveFrame_43 : decode cX1_saveFrame 43 = .ok (.invokestatic 87, 3) := by decide +kernel
theorem dX1_saveFrame_46 : decode cX1_saveFrame 46 = .ok (.return_, 1) := by decide +kernel
theorem dX1_loadFrame_0 : decode cX1_loadFrame 0 = .ok (.aload_n 0, 1) := by decide +kernel
theorem dX1_loadFrame_1 : decode cX1_loadFrame 1 = .ok (.aload_n 1, 1) := by decide +kernel
theorem dX1_loadFrame_2 : decode cX1_loadFrame 2 = .ok (.getfield 62, 3) := by decide +kernel
theorem dX1_loadFrame_5 : decode cX1_loadFrame 5 = .ok (.iload_n 2, 1) := by decide +kernel
theorem dX1_loadFrame_6 : decode cX1_loadFrame 6 = .ok (.bipush 63, 2) := by decide +kernel
theorem dX1_loadFrame_8 : decode cX1_loadFrame 8 = .ok (.iand, 1) := by decide +kernel
theorem dX1_loadFrame_9 : decode cX1_loadFrame 9 = .ok (.iaload, 1) := by decide +kernel
theorem dX1_loadFrame_10 : decode cX1_loadFrame 10 = .ok (.invokevirtual 76, 3) := by decide +kernel
theorem dX1_loadFrame_13 : decode cX1_loadFrame 13 = .ok (.istore 4, 2) := by decide +kernel
theorem dX1_loadFrame_15 : decode cX1_loadFrame 15 = .ok (.iload 4, 2) := by decide +kernel
theorem dX1_loadFrame_17 : decode cX1_loadFrame 17 = .ok (.iconst (-1), 1) := by decide +kernel
theorem dX1_loadFrame_18 : decode cX1_loadFrame 18 = .ok (.if_icmp .eq 16, 3) := by decide +kernel
theorem dX1_loadFrame_21 : decode cX1_loadFrame 21 = .ok (.aload_n 0, 1) := by decide +kernel
theorem dX1_loadFrame_22 : decode cX1_loadFrame 22 = .ok (.aload_n 1, 1) := by decide +kernel
theorem dX1_loadFrame_23 : decode cX1_loadFrame 23 = .ok (.iload_n 2, 1) := by decide +kernel
theorem dX1_loadFrame_24 : decode cX1_loadFrame 24 = .ok (.bipush 63, 2) := by decide +kernel
theorem dX1_loadFrame_26 : decode cX1_loadFrame 26 = .ok (.iand, 1) := by decide +kernel
theorem dX1_loadFrame_27 : decode cX1_loadFrame 27 = .ok (.iload 4, 2) := by decide +kernel
theorem dX1_loadFrame_29 : decode cX1_loadFrame 29 = .ok (.invokevirtual 80, 3) := by decide +kernel
theorem dX1_loadFrame_32 : decode cX1_loadFrame 32 = .ok (.istore 4, 2) := by decide +kernel
theorem dX1_loadFrame_34 : decode cX1_loadFrame 34 = .ok (.iload 4, 2) := by decide +kernel
theorem dX1_loadFrame_36 : decode cX1_loadFrame 36 = .ok (.iconst (-1), 1) := by decide +kernel
theorem dX1_loadFrame_37 : decode cX1_loadFrame 37 = .ok (.if_icmp .eq 28, 3) := by decide +kernel
theorem dX1_loadFrame_40 : decode cX1_loadFrame 40 = .ok (.aload_n 1, 1) := by decide +kernel
theorem dX1_loadFrame_41 : decode cX1_loadFrame 41 = .ok (.getfield 84, 3) := by decide +kernel
theorem dX1_loadFrame_44 : decode cX1_loadFrame 44 = .ok (.iload_n 3, 1) := by decide +kernel
theorem dX1_loadFrame_45 : decode cX1_loadFrame 45 = .ok (.bipush 15, 2) := by decide +kernel
theorem dX1_loadFrame_47 : decode cX1_loadFrame 47 = .ok (.iand, 1) := by decide +kernel
theorem dX1_loadFrame_48 : decode cX1_loadFrame 48 = .ok (.bipush 64, 2) := by decide +kernel
theorem dX1_loadFrame_50 : decode cX1_loadFrame 50 = .ok (.imul, 1) := by decide +kernel
theorem dX1_loadFrame_51 : decode cX1_loadFrame 51 = .ok (.aload_n 0, 1) := by decide +kernel
theorem dX1_loadFrame_52 : decode cX1_loadFrame 52 = .ok (.getfield 9, 3) := by decide +kernel
theorem dX1_loadFrame_55 : decode cX1_loadFrame 55 = .ok (.iload 4, 2) := by decide +kernel
theorem dX1_loadFrame_57 : decode cX1_loadFrame 57 = .ok (.bipush 64, 2) := by decide +kernel
theorem dX1_loadFrame_59 : decode cX1_loadFrame 59 = .ok (.imul, 1) := by decide +kernel
theorem dX1_loadFrame_60 : decode cX1_loadFrame 60 = .ok (.bipush 64, 2) := by decide +kernel
theorem dX1_loadFrame_62 : decode cX1_loadFrame 62 = .ok (.invokestatic 87, 3) := by decide +kernel
theorem dX1_loadFrame_65 : decode cX1_loadFrame 65 = .ok (.return_, 1) := by decide +kernel
theorem dX1_countFaults_0 : decode cX1_countFaults 0 = .ok (.aload_n 0, 1) := by decide +kernel
theorem dX1_countFaults_1 : decode cX1_countFaults 1 = .ok (.aload_n 1, 1) := by decide +kernel
theorem dX1_countFaults_2 : decode cX1_countFaults 2 = .ok (.invokevirtual 93, 3) := by decide +kernel
theorem dX1_countFaults_5 : decode cX1_countFaults 5 = .ok (.aload_n 0, 1) := by decide +kernel
theorem dX1_countFaults_6 : decode cX1_countFaults 6 = .ok (.invokevirtual 97, 3) := by decide +kernel
theorem dX1_countFaults_9 : decode cX1_countFaults 9 = .ok (.iadd, 1) := by decide +kernel
theorem dX1_countFaults_10 : decode cX1_countFaults 10 = .ok (.aload_n 0, 1) := by decide +kernel
theorem dX1_countFaults_11 : decode cX1_countFaults 11 = .ok (.invokevirtual 101, 3) := by decide +kernel
theorem dX1_countFaults_14 : decode cX1_countFaults 14 = .ok (.iadd, 1) := by decide +kernel
theorem dX1_countFaults_15 : decode cX1_countFaults 15 = .ok (.aload_n 0, 1) := by decide +kernel
theorem dX1_countFaults_16 : decode cX1_countFaults 16 = .ok (.invokevirtual 104, 3) := by decide +kernel
theorem dX1_countFaults_19 : decode cX1_countFaults 19 = .ok (.iadd, 1) := by decide +kernel
theorem dX1_countFaults_20 : decode cX1_countFaults 20 = .ok (.ireturn, 1) := by decide +kernel
theorem dX1_isSheet_0 : decode cX1_isSheet 0 = .ok (.iload_n 1, 1) := by decide +kernel
theorem dX1_isSheet_1 : decode cX1_isSheet 1 = .ok (.ifCond .lt 14, 3) := by decide +kernel
theorem dX1_isSheet_4 : decode cX1_isSheet 4 = .ok (.iload_n 1, 1) := by decide +kernel
theorem dX1_isSheet_5 : decode cX1_isSheet 5 = .ok (.sipush 513, 3) := by decide +kernel
theorem dX1_isSheet_8 : decode cX1_isSheet 8 = .ok (.if_icmp .ge 7, 3) := by decide +kernel
theorem dX1_isSheet_11 : decode cX1_isSheet 11 = .ok (.iconst 1, 1) := by decide +kernel
theorem dX1_isSheet_12 : decode cX1_isSheet 12 = .ok (.goto 4, 3) := by decide +kernel
theorem dX1_isSheet_15 : decode cX1_isSheet 15 = .ok (.iconst 0, 1) := by decide +kernel
theorem dX1_isSheet_16 : decode cX1_isSheet 16 = .ok (.ireturn, 1) := by decide +kernel
theorem dX1_bring_0 : decode cX1_bring 0 = .ok (.aload_n 0, 1) := by decide +kernel
theorem dX1_bring_1 : decode cX1_bring 1 = .ok (.iload_n 1, 1) := by decide +kernel
theorem dX1_bring_2 : decode cX1_bring 2 = .ok (.invokevirtual 65, 3) := by decide +kernel
theorem dX1_bring_5 : decode cX1_bring 5 = .ok (.ifCond .ne 5, 3) := by decide +kernel
theorem dX1_bring_8 : decode cX1_bring 8 = .ok (.iconst (-1), 1) := by decide +kernel
theorem dX1_bring_9 : decode cX1_bring 9 = .ok (.ireturn, 1) := by decide +kernel
theorem dX1_bring_10 : decode cX1_bring 10 = .ok (.aload_n 0, 1) := by decide +kernel
theorem dX1_bring_11 : decode cX1_bring 11 = .ok (.getfield 28, 3) := by decide +kernel
theorem dX1_bring_14 : decode cX1_bring 14 = .ok (.iload_n 1, 1) := by decide +kernel
theorem dX1_bring_15 : decode cX1_bring 15 = .ok (.iaload, 1) := by decide +kernel
theorem dX1_bring_16 : decode cX1_bring 16 = .ok (.istore_n 2, 1) := by decide +kernel
theorem dX1_bring_17 : decode cX1_bring 17 = .ok (.iload_n 2, 1) := by decide +kernel
theorem dX1_bring_18 : decode cX1_bring 18 = .ok (.iconst (-1), 1) := by decide +kernel
theorem dX1_bring_19 : decode cX1_bring 19 = .ok (.if_icmp .ne 51, 3) := by decide +kernel
theorem dX1_bring_22 : decode cX1_bring 22 = .ok (.aload_n 0, 1) := by decide +kernel
theorem dX1_bring_23 : decode cX1_bring 23 = .ok (.iconst (-1), 1) := by decide +kernel
theorem dX1_bring_24 : decode cX1_bring 24 = .ok (.invokevirtual 107, 3) := by decide +kernel
theorem dX1_bring_27 : decode cX1_bring 27 = .ok (.istore_n 2, 1) := by decide +kernel
theorem dX1_bring_28 : decode cX1_bring 28 = .ok (.iload_n 2, 1) := by decide +kernel
theorem dX1_bring_29 : decode cX1_bring 29 = .ok (.iconst (-1), 1) := by decide +kernel
theorem dX1_bring_30 : decode cX1_bring 30 = .ok (.if_icmp .ne 5, 3) := by decide +kernel
theorem dX1_bring_33 : decode cX1_bring 33 = .ok (.iconst (-1), 1) := by decide +kernel
theorem dX1_bring_34 : decode cX1_bring 34 = .ok (.ireturn, 1) := by decide +kernel
theorem dX1_bring_35 : decode cX1_bring 35 = .ok (.aload_n 0, 1) := by decide +kernel
theorem dX1_bring_36 : decode cX1_bring 36 = .ok (.getfield 15, 3) := by decide +kernel
theorem dX1_bring_39 : decode cX1_bring 39 = .ok (.iload_n 1, 1) := by decide +kernel
theorem dX1_bring_40 : decode cX1_bring 40 = .ok (.bipush 64, 2) := by decide +kernel
theorem dX1_bring_42 : decode cX1_bring 42 = .ok (.imul, 1) := by decide +kernel
theorem dX1_bring_43 : decode cX1_bring 43 = .ok (.aload_n 0, 1) := by decide +kernel
theorem dX1_bring_44 : decode cX1_bring 44 = .ok (.getfield 9, 3) := by decide +kernel
theorem dX1_bring_47 : decode cX1_bring 47 = .ok (.iload_n 2, 1) := by decide +kernel
theorem dX1_bring_48 : decode cX1_bring 48 = .ok (.bipush 64, 2) := by decide +kernel
theorem dX1_bring_50 : decode cX1_bring 50 = .ok (.imul, 1) := by decide +kernel
theorem dX1_bring_51 : decode cX1_bring 51 = .ok (.bipush 64, 2) := by decide +kernel
theorem dX1_bring_53 : decode cX1_bring 53 = .ok (.invokestatic 87, 3) := by decide +kernel
theorem dX1_bring_56 : decode cX1_bring 56 = .ok (.aload_n 0, 1) := by decide +kernel
theorem dX1_bring_57 : decode cX1_bring 57 = .ok (.getfield 18, 3) := by decide +kernel
theorem dX1_bring_60 : decode cX1_bring 60 = .ok (.iload_n 2, 1) := by decide +kernel
theorem dX1_bring_61 : decode cX1_bring 61 = .ok (.iload_n 1, 1) := by decide +kernel
theorem dX1_bring_62 : decode cX1_bring 62 = .ok (.iastore, 1) := by decide +kernel
theorem dX1_bring_63 : decode cX1_bring 63 = .ok (.aload_n 0, 1) := by decide +kernel
theorem dX1_bring_64 : decode cX1_bring 64 = .ok (.getfield 28, 3) := by decide +kernel
theorem dX1_bring_67 : decode cX1_bring 67 = .ok (.iload_n 1, 1) := by decide +kernel
theorem dX1_bring_68 : decode cX1_bring 68 = .ok (.iload_n 2, 1) := by decide +kernel
theorem dX1_bring_69 : decode cX1_bring 69 = .ok (.iastore, 1) := by decide +kernel
theorem dX1_bring_70 : decode cX1_bring 70 = .ok (.aload_n 0, 1) := by decide +kernel
theorem dX1_bring_71 : decode cX1_bring 71 = .ok (.getfield 21, 3) := by decide +kernel
theorem dX1_bring_74 : decode cX1_bring 74 = .ok (.iload_n 2, 1) := by decide +kernel
theorem dX1_bring_75 : decode cX1_bring 75 = .ok (.iconst 1, 1) := by decide +kernel
theorem dX1_bring_76 : decode cX1_bring 76 = .ok (.bastore, 1) := by decide +kernel
theorem dX1_bring_77 : decode cX1_bring 77 = .ok (.iload_n 2, 1) := by decide +kernel
theorem dX1_bring_78 : decode cX1_bring 78 = .ok (.ireturn, 1) := by decide +kernel
theorem dX1_makeOwn_0 : decode cX1_makeOwn 0 = .ok (.aload_n 1, 1) := by decide +kernel
theorem dX1_makeOwn_1 : decode cX1_makeOwn 1 = .ok (.getfield 62, 3) := by decide +kernel
theorem dX1_makeOwn_4 : decode cX1_makeOwn 4 = .ok (.iload_n 2, 1) := by decide +kernel
theorem dX1_makeOwn_5 : decode cX1_makeOwn 5 = .ok (.bipush 63, 2) := by decide +kernel
theorem dX1_makeOwn_7 : decode cX1_makeOwn 7 = .ok (.iand, 1) := by decide +kernel
theorem dX1_makeOwn_8 : decode cX1_makeOwn 8 = .ok (.iaload, 1) := by decide +kernel
theorem dX1_makeOwn_9 : decode cX1_makeOwn 9 = .ok (.istore 4, 2) := by decide +kernel
theorem dX1_makeOwn_11 : decode cX1_makeOwn 11 = .ok (.aload_n 0, 1) := by decide +kernel
theorem dX1_makeOwn_12 : decode cX1_makeOwn 12 = .ok (.iload 4, 2) := by decide +kernel
theorem dX1_makeOwn_14 : decode cX1_makeOwn 14 = .ok (.invokevirtual 65, 3) := by decide +kernel
theorem dX1_makeOwn_17 : decode cX1_makeOwn 17 = .ok (.ifCond .ne 5, 3) := by decide +kernel
theorem dX1_makeOwn_20 : decode cX1_makeOwn 20 = .ok (.iconst (-1), 1) := by decide +kernel
theorem dX1_makeOwn_21 : decode cX1_makeOwn 21 = .ok (.ireturn, 1) := by decide +kernel
theorem dX1_makeOwn_22 : decode cX1_makeOwn 22 = .ok (.aload_n 0, 1) := by decide +kernel
theorem dX1_makeOwn_23 : decode cX1_makeOwn 23 = .ok (.getfield 25, 3) := by decide +kernel
theorem dX1_makeOwn_26 : decode cX1_makeOwn 26 = .ok (.iload 4, 2) := by decide +kernel
theorem dX1_makeOwn_28 : decode cX1_makeOwn 28 = .ok (.iaload, 1) := by decide +kernel
theorem dX1_makeOwn_29 : decode cX1_makeOwn 29 = .ok (.iconst 1, 1) := by decide +kernel
theorem dX1_makeOwn_30 : decode cX1_makeOwn 30 = .ok (.if_icmp .ne 13, 3) := by decide +kernel
theorem dX1_makeOwn_33 : decode cX1_makeOwn 33 = .ok (.aload_n 0, 1) := by decide +kernel
theorem dX1_makeOwn_34 : decode cX1_makeOwn 34 = .ok (.getfield 31, 3) := by decide +kernel
theorem dX1_makeOwn_37 : decode cX1_makeOwn 37 = .ok (.iload 4, 2) := by decide +kernel
theorem dX1_makeOwn_39 : decode cX1_makeOwn 39 = .ok (.iconst 1, 1) := by decide +kernel
theorem dX1_makeOwn_40 : decode cX1_makeOwn 40 = .ok (.bastore, 1) := by decide +kernel
theorem dX1_makeOwn_41 : decode cX1_makeOwn 41 = .ok (.iload_n 3, 1) := by decide +kernel
theorem dX1_makeOwn_42 : decode cX1_makeOwn 42 = .ok (.ireturn, 1) := by decide +kernel
theorem dX1_makeOwn_43 : decode cX1_makeOwn 43 = .ok (.aload_n 0, 1) := by decide +kernel
theorem dX1_makeOwn_44 : decode cX1_makeOwn 44 = .ok (.iload_n 3, 1) := by decide +kernel
theorem dX1_makeOwn_45 : decode cX1_makeOwn 45 = .ok (.invokevirtual 107, 3) := by decide +kernel
theorem dX1_makeOwn_48 : decode cX1_makeOwn 48 = .ok (.istore 5, 2) := by decide +kernel
theorem dX1_makeOwn_50 : decode cX1_makeOwn 50 = .ok (.iload 5, 2) := by decide +kernel
theorem dX1_makeOwn_52 : decode cX1_makeOwn 52 = .ok (.iconst (-1), 1) := by decide +kernel
theorem dX1_makeOwn_53 : decode cX1_makeOwn 53 = .ok (.if_icmp .ne 7, 3) := by decide +kernel
theorem dX1_makeOwn_56 : decode cX1_makeOwn 56 = .ok (.iconst (-1), 1) := by decide +kernel
theorem dX1_makeOwn_57 : decode cX1_makeOwn 57 = .ok (.goto 7, 3) := by decide +kernel
theorem dX1_makeOwn_60 : decode cX1_makeOwn 60 = .ok (.aload_n 0, 1) := by decide +kernel
theorem dX1_makeOwn_61 : decode cX1_makeOwn 61 = .ok (.invokevirtual 110, 3) := by decide +kernel
theorem dX1_makeOwn_64 : decode cX1_makeOwn 64 = .ok (.istore 6, 2) := by decide +kernel
theorem dX1_makeOwn_66 : decode cX1_makeOwn 66 = .ok (.iload 6, 2) := by decide +kernel
theorem dX1_makeOwn_68 : decode cX1_makeOwn 68 = .ok (.iconst (-1), 1) := by decide +kernel
theorem dX1_makeOwn_69 : decode cX1_makeOwn 69 = .ok (.if_icmp .ne 5, 3) := by decide +kernel
theorem dX1_makeOwn_72 : decode cX1_makeOwn 72 = .ok (.iconst (-1), 1) := by decide +kernel
theorem dX1_makeOwn_73 : decode cX1_makeOwn 73 = .ok (.ireturn, 1) := by decide +kernel
theorem dX1_makeOwn_74 : decode cX1_makeOwn 74 = .ok (.aload_n 0, 1) := by decide +kernel
theorem dX1_makeOwn_75 : decode cX1_makeOwn 75 = .ok (.getfield 9, 3) := by decide +kernel
theorem dX1_makeOwn_78 : decode cX1_makeOwn 78 = .ok (.iload_n 3, 1) := by decide +kernel
theorem dX1_makeOwn_79 : decode cX1_makeOwn 79 = .ok (.bipush 64, 2) := by decide +kernel
theorem dX1_makeOwn_81 : decode cX1_makeOwn 81 = .ok (.imul, 1) := by decide +kernel
theorem dX1_makeOwn_82 : decode cX1_makeOwn 82 = .ok (.aload_n 0, 1) := by decide +kernel
theorem dX1_makeOwn_83 : decode cX1_makeOwn 83 = .ok (.getfield 9, 3) := by decide +kernel
theorem dX1_makeOwn_86 : decode cX1_makeOwn 86 = .ok (.iload 5, 2) := by decide +kernel
theorem dX1_makeOwn_88 : decode cX1_makeOwn 88 = .ok (.bipush 64, 2) := by decide +kernel
theorem dX1_makeOwn_90 : decode cX1_makeOwn 90 = .ok (.imul, 1) := by decide +kernel
theorem dX1_makeOwn_91 : decode cX1_makeOwn 91 = .ok (.bipush 64, 2) := by decide +kernel
theorem dX1_makeOwn_93 : decode cX1_makeOwn 93 = .ok (.invokestatic 87, 3) := by decide +kernel
theorem dX1_makeOwn_96 : decode cX1_makeOwn 96 = .ok (.aload_n 0, 1) := by decide +kernel
theorem dX1_makeOwn_97 : decode cX1_makeOwn 97 = .ok (.getfield 25, 3) := by decide +kernel
theorem dX1_makeOwn_100 : decode cX1_makeOwn 100 = .ok (.iload 4, 2) := by decide +kernel
theorem dX1_makeOwn_102 : decode cX1_makeOwn 102 = .ok (.dup2, 1) := by decide +kernel
theorem dX1_makeOwn_103 : decode cX1_makeOwn 103 = .ok (.iaload, 1) := by decide +kernel
theorem dX1_makeOwn_104 : decode cX1_makeOwn 104 = .ok (.iconst 1, 1) := by decide +kernel
theorem dX1_makeOwn_105 : decode cX1_makeOwn 105 = .ok (.isub, 1) := by decide +kernel
theorem dX1_makeOwn_106 : decode cX1_makeOwn 106 = .ok (.iastore, 1) := by decide +kernel
theorem dX1_makeOwn_107 : decode cX1_makeOwn 107 = .ok (.aload_n 0, 1) := by decide +kernel
theorem dX1_makeOwn_108 : decode cX1_makeOwn 108 = .ok (.getfield 25, 3) := by decide +kernel
theorem dX1_makeOwn_111 : decode cX1_makeOwn 111 = .ok (.iload 6, 2) := by decide +kernel
theorem dX1_makeOwn_113 : decode cX1_makeOwn 113 = .ok (.iconst 1, 1) := by decide +kernel
theorem dX1_makeOwn_114 : decode cX1_makeOwn 114 = .ok (.iastore, 1) := by decide +kernel
theorem dX1_makeOwn_115 : decode cX1_makeOwn 115 = .ok (.aload_n 0, 1) := by decide +kernel
theorem dX1_makeOwn_116 : decode cX1_makeOwn 116 = .ok (.getfield 28, 3) := by decide +kernel
theorem dX1_makeOwn_119 : decode cX1_makeOwn 119 = .ok (.iload 6, 2) := by decide +kernel
theorem dX1_makeOwn_121 : decode cX1_makeOwn 121 = .ok (.iload 5, 2) := by decide +kernel
theorem dX1_makeOwn_123 : decode cX1_makeOwn 123 = .ok (.iastore, 1) := by decide +kernel
theorem dX1_makeOwn_124 : decode cX1_makeOwn 124 = .ok (.aload_n 0, 1) := by decide +kernel
theorem dX1_makeOwn_125 : decode cX1_makeOwn 125 = .ok (.getfield 31, 3) := by decide +kernel
theorem dX1_makeOwn_128 : decode cX1_makeOwn 128 = .ok (.iload 6, 2) := by decide +kernel
theorem dX1_makeOwn_130 : decode cX1_makeOwn 130 = .ok (.iconst 1, 1) := by decide +kernel
theorem dX1_makeOwn_131 : decode cX1_makeOwn 131 = .ok (.bastore, 1) := by decide +kernel
theorem dX1_makeOwn_132 : decode cX1_makeOwn 132 = .ok (.aload_n 0, 1) := by decide +kernel
theorem dX1_makeOwn_133 : decode cX1_makeOwn 133 = .ok (.getfield 18, 3) := by decide +kernel
theorem dX1_makeOwn_136 : decode cX1_makeOwn 136 = .ok (.iload 5, 2) := by decide +kernel
theorem dX1_makeOwn_138 : decode cX1_makeOwn 138 = .ok (.iload 6, 2) := by decide +kernel
theorem dX1_makeOwn_140 : decode cX1_makeOwn 140 = .ok (.iastore, 1) := by decide +kernel
theorem dX1_makeOwn_141 : decode cX1_makeOwn 141 = .ok (.aload_n 0, 1) := by decide +kernel
theorem dX1_makeOwn_142 : decode cX1_makeOwn 142 = .ok (.getfield 21, 3) := by decide +kernel
theorem dX1_makeOwn_145 : decode cX1_makeOwn 145 = .ok (.iload 5, 2) := by decide +kernel
theorem dX1_makeOwn_147 : decode cX1_makeOwn 147 = .ok (.iconst 1, 1) := by decide +kernel
theorem dX1_makeOwn_148 : decode cX1_makeOwn 148 = .ok (.bastore, 1) := by decide +kernel
theorem dX1_makeOwn_149 : decode cX1_makeOwn 149 = .ok (.aload_n 1, 1) := by decide +kernel
theorem dX1_makeOwn_150 : decode cX1_makeOwn 150 = .ok (.getfield 62, 3) := by decide +kernel
theorem dX1_makeOwn_153 : decode cX1_makeOwn 153 = .ok (.iload_n 2, 1) := by decide +kernel
theorem dX1_makeOwn_154 : decode cX1_makeOwn 154 = .ok (.bipush 63, 2) := by decide +kernel
theorem dX1_makeOwn_156 : decode cX1_makeOwn 156 = .ok (.iand, 1) := by decide +kernel
theorem dX1_makeOwn_157 : decode cX1_makeOwn 157 = .ok (.iload 6, 2) := by decide +kernel
theorem dX1_makeOwn_159 : decode cX1_makeOwn 159 = .ok (.iastore, 1) := by decide +kernel
theorem dX1_makeOwn_160 : decode cX1_makeOwn 160 = .ok (.iload 5, 2) := by decide +kernel
theorem dX1_makeOwn_162 : decode cX1_makeOwn 162 = .ok (.ireturn, 1) := by decide +kernel
theorem dX1_takeFrame_0 : decode cX1_takeFrame 0 = .ok (.aload_n 0, 1) := by decide +kernel
theorem dX1_takeFrame_1 : decode cX1_takeFrame 1 = .ok (.getfield 44, 3) := by decide +kernel
theorem dX1_takeFrame_4 : decode cX1_takeFrame 4 = .ok (.aload_n 0, 1) := by decide +kernel
theorem dX1_takeFrame_5 : decode cX1_takeFrame 5 = .ok (.getfield 40, 3) := by decide +kernel
theorem dX1_takeFrame_8 : decode cX1_takeFrame 8 = .ok (.if_icmp .ge 53, 3) := by decide +kernel
theorem dX1_takeFrame_11 : decode cX1_takeFrame 11 = .ok (.aload_n 0, 1) := by decide +kernel
theorem dX1_takeFrame_12 : decode cX1_takeFrame 12 = .ok (.dup, 1) := by decide +kernel
theorem dX1_takeFrame_13 : decode cX1_takeFrame 13 = .ok (.getfield 44, 3) := by decide +kernel
theorem dX1_takeFrame_16 : decode cX1_takeFrame 16 = .ok (.iconst 1, 1) := by decide +kernel
theorem dX1_takeFrame_17 : decode cX1_takeFrame 17 = .ok (.iadd, 1) := by decide +kernel
theorem dX1_takeFrame_18 : decode cX1_takeFrame 18 = .ok (.putfield 44, 3) := by decide +kernel
theorem dX1_takeFrame_21 : decode cX1_takeFrame 21 = .ok (.aload_n 0, 1) := by decide +kernel
theorem dX1_takeFrame_22 : decode cX1_takeFrame 22 = .ok (.getfield 9, 3) := by decide +kernel
theorem dX1_takeFrame_25 : decode cX1_takeFrame 25 = .ok (.arraylength, 1) := by decide +kernel
theorem dX1_takeFrame_26 : decode cX1_takeFrame 26 = .ok (.aload_n 0, 1) := by decide +kernel
theorem dX1_takeFrame_27 : decode cX1_takeFrame 27 = .ok (.getfield 44, 3) := by decide +kernel
theorem dX1_takeFrame_30 : decode cX1_takeFrame 30 = .ok (.bipush 64, 2) := by decide +kernel
theorem dX1_takeFrame_32 : decode cX1_takeFrame 32 = .ok (.imul, 1) := by decide +kernel
theorem dX1_takeFrame_33 : decode cX1_takeFrame 33 = .ok (.if_icmp .ge 21, 3) := by decide +kernel
theorem dX1_takeFrame_36 : decode cX1_takeFrame 36 = .ok (.aload_n 0, 1) := by decide +kernel
theorem dX1_takeFrame_37 : decode cX1_takeFrame 37 = .ok (.aload_n 0, 1) := by decide +kernel
theorem dX1_takeFrame_38 : decode cX1_takeFrame 38 = .ok (.getfield 9, 3) := by decide +kernel
theorem dX1_takeFrame_41 : decode cX1_takeFrame 41 = .ok (.iconst 2, 1) := by decide +kernel
theorem dX1_takeFrame_42 : decode cX1_takeFrame 42 = .ok (.aload_n 0, 1) := by decide +kernel
theorem dX1_takeFrame_43 : decode cX1_takeFrame 43 = .ok (.getfield 9, 3) := by decide +kernel
theorem dX1_takeFrame_46 : decode cX1_takeFrame 46 = .ok (.arraylength, 1) := by decide +kernel
theorem dX1_takeFrame_47 : decode cX1_takeFrame 47 = .ok (.imul, 1) := by decide +kernel
theorem dX1_takeFrame_48 : decode cX1_takeFrame 48 = .ok (.invokestatic 113, 3) := by decide +kernel
theorem dX1_takeFrame_51 : decode cX1_takeFrame 51 = .ok (.putfield 9, 3) := by decide +kernel
theorem dX1_takeFrame_54 : decode cX1_takeFrame 54 = .ok (.aload_n 0, 1) := by decide +kernel
theorem dX1_takeFrame_55 : decode cX1_takeFrame 55 = .ok (.getfield 44, 3) := by decide +kernel
theorem dX1_takeFrame_58 : decode cX1_takeFrame 58 = .ok (.iconst 1, 1) := by decide +kernel
theorem dX1_takeFrame_59 : decode cX1_takeFrame 59 = .ok (.isub, 1) := by decide +kernel
theorem dX1_takeFrame_60 : decode cX1_takeFrame 60 = .ok (.ireturn, 1) := by decide +kernel
theorem dX1_takeFrame_61 : decode cX1_takeFrame 61 = .ok (.iconst 0, 1) := by decide +kernel
theorem dX1_takeFrame_62 : decode cX1_takeFrame 62 = .ok (.istore_n 2, 1) := by decide +kernel
theorem dX1_takeFrame_63 : decode cX1_takeFrame 63 = .ok (.iload_n 2, 1) := by decide +kernel
theorem dX1_takeFrame_64 : decode cX1_takeFrame 64 = .ok (.iconst 2, 1) := by decide +kernel
theorem dX1_takeFrame_65 : decode cX1_takeFrame 65 = .ok (.aload_n 0, 1) := by decide +kernel
theorem dX1_takeFrame_66 : decode cX1_takeFrame 66 = .ok (.getfield 40, 3) := by decide +kernel
theorem dX1_takeFrame_69 : decode cX1_takeFrame 69 = .ok (.imul, 1) := by decide +kernel
theorem dX1_takeFrame_70 : decode cX1_takeFrame 70 = .ok (.if_icmp .ge 135, 3) := by decide +kernel
theorem dX1_takeFrame_73 : decode cX1_takeFrame 73 = .ok (.aload_n 0, 1) := by decide +kernel
theorem dX1_takeFrame_74 : decode cX1_takeFrame 74 = .ok (.getfield 47, 3) := by decide +kernel
theorem dX1_takeFrame_77 : decode cX1_takeFrame 77 = .ok (.istore_n 3, 1) := by decide +kernel
theorem dX1_takeFrame_78 : decode cX1_takeFrame 78 = .ok (.aload_n 0, 1) := by decide +kernel
theorem dX1_takeFrame_79 : decode cX1_takeFrame 79 = .ok (.aload_n 0, 1) := by decide +kernel
theorem dX1_takeFrame_80 : decode cX1_takeFrame 80 = .ok (.getfield 47, 3) := by decide +kernel
theorem dX1_takeFrame_83 : decode cX1_takeFrame 83 = .ok (.iconst 1, 1) := by decide +kernel
theorem dX1_takeFrame_84 : decode cX1_takeFrame 84 = .ok (.iadd, 1) := by decide +kernel
theorem dX1_takeFrame_85 : decode cX1_takeFrame 85 = .ok (.aload_n 0, 1) := by decide +kernel
theorem dX1_takeFrame_86 : decode cX1_takeFrame 86 = .ok (.getfield 40, 3) := by decide +kernel
theorem dX1_takeFrame_89 : decode cX1_takeFrame 89 = .ok (.if_icmp .ge 12, 3) := by decide +kernel
theorem dX1_takeFrame_92 : decode cX1_takeFrame 92 = .ok (.aload_n 0, 1) := by decide +kernel
theorem dX1_takeFrame_93 : decode cX1_takeFrame 93 = .ok (.getfield 47, 3) := by decide +kernel
theorem dX1_takeFrame_96 : decode cX1_takeFrame 96 = .ok (.iconst 1, 1) := by decide +kernel
theorem dX1_takeFrame_97 : decode cX1_takeFrame 97 = .ok (.iadd, 1) := by decide +kernel
theorem dX1_takeFrame_98 : decode cX1_takeFrame 98 = .ok (.goto 4, 3) := by decide +kernel
theorem dX1_takeFrame_101 : decode cX1_takeFrame 101 = .ok (.iconst 0, 1) := by decide +kernel
theorem dX1_takeFrame_102 : decode cX1_takeFrame 102 = .ok (.putfield 47, 3) := by decide +kernel
theorem dX1_takeFrame_105 : decode cX1_takeFrame 105 = .ok (.aload_n 0, 1) := by decide +kernel
theorem dX1_takeFrame_106 : decode cX1_takeFrame 106 = .ok (.getfield 18, 3) := by decide +kernel
theorem dX1_takeFrame_109 : decode cX1_takeFrame 109 = .ok (.iload_n 3, 1) := by decide +kernel
theorem dX1_takeFrame_110 : decode cX1_takeFrame 110 = .ok (.iaload, 1) := by decide +kernel
theorem dX1_takeFrame_111 : decode cX1_takeFrame 111 = .ok (.istore 4, 2) := by decide +kernel
theorem dX1_takeFrame_113 : decode cX1_takeFrame 113 = .ok (.iload 4, 2) := by decide +kernel
theorem dX1_takeFrame_115 : decode cX1_takeFrame 115 = .ok (.iconst (-1), 1) := by decide +kernel
theorem dX1_takeFrame_116 : decode cX1_takeFrame 116 = .ok (.if_icmp .ne 5, 3) := by decide +kernel
theorem dX1_takeFrame_119 : decode cX1_takeFrame 119 = .ok (.iload_n 3, 1) := by decide +kernel
theorem dX1_takeFrame_120 : decode cX1_takeFrame 120 = .ok (.ireturn, 1) := by decide +kernel
theorem dX1_takeFrame_121 : decode cX1_takeFrame 121 = .ok (.iload_n 3, 1) := by decide +kernel
theorem dX1_takeFrame_122 : decode cX1_takeFrame 122 = .ok (.iload_n 1, 1) := by decide +kernel
theorem dX1_takeFrame_123 : decode cX1_takeFrame 123 = .ok (.if_icmp .eq 69, 3) := by decide +kernel
theorem dX1_takeFrame_126 : decode cX1_takeFrame 126 = .ok (.aload_n 0, 1) := by decide +kernel
theorem dX1_takeFrame_127 : decode cX1_takeFrame 127 = .ok (.getfield 21, 3) := by decide +kernel
theorem dX1_takeFrame_130 : decode cX1_takeFrame 130 = .ok (.iload_n 3, 1) := by decide +kernel
theorem dX1_takeFrame_131 : decode cX1_takeFrame 131 = .ok (.baload, 1) := by decide +kernel
theorem dX1_takeFrame_132 : decode cX1_takeFrame 132 = .ok (.ifCond .ne 60, 3) := by decide +kernel
theorem dX1_takeFrame_135 : decode cX1_takeFrame 135 = .ok (.aload_n 0, 1) := by decide +kernel
theorem dX1_takeFrame_136 : decode cX1_takeFrame 136 = .ok (.getfield 31, 3) := by decide +kernel
theorem dX1_takeFrame_139 : decode cX1_takeFrame 139 = .ok (.iload 4, 2) := by decide +kernel
theorem dX1_takeFrame_141 : decode cX1_takeFrame 141 = .ok (.baload, 1) := by decide +kernel
theorem dX1_takeFrame_142 : decode cX1_takeFrame 142 = .ok (.ifCond .eq 33, 3) := by decide +kernel
theorem dX1_takeFrame_145 : decode cX1_takeFrame 145 = .ok (.aload_n 0, 1) := by decide +kernel
theorem dX1_takeFrame_146 : decode cX1_takeFrame 146 = .ok (.getfield 9, 3) := by decide +kernel
theorem dX1_takeFrame_149 : decode cX1_takeFrame 149 = .ok (.iload_n 3, 1) := by decide +kernel
theorem dX1_takeFrame_150 : decode cX1_takeFrame 150 = .ok (.bipush 64, 2) := by decide +kernel
theorem dX1_takeFrame_152 : decode cX1_takeFrame 152 = .ok (.imul, 1) := by decide +kernel
theorem dX1_takeFrame_153 : decode cX1_takeFrame 153 = .ok (.aload_n 0, 1) := by decide +kernel
theorem dX1_takeFrame_154 : decode cX1_takeFrame 154 = .ok (.getfield 15, 3) := by decide +kernel
theorem dX1_takeFrame_157 : decode cX1_takeFrame 157 = .ok (.iload 4, 2) := by decide +kernel
theorem dX1_takeFrame_159 : decode cX1_takeFrame 159 = .ok (.bipush 64, 2) := by decide +kernel
theorem dX1_takeFrame_161 : decode cX1_takeFrame 161 = .ok (.imul, 1) := by decide +kernel
theorem dX1_takeFrame_162 : decode cX1_takeFrame 162 = .ok (.bipush 64, 2) := by decide +kernel
theorem dX1_takeFrame_164 : decode cX1_takeFrame 164 = .ok (.invokestatic 87, 3) := by decide +kernel
theorem dX1_takeFrame_167 : decode cX1_takeFrame 167 = .ok (.aload_n 0, 1) := by decide +kernel
theorem dX1_takeFrame_168 : decode cX1_takeFrame 168 = .ok (.getfield 31, 3) := by decide +kernel
theorem dX1_takeFrame_171 : decode cX1_takeFrame 171 = .ok (.iload 4, 2) := by decide +kernel
theorem dX1_takeFrame_173 : decode cX1_takeFrame 173 = .ok (.iconst 0, 1) := by decide +kernel
theorem dX1_takeFrame_174 : decode cX1_takeFrame 174 = .ok (.bastore, 1) := by decide +kernel
theorem dX1_takeFrame_175 : decode cX1_takeFrame 175 = .ok (.aload_n 0, 1) := by decide +kernel
theorem dX1_takeFrame_176 : decode cX1_takeFrame 176 = .ok (.getfield 28, 3) := by decide +kernel
theorem dX1_takeFrame_179 : decode cX1_takeFrame 179 = .ok (.iload 4, 2) := by decide +kernel
theorem dX1_takeFrame_181 : decode cX1_takeFrame 181 = .ok (.iconst (-1), 1) := by decide +kernel
theorem dX1_takeFrame_182 : decode cX1_takeFrame 182 = .ok (.iastore, 1) := by decide +kernel
theorem dX1_takeFrame_183 : decode cX1_takeFrame 183 = .ok (.aload_n 0, 1) := by decide +kernel
theorem dX1_takeFrame_184 : decode cX1_takeFrame 184 = .ok (.getfield 18, 3) := by decide +kernel
theorem dX1_takeFrame_187 : decode cX1_takeFrame 187 = .ok (.iload_n 3, 1) := by decide +kernel
theorem dX1_takeFrame_188 : decode cX1_takeFrame 188 = .ok (.iconst (-1), 1) := by decide +kernel
theorem dX1_takeFrame_189 : decode cX1_takeFrame 189 = .ok (.iastore, 1) := by decide +kernel
theorem dX1_takeFrame_190 : decode cX1_takeFrame 190 = .ok (.iload_n 3, 1) := by decide +kernel
theorem dX1_takeFrame_191 : decode cX1_takeFrame 191 = .ok (.ireturn, 1) := by decide +kernel
theorem dX1_takeFrame_192 : decode cX1_takeFrame 192 = .ok (.aload_n 0, 1) := by decide +kernel
theorem dX1_takeFrame_193 : decode cX1_takeFrame 193 = .ok (.getfield 21, 3) := by decide +kernel
theorem dX1_takeFrame_196 : decode cX1_takeFrame 196 = .ok (.iload_n 3, 1) := by decide +kernel
theorem dX1_takeFrame_197 : decode cX1_takeFrame 197 = .ok (.iconst 0, 1) := by decide +kernel
theorem dX1_takeFrame_198 : decode cX1_takeFrame 198 = .ok (.bastore, 1) := by decide +kernel
theorem dX1_takeFrame_199 : decode cX1_takeFrame 199 = .ok (.iinc 2 1, 3) := by decide +kernel
theorem dX1_takeFrame_202 : decode cX1_takeFrame 202 = .ok (.goto (-139), 3) := by decide +kernel
theorem dX1_takeFrame_205 : decode cX1_takeFrame 205 = .ok (.iconst (-1), 1) := by decide +kernel
theorem dX1_takeFrame_206 : decode cX1_takeFrame 206 = .ok (.ireturn, 1) := by decide +kernel
theorem dX1_takeSheet_0 : decode cX1_takeSheet 0 = .ok (.aload_n 0, 1) := by decide +kernel
theorem dX1_takeSheet_1 : decode cX1_takeSheet 1 = .ok (.getfield 56, 3) := by decide +kernel
theorem dX1_takeSheet_4 : decode cX1_takeSheet 4 = .ok (.ifCond .gt 5, 3) := by decide +kernel
theorem dX1_takeSheet_7 : decode cX1_takeSheet 7 = .ok (.iconst (-1), 1) := by decide +kernel
theorem dX1_takeSheet_8 : decode cX1_takeSheet 8 = .ok (.ireturn, 1) := by decide +kernel
theorem dX1_takeSheet_9 : decode cX1_takeSheet 9 = .ok (.aload_n 0, 1) := by decide +kernel
theorem dX1_takeSheet_10 : decode cX1_takeSheet 10 = .ok (.dup, 1) := by decide +kernel
theorem dX1_takeSheet_11 : decode cX1_takeSheet 11 = .ok (.getfield 56, 3) := by decide +kernel
theorem dX1_takeSheet_14 : decode cX1_takeSheet 14 = .ok (.iconst 1, 1) := by decide +kernel
theorem dX1_takeSheet_15 : decode cX1_takeSheet 15 = .ok (.isub, 1) := by decide +kernel
theorem dX1_takeSheet_16 : decode cX1_takeSheet 16 = .ok (.putfield 56, 3) := by decide +kernel
theorem dX1_takeSheet_19 : decode cX1_takeSheet 19 = .ok (.aload_n 0, 1) := by decide +kernel
theorem dX1_takeSheet_20 : decode cX1_takeSheet 20 = .ok (.getfield 34, 3) := by decide +kernel
theorem dX1_takeSheet_23 : decode cX1_takeSheet 23 = .ok (.aload_n 0, 1) := by decide +kernel
theorem dX1_takeSheet_24 : decode cX1_takeSheet 24 = .ok (.getfield 56, 3) := by decide +kernel
theorem dX1_takeSheet_27 : decode cX1_takeSheet 27 = .ok (.iaload, 1) := by decide +kernel
theorem dX1_takeSheet_28 : decode cX1_takeSheet 28 = .ok (.istore_n 1, 1) := by decide +kernel
theorem dX1_takeSheet_29 : decode cX1_takeSheet 29 = .ok (.aload_n 0, 1) := by decide +kernel
theorem dX1_takeSheet_30 : decode cX1_takeSheet 30 = .ok (.getfield 15, 3) := by decide +kernel
theorem dX1_takeSheet_33 : decode cX1_takeSheet 33 = .ok (.arraylength, 1) := by decide +kernel
theorem dX1_takeSheet_34 : decode cX1_takeSheet 34 = .ok (.iload_n 1, 1) := by decide +kernel
theorem dX1_takeSheet_35 : decode cX1_takeSheet 35 = .ok (.iconst 1, 1) := by decide +kernel
theorem dX1_takeSheet_36 : decode cX1_takeSheet 36 = .ok (.iadd, 1) := by decide +kernel
theorem dX1_takeSheet_37 : decode cX1_takeSheet 37 = .ok (.bipush 64, 2) := by decide +kernel
theorem dX1_takeSheet_39 : decode cX1_takeSheet 39 = .ok (.imul, 1) := by decide +kernel
theorem dX1_takeSheet_40 : decode cX1_takeSheet 40 = .ok (.if_icmp .ge 37, 3) := by decide +kernel
theorem dX1_takeSheet_43 : decode cX1_takeSheet 43 = .ok (.iconst 2, 1) := by decide +kernel
theorem dX1_takeSheet_44 : decode cX1_takeSheet 44 = .ok (.aload_n 0, 1) := by decide +kernel
theorem dX1_takeSheet_45 : decode cX1_takeSheet 45 = .ok (.getfield 15, 3) := by decide +kernel
theorem dX1_takeSheet_48 : decode cX1_takeSheet 48 = .ok (.arraylength, 1) := by decide +kernel
theorem dX1_takeSheet_49 : decode cX1_takeSheet 49 = .ok (.imul, 1) := by decide +kernel
theorem dX1_takeSheet_50 : decode cX1_takeSheet 50 = .ok (.ldc 117, 2) := by decide +kernel
theorem dX1_takeSheet_52 : decode cX1_takeSheet 52 = .ok (.invokestatic 118, 3) := by decide +kernel
theorem dX1_takeSheet_55 : decode cX1_takeSheet 55 = .ok (.istore_n 2, 1) := by decide +kernel
theorem dX1_takeSheet_56 : decode cX1_takeSheet 56 = .ok (.aload_n 0, 1) := by decide +kernel
theorem dX1_takeSheet_57 : decode cX1_takeSheet 57 = .ok (.aload_n 0, 1) := by decide +kernel
theorem dX1_takeSheet_58 : decode cX1_takeSheet 58 = .ok (.getfield 15, 3) := by decide +kernel
theorem dX1_takeSheet_61 : decode cX1_takeSheet 61 = .ok (.iload_n 1, 1) := by decide +kernel
theorem dX1_takeSheet_62 : decode cX1_takeSheet 62 = .ok (.iconst 1, 1) := by decide +kernel
theorem dX1_takeSheet_63 : decode cX1_takeSheet 63 = .ok (.iadd, 1) := by decide +kernel
theorem dX1_takeSheet_64 : decode cX1_takeSheet 64 = .ok (.bipush 64, 2) := by decide +kernel
theorem dX1_takeSheet_66 : decode cX1_takeSheet 66 = .ok (.imul, 1) := by decide +kernel
theorem dX1_takeSheet_67 : decode cX1_takeSheet 67 = .ok (.iload_n 2, 1) := by decide +kernel
theorem dX1_takeSheet_68 : decode cX1_takeSheet 68 = .ok (.invokestatic 124, 3) := by decide +kernel
theorem dX1_takeSheet_71 : decode cX1_takeSheet 71 = .ok (.invokestatic 113, 3) := by decide +kernel
theorem dX1_takeSheet_74 : decode cX1_takeSheet 74 = .ok (.putfield 15, 3) := by decide +kernel
theorem dX1_takeSheet_77 : decode cX1_takeSheet 77 = .ok (.iload_n 1, 1) := by decide +kernel
theorem dX1_takeSheet_78 : decode cX1_takeSheet 78 = .ok (.ireturn, 1) := by decide +kernel
theorem dX1_freeSheet_0 : decode cX1_freeSheet 0 = .ok (.aload_n 0, 1) := by decide +kernel
theorem dX1_freeSheet_1 : decode cX1_freeSheet 1 = .ok (.getfield 28, 3) := by decide +kernel
theorem dX1_freeSheet_4 : decode cX1_freeSheet 4 = .ok (.iload_n 1, 1) := by decide +kernel
theorem dX1_freeSheet_5 : decode cX1_freeSheet 5 = .ok (.iaload, 1) := by decide +kernel
theorem dX1_freeSheet_6 : decode cX1_freeSheet 6 = .ok (.istore_n 2, 1) := by decide +kernel
theorem dX1_freeSheet_7 : decode cX1_freeSheet 7 = .ok (.iload_n 2, 1) := by decide +kernel
theorem dX1_freeSheet_8 : decode cX1_freeSheet 8 = .ok (.iconst (-1), 1) := by decide +kernel
theorem dX1_freeSheet_9 : decode cX1_freeSheet 9 = .ok (.if_icmp .eq 17, 3) := by decide +kernel
theorem dX1_freeSheet_12 : decode cX1_freeSheet 12 = .ok (.aload_n 0, 1) := by decide +kernel
theorem dX1_freeSheet_13 : decode cX1_freeSheet 13 = .ok (.getfield 18, 3) := by decide +kernel
theorem dX1_freeSheet_16 : decode cX1_freeSheet 16 = .ok (.iload_n 2, 1) := by decide +kernel
theorem dX1_freeSheet_17 : decode cX1_freeSheet 17 = .ok (.iconst (-1), 1) := by decide +kernel
theorem dX1_freeSheet_18 : decode cX1_freeSheet 18 = .ok (.iastore, 1) := by decide +kernel
theorem dX1_freeSheet_19 : decode cX1_freeSheet 19 = .ok (.aload_n 0, 1) := by decide +kernel
theorem dX1_freeSheet_20 : decode cX1_freeSheet 20 = .ok (.getfield 28, 3) := by decide +kernel
theorem dX1_freeSheet_23 : decode cX1_freeSheet 23 = .ok (.iload_n 1, 1) := by decide +kernel
theorem dX1_freeSheet_24 : decode cX1_freeSheet 24 = .ok (.iconst (-1), 1) := by decide +kernel
theorem dX1_freeSheet_25 : decode cX1_freeSheet 25 = .ok (.iastore, 1) := by decide +kernel
theorem dX1_freeSheet_26 : decode cX1_freeSheet 26 = .ok (.aload_n 0, 1) := by decide +kernel
theorem dX1_freeSheet_27 : decode cX1_freeSheet 27 = .ok (.getfield 31, 3) := by decide +kernel
theorem dX1_freeSheet_30 : decode cX1_freeSheet 30 = .ok (.iload_n 1, 1) := by decide +kernel
theorem dX1_freeSheet_31 : decode cX1_freeSheet 31 = .ok (.iconst 0, 1) := by decide +kernel
theorem dX1_freeSheet_32 : decode cX1_freeSheet 32 = .ok (.bastore, 1) := by decide +kernel
theorem dX1_freeSheet_33 : decode cX1_freeSheet 33 = .ok (.aload_n 0, 1) := by decide +kernel
theorem dX1_freeSheet_34 : decode cX1_freeSheet 34 = .ok (.getfield 56, 3) := by decide +kernel
theorem dX1_freeSheet_37 : decode cX1_freeSheet 37 = .ok (.sipush 513, 3) := by decide +kernel
theorem dX1_freeSheet_40 : decode cX1_freeSheet 40 = .ok (.if_icmp .ge 23, 3) := by decide +kernel
theorem dX1_freeSheet_43 : decode cX1_freeSheet 43 = .ok (.aload_n 0, 1) := by decide +kernel
theorem dX1_freeSheet_44 : decode cX1_freeSheet 44 = .ok (.getfield 34, 3) := by decide +kernel
theorem dX1_freeSheet_47 : decode cX1_freeSheet 47 = .ok (.aload_n 0, 1) := by decide +kernel
theorem dX1_freeSheet_48 : decode cX1_freeSheet 48 = .ok (.getfield 56, 3) := by decide +kernel
theorem dX1_freeSheet_51 : decode cX1_freeSheet 51 = .ok (.iload_n 1, 1) := by decide +kernel
theorem dX1_freeSheet_52 : decode cX1_freeSheet 52 = .ok (.iastore, 1) := by decide +kernel
theorem dX1_freeSheet_53 : decode cX1_freeSheet 53 = .ok (.aload_n 0, 1) := by decide +kernel
theorem dX1_freeSheet_54 : decode cX1_freeSheet 54 = .ok (.dup, 1) := by decide +kernel
theorem dX1_freeSheet_55 : decode cX1_freeSheet 55 = .ok (.getfield 56, 3) := by decide +kernel
theorem dX1_freeSheet_58 : decode cX1_freeSheet 58 = .ok (.iconst 1, 1) := by decide +kernel
theorem dX1_freeSheet_59 : decode cX1_freeSheet 59 = .ok (.iadd, 1) := by decide +kernel
theorem dX1_freeSheet_60 : decode cX1_freeSheet 60 = .ok (.putfield 56, 3) := by decide +kernel
theorem dX1_freeSheet_63 : decode cX1_freeSheet 63 = .ok (.return_, 1) := by decide +kernel
theorem dX1_countWrongUses_0 : decode cX1_countWrongUses 0 = .ok (.iconst 0, 1) := by decide +kernel
theorem dX1_countWrongUses_1 : decode cX1_countWrongUses 1 = .ok (.istore_n 2, 1) := by decide +kernel
theorem dX1_countWrongUses_2 : decode cX1_countWrongUses 2 = .ok (.aload_n 0, 1) := by decide +kernel
theorem dX1_countWrongUses_3 : decode cX1_countWrongUses 3 = .ok (.getfield 37, 3) := by decide +kernel
theorem dX1_countWrongUses_6 : decode cX1_countWrongUses 6 = .ok (.iconst 0, 1) := by decide +kernel
theorem dX1_countWrongUses_7 : decode cX1_countWrongUses 7 = .ok (.invokestatic 50, 3) := by decide +kernel
theorem dX1_countWrongUses_10 : decode cX1_countWrongUses 10 = .ok (.aload_n 0, 1) := by decide +kernel
theorem dX1_countWrongUses_11 : decode cX1_countWrongUses 11 = .ok (.getfield 37, 3) := by decide +kernel
theorem dX1_countWrongUses_14 : decode cX1_countWrongUses 14 = .ok (.iconst 0, 1) := by decide +kernel
theorem dX1_countWrongUses_15 : decode cX1_countWrongUses 15 = .ok (.iconst 1, 1) := by decide +kernel
theorem dX1_countWrongUses_16 : decode cX1_countWrongUses 16 = .ok (.iastore, 1) := by decide +kernel
theorem dX1_countWrongUses_17 : decode cX1_countWrongUses 17 = .ok (.iconst 0, 1) := by decide +kernel
theorem dX1_countWrongUses_18 : decode cX1_countWrongUses 18 = .ok (.istore_n 3, 1) := by decide +kernel
theorem dX1_countWrongUses_19 : decode cX1_countWrongUses 19 = .ok (.iload_n 3, 1) := by decide +kernel
theorem dX1_countWrongUses_20 : decode cX1_countWrongUses 20 = .ok (.aload_n 1, 1) := by decide +kernel
theorem dX1_countWrongUses_21 : decode cX1_countWrongUses 21 = .ok (.arraylength, 1) := by decide +kernel
theorem dX1_countWrongUses_22 : decode cX1_countWrongUses 22 = .ok (.if_icmp .ge 91, 3) := by decide +kernel
theorem dX1_countWrongUses_25 : decode cX1_countWrongUses 25 = .ok (.aload_n 1, 1) := by decide +kernel
theorem dX1_countWrongUses_26 : decode cX1_countWrongUses 26 = .ok (.iload_n 3, 1) := by decide +kernel
theorem dX1_countWrongUses_27 : decode cX1_countWrongUses 27 = .ok (.aaload, 1) := by decide +kernel
theorem dX1_countWrongUses_28 : decode cX1_countWrongUses 28 = .ok (.astore 4, 2) := by decide +kernel
theorem dX1_countWrongUses_30 : decode cX1_countWrongUses 30 = .ok (.iconst 0, 1) := by decide +kernel
theorem dX1_countWrongUses_31 : decode cX1_countWrongUses 31 = .ok (.istore 5, 2) := by decide +kernel
theorem dX1_countWrongUses_33 : decode cX1_countWrongUses 33 = .ok (.aload 4, 2) := by decide +kernel
theorem dX1_countWrongUses_35 : decode cX1_countWrongUses 35 = .ok (.ifnull 72, 3) := by decide +kernel
theorem dX1_countWrongUses_38 : decode cX1_countWrongUses 38 = .ok (.aload 4, 2) := by decide +kernel
theorem dX1_countWrongUses_40 : decode cX1_countWrongUses 40 = .ok (.getfield 127, 3) := by decide +kernel
theorem dX1_countWrongUses_43 : decode cX1_countWrongUses 43 = .ok (.ifCond .eq 64, 3) := by decide +kernel
theorem dX1_countWrongUses_46 : decode cX1_countWrongUses 46 = .ok (.iload 5, 2) := by decide +kernel
theorem dX1_countWrongUses_48 : decode cX1_countWrongUses 48 = .ok (.aload 4, 2) := by decide +kernel
theorem dX1_countWrongUses_50 : decode cX1_countWrongUses 50 = .ok (.getfield 59, 3) := by decide +kernel
theorem dX1_countWrongUses_53 : decode cX1_countWrongUses 53 = .ok (.if_icmp .ge 54, 3) := by decide +kernel
theorem dX1_countWrongUses_56 : decode cX1_countWrongUses 56 = .ok (.iload 5, 2) := by decide +kernel
theorem dX1_countWrongUses_58 : decode cX1_countWrongUses 58 = .ok (.bipush 64, 2) := by decide +kernel
theorem dX1_countWrongUses_60 : decode cX1_countWrongUses 60 = .ok (.if_icmp .ge 47, 3) := by decide +kernel
theorem dX1_countWrongUses_63 : decode cX1_countWrongUses 63 = .ok (.aload_n 0, 1) := by decide +kernel
theorem dX1_countWrongUses_64 : decode cX1_countWrongUses 64 = .ok (.aload 4, 2) := by decide +kernel
theorem dX1_countWrongUses_66 : decode cX1_countWrongUses 66 = .ok (.getfield 62, 3) := by decide +kernel
theorem dX1_countWrongUses_69 : decode cX1_countWrongUses 69 = .ok (.iload 5, 2) := by decide +kernel
theorem dX1_countWrongUses_71 : decode cX1_countWrongUses 71 = .ok (.iaload, 1) := by decide +kernel
theorem dX1_countWrongUses_72 : decode cX1_countWrongUses 72 = .ok (.invokevirtual 65, 3) := by decide +kernel
theorem dX1_countWrongUses_75 : decode cX1_countWrongUses 75 = .ok (.ifCond .eq 23, 3) := by decide +kernel
theorem dX1_countWrongUses_78 : decode cX1_countWrongUses 78 = .ok (.aload_n 0, 1) := by decide +kernel
theorem dX1_countWrongUses_79 : decode cX1_countWrongUses 79 = .ok (.getfield 37, 3) := by decide +kernel
theorem dX1_countWrongUses_82 : decode cX1_countWrongUses 82 = .ok (.aload 4, 2) := by decide +kernel
theorem dX1_countWrongUses_84 : decode cX1_countWrongUses 84 = .ok (.getfield 62, 3) := by decide +kernel
theorem dX1_countWrongUses_87 : decode cX1_countWrongUses 87 = .ok (.iload 5, 2) := by decide +kernel
theorem dX1_countWrongUses_89 : decode cX1_countWrongUses 89 = .ok (.iaload, 1) := by decide +kernel
theorem dX1_countWrongUses_90 : decode cX1_countWrongUses 90 = .ok (.dup2, 1) := by decide +kernel
theorem dX1_countWrongUses_91 : decode cX1_countWrongUses 91 = .ok (.iaload, 1) := by decide +kernel
theorem dX1_countWrongUses_92 : decode cX1_countWrongUses 92 = .ok (.iconst 1, 1) := by decide +kernel
theorem dX1_countWrongUses_93 : decode cX1_countWrongUses 93 = .ok (.iadd, 1) := by decide +kernel
theorem dX1_countWrongUses_94 : decode cX1_countWrongUses 94 = .ok (.iastore, 1) := by decide +kernel
theorem dX1_countWrongUses_95 : decode cX1_countWrongUses 95 = .ok (.goto 6, 3) := by decide +kernel
theorem dX1_countWrongUses_98 : decode cX1_countWrongUses 98 = .ok (.iinc 2 1, 3) := by decide +kernel
theorem dX1_countWrongUses_101 : decode cX1_countWrongUses 101 = .ok (.iinc 5 1, 3) := by decide +kernel
theorem dX1_countWrongUses_104 : decode cX1_countWrongUses 104 = .ok (.goto (-71), 3) := by decide +kernel
theorem dX1_countWrongUses_107 : decode cX1_countWrongUses 107 = .ok (.iinc 3 1, 3) := by decide +kernel
theorem dX1_countWrongUses_110 : decode cX1_countWrongUses 110 = .ok (.goto (-91), 3) := by decide +kernel
theorem dX1_countWrongUses_113 : decode cX1_countWrongUses 113 = .ok (.iconst 0, 1) := by decide +kernel
theorem dX1_countWrongUses_114 : decode cX1_countWrongUses 114 = .ok (.istore_n 3, 1) := by decide +kernel
theorem dX1_countWrongUses_115 : decode cX1_countWrongUses 115 = .ok (.iload_n 3, 1) := by decide +kernel
theorem dX1_countWrongUses_116 : decode cX1_countWrongUses 116 = .ok (.sipush 513, 3) := by decide +kernel
theorem dX1_countWrongUses_119 : decode cX1_countWrongUses 119 = .ok (.if_icmp .ge 32, 3) := by decide +kernel
theorem dX1_countWrongUses_122 : decode cX1_countWrongUses 122 = .ok (.iload_n 2, 1) := by decide +kernel
theorem dX1_countWrongUses_123 : decode cX1_countWrongUses 123 = .ok (.aload_n 0, 1) := by decide +kernel
theorem dX1_countWrongUses_124 : decode cX1_countWrongUses 124 = .ok (.getfield 37, 3) := by decide +kernel
theorem dX1_countWrongUses_127 : decode cX1_countWrongUses 127 = .ok (.iload_n 3, 1) := by decide +kernel
theorem dX1_countWrongUses_128 : decode cX1_countWrongUses 128 = .ok (.iaload, 1) := by decide +kernel
theorem dX1_countWrongUses_129 : decode cX1_countWrongUses 129 = .ok (.aload_n 0, 1) := by decide +kernel
theorem dX1_countWrongUses_130 : decode cX1_countWrongUses 130 = .ok (.getfield 25, 3) := by decide +kernel
theorem dX1_countWrongUses_133 : decode cX1_countWrongUses 133 = .ok (.iload_n 3, 1) := by decide +kernel
theorem dX1_countWrongUses_134 : decode cX1_countWrongUses 134 = .ok (.iaload, 1) := by decide +kernel
theorem dX1_countWrongUses_135 : decode cX1_countWrongUses 135 = .ok (.if_icmp .ne 7, 3) := by decide +kernel
theorem dX1_countWrongUses_138 : decode cX1_countWrongUses 138 = .ok (.iconst 0, 1) := by decide +kernel
theorem dX1_countWrongUses_139 : decode cX1_countWrongUses 139 = .ok (.goto 4, 3) := by decide +kernel
theorem dX1_countWrongUses_142 : decode cX1_countWrongUses 142 = .ok (.iconst 1, 1) := by decide +kernel
theorem dX1_countWrongUses_143 : decode cX1_countWrongUses 143 = .ok (.iadd, 1) := by decide +kernel
theorem dX1_countWrongUses_144 : decode cX1_countWrongUses 144 = .ok (.istore_n 2, 1) := by decide +kernel
theorem dX1_countWrongUses_145 : decode cX1_countWrongUses 145 = .ok (.iinc 3 1, 3) := by decide +kernel
theorem dX1_countWrongUses_148 : decode cX1_countWrongUses 148 = .ok (.goto (-33), 3) := by decide +kernel
theorem dX1_countWrongUses_151 : decode cX1_countWrongUses 151 = .ok (.iload_n 2, 1) := by decide +kernel
theorem dX1_countWrongUses_152 : decode cX1_countWrongUses 152 = .ok (.ireturn, 1) := by decide +kernel
theorem dX1_countWrongSheets_0 : decode cX1_countWrongSheets 0 = .ok (.iconst 0, 1) := by decide +kernel
theorem dX1_countWrongSheets_1 : decode cX1_countWrongSheets 1 = .ok (.istore_n 1, 1) := by decide +kernel
theorem dX1_countWrongSheets_2 : decode cX1_countWrongSheets 2 = .ok (.iconst 0, 1) := by decide +kernel
theorem dX1_countWrongSheets_3 : decode cX1_countWrongSheets 3 = .ok (.istore_n 2, 1) := by decide +kernel
theorem dX1_countWrongSheets_4 : decode cX1_countWrongSheets 4 = .ok (.iload_n 2, 1) := by decide +kernel
theorem dX1_countWrongSheets_5 : decode cX1_countWrongSheets 5 = .ok (.sipush 513, 3) := by decide +kernel
theorem dX1_countWrongSheets_8 : decode cX1_countWrongSheets 8 = .ok (.if_icmp .ge 97, 3) := by decide +kernel
theorem dX1_countWrongSheets_11 : decode cX1_countWrongSheets 11 = .ok (.aload_n 0, 1) := by decide +kernel
theorem dX1_countWrongSheets_12 : decode cX1_countWrongSheets 12 = .ok (.getfield 28, 3) := by decide +kernel
theorem dX1_countWrongSheets_15 : decode cX1_countWrongSheets 15 = .ok (.iload_n 2, 1) := by decide +kernel
theorem dX1_countWrongSheets_16 : decode cX1_countWrongSheets 16 = .ok (.iaload, 1) := by decide +kernel
theorem dX1_countWrongSheets_17 : decode cX1_countWrongSheets 17 = .ok (.istore_n 3, 1) := by decide +kernel
theorem dX1_countWrongSheets_18 : decode cX1_countWrongSheets 18 = .ok (.iload_n 3, 1) := by decide +kernel
theorem dX1_countWrongSheets_19 : decode cX1_countWrongSheets 19 = .ok (.iconst (-1), 1) := by decide +kernel
theorem dX1_countWrongSheets_20 : decode cX1_countWrongSheets 20 = .ok (.if_icmp .ne 23, 3) := by decide +kernel
theorem dX1_countWrongSheets_23 : decode cX1_countWrongSheets 23 = .ok (.iload_n 1, 1) := by decide +kernel
theorem dX1_countWrongSheets_24 : decode cX1_countWrongSheets 24 = .ok (.aload_n 0, 1) := by decide +kernel
theorem dX1_countWrongSheets_25 : decode cX1_countWrongSheets 25 = .ok (.getfield 31, 3) := by decide +kernel
theorem dX1_countWrongSheets_28 : decode cX1_countWrongSheets 28 = .ok (.iload_n 2, 1) := by decide +kernel
theorem dX1_countWrongSheets_29 : decode cX1_countWrongSheets 29 = .ok (.baload, 1) := by decide +kernel
theorem dX1_countWrongSheets_30 : decode cX1_countWrongSheets 30 = .ok (.ifCond .eq 7, 3) := by decide +kernel
theorem dX1_countWrongSheets_33 : decode cX1_countWrongSheets 33 = .ok (.iconst 1, 1) := by decide +kernel
theorem dX1_countWrongSheets_34 : decode cX1_countWrongSheets 34 = .ok (.goto 4, 3) := by decide +kernel
theorem dX1_countWrongSheets_37 : decode cX1_countWrongSheets 37 = .ok (.iconst 0, 1) := by decide +kernel
theorem dX1_countWrongSheets_38 : decode cX1_countWrongSheets 38 = .ok (.iadd, 1) := by decide +kernel
theorem dX1_countWrongSheets_39 : decode cX1_countWrongSheets 39 = .ok (.istore_n 1, 1) := by decide +kernel
theorem dX1_countWrongSheets_40 : decode cX1_countWrongSheets 40 = .ok (.goto 59, 3) := by decide +kernel
theorem dX1_countWrongSheets_43 : decode cX1_countWrongSheets 43 = .ok (.iload_n 3, 1) := by decide +kernel
theorem dX1_countWrongSheets_44 : decode cX1_countWrongSheets 44 = .ok (.ifCond .lt 31, 3) := by decide +kernel
theorem dX1_countWrongSheets_47 : decode cX1_countWrongSheets 47 = .ok (.iload_n 3, 1) := by decide +kernel
theorem dX1_countWrongSheets_48 : decode cX1_countWrongSheets 48 = .ok (.aload_n 0, 1) := by decide +kernel
theorem dX1_countWrongSheets_49 : decode cX1_countWrongSheets 49 = .ok (.getfield 44, 3) := by decide +kernel
theorem dX1_countWrongSheets_52 : decode cX1_countWrongSheets 52 = .ok (.if_icmp .ge 23, 3) := by decide +kernel
theorem dX1_countWrongSheets_55 : decode cX1_countWrongSheets 55 = .ok (.aload_n 0, 1) := by decide +kernel
theorem dX1_countWrongSheets_56 : decode cX1_countWrongSheets 56 = .ok (.getfield 18, 3) := by decide +kernel
theorem dX1_countWrongSheets_59 : decode cX1_countWrongSheets 59 = .ok (.iload_n 3, 1) := by decide +kernel
theorem dX1_countWrongSheets_60 : decode cX1_countWrongSheets 60 = .ok (.iaload, 1) := by decide +kernel
theorem dX1_countWrongSheets_61 : decode cX1_countWrongSheets 61 = .ok (.iload_n 2, 1) := by decide +kernel
theorem dX1_countWrongSheets_62 : decode cX1_countWrongSheets 62 = .ok (.if_icmp .ne 13, 3) := by decide +kernel
theorem dX1_countWrongSheets_65 : decode cX1_countWrongSheets 65 = .ok (.aload_n 0, 1) := by decide +kernel
theorem dX1_countWrongSheets_66 : decode cX1_countWrongSheets 66 = .ok (.getfield 25, 3) := by decide +kernel
theorem dX1_countWrongSheets_69 : decode cX1_countWrongSheets 69 = .ok (.iload_n 2, 1) := by decide +kernel
theorem dX1_countWrongSheets_70 : decode cX1_countWrongSheets 70 = .ok (.iaload, 1) := by decide +kernel
theorem dX1_countWrongSheets_71 : decode cX1_countWrongSheets 71 = .ok (.iconst 1, 1) := by decide +kernel
theorem dX1_countWrongSheets_72 : decode cX1_countWrongSheets 72 = .ok (.if_icmp .ge 9, 3) := by decide +kernel
theorem dX1_countWrongSheets_75 : decode cX1_countWrongSheets 75 = .ok (.iinc 1 1, 3) := by decide +kernel
theorem dX1_countWrongSheets_78 : decode cX1_countWrongSheets 78 = .ok (.goto 21, 3) := by decide +kernel
theorem dX1_countWrongSheets_81 : decode cX1_countWrongSheets 81 = .ok (.aload_n 0, 1) := by decide +kernel
theorem dX1_countWrongSheets_82 : decode cX1_countWrongSheets 82 = .ok (.getfield 31, 3) := by decide +kernel
theorem dX1_countWrongSheets_85 : decode cX1_countWrongSheets 85 = .ok (.iload_n 2, 1) := by decide +kernel
theorem dX1_countWrongSheets_86 : decode cX1_countWrongSheets 86 = .ok (.baload, 1) := by decide +kernel
theorem dX1_countWrongSheets_87 : decode cX1_countWrongSheets 87 = .ok (.ifCond .ne 12, 3) := by decide +kernel
theorem dX1_countWrongSheets_90 : decode cX1_countWrongSheets 90 = .ok (.iload_n 1, 1) := by decide +kernel
theorem dX1_countWrongSheets_91 : decode cX1_countWrongSheets 91 = .ok (.aload_n 0, 1) := by decide +kernel
theorem dX1_countWrongSheets_92 : decode cX1_countWrongSheets 92 = .ok (.iload_n 3, 1) := by decide +kernel
theorem dX1_countWrongSheets_93 : decode cX1_countWrongSheets 93 = .ok (.iload_n 2, 1) := by decide +kernel
theorem dX1_countWrongSheets_94 : decode cX1_countWrongSheets 94 = .ok (.invokevirtual 131, 3) := by decide +kernel
theorem dX1_countWrongSheets_97 : decode cX1_countWrongSheets 97 = .ok (.iadd, 1) := by decide +kernel
theorem dX1_countWrongSheets_98 : decode cX1_countWrongSheets 98 = .ok (.istore_n 1, 1) := by decide +kernel
theorem dX1_countWrongSheets_99 : decode cX1_countWrongSheets 99 = .ok (.iinc 2 1, 3) := by decide +kernel
theorem dX1_countWrongSheets_102 : decode cX1_countWrongSheets 102 = .ok (.goto (-98), 3) := by decide +kernel
theorem dX1_countWrongSheets_105 : decode cX1_countWrongSheets 105 = .ok (.iconst 0, 1) := by decide +kernel
theorem dX1_countWrongSheets_106 : decode cX1_countWrongSheets 106 = .ok (.istore_n 2, 1) := by decide +kernel
theorem dX1_countWrongSheets_107 : decode cX1_countWrongSheets 107 = .ok (.iload_n 2, 1) := by decide +kernel
theorem dX1_countWrongSheets_108 : decode cX1_countWrongSheets 108 = .ok (.bipush 64, 2) := by decide +kernel
theorem dX1_countWrongSheets_110 : decode cX1_countWrongSheets 110 = .ok (.if_icmp .ge 28, 3) := by decide +kernel
theorem dX1_countWrongSheets_113 : decode cX1_countWrongSheets 113 = .ok (.iload_n 1, 1) := by decide +kernel
theorem dX1_countWrongSheets_114 : decode cX1_countWrongSheets 114 = .ok (.aload_n 0, 1) := by decide +kernel
theorem dX1_countWrongSheets_115 : decode cX1_countWrongSheets 115 = .ok (.getfield 15, 3) := by decide +kernel
theorem dX1_countWrongSheets_118 : decode cX1_countWrongSheets 118 = .ok (.iconst 0, 1) := by decide +kernel
theorem dX1_countWrongSheets_119 : decode cX1_countWrongSheets 119 = .ok (.iload_n 2, 1) := by decide +kernel
theorem dX1_countWrongSheets_120 : decode cX1_countWrongSheets 120 = .ok (.iadd, 1) := by decide +kernel
theorem dX1_countWrongSheets_121 : decode cX1_countWrongSheets 121 = .ok (.iaload, 1) := by decide +kernel
theorem dX1_countWrongSheets_122 : decode cX1_countWrongSheets 122 = .ok (.ifCond .ne 7, 3) := by decide +kernel
theorem dX1_countWrongSheets_125 : decode cX1_countWrongSheets 125 = .ok (.iconst 0, 1) := by decide +kernel
theorem dX1_countWrongSheets_126 : decode cX1_countWrongSheets 126 = .ok (.goto 4, 3) := by decide +kernel
theorem dX1_countWrongSheets_129 : decode cX1_countWrongSheets 129 = .ok (.iconst 1, 1) := by decide +kernel
theorem dX1_countWrongSheets_130 : decode cX1_countWrongSheets 130 = .ok (.iadd, 1) := by decide +kernel
theorem dX1_countWrongSheets_131 : decode cX1_countWrongSheets 131 = .ok (.istore_n 1, 1) := by decide +kernel
theorem dX1_countWrongSheets_132 : decode cX1_countWrongSheets 132 = .ok (.iinc 2 1, 3) := by decide +kernel
theorem dX1_countWrongSheets_135 : decode cX1_countWrongSheets 135 = .ok (.goto (-28), 3) := by decide +kernel
theorem dX1_countWrongSheets_138 : decode cX1_countWrongSheets 138 = .ok (.iload_n 1, 1) := by decide +kernel
theorem dX1_countWrongSheets_139 : decode cX1_countWrongSheets 139 = .ok (.aload_n 0, 1) := by decide +kernel
theorem dX1_countWrongSheets_140 : decode cX1_countWrongSheets 140 = .ok (.getfield 31, 3) := by decide +kernel
theorem dX1_countWrongSheets_143 : decode cX1_countWrongSheets 143 = .ok (.iconst 0, 1) := by decide +kernel
theorem dX1_countWrongSheets_144 : decode cX1_countWrongSheets 144 = .ok (.baload, 1) := by decide +kernel
theorem dX1_countWrongSheets_145 : decode cX1_countWrongSheets 145 = .ok (.ifCond .eq 7, 3) := by decide +kernel
theorem dX1_countWrongSheets_148 : decode cX1_countWrongSheets 148 = .ok (.iconst 1, 1) := by decide +kernel
theorem dX1_countWrongSheets_149 : decode cX1_countWrongSheets 149 = .ok (.goto 4, 3) := by decide +kernel
theorem dX1_countWrongSheets_152 : decode cX1_countWrongSheets 152 = .ok (.iconst 0, 1) := by decide +kernel
theorem dX1_countWrongSheets_153 : decode cX1_countWrongSheets 153 = .ok (.iadd, 1) := by decide +kernel
theorem dX1_countWrongSheets_154 : decode cX1_countWrongSheets 154 = .ok (.ireturn, 1) := by decide +kernel
theorem dX1_countDifferent_0 : decode cX1_countDifferent 0 = .ok (.iconst 0, 1) := by decide +kernel
theorem dX1_countDifferent_1 : decode cX1_countDifferent 1 = .ok (.istore_n 3, 1) := by decide +kernel
theorem dX1_countDifferent_2 : decode cX1_countDifferent 2 = .ok (.iconst 0, 1) := by decide +kernel
theorem dX1_countDifferent_3 : decode cX1_countDifferent 3 = .ok (.istore 4, 2) := by decide +kernel
theorem dX1_countDifferent_5 : decode cX1_countDifferent 5 = .ok (.iload 4, 2) := by decide +kernel
theorem dX1_countDifferent_7 : decode cX1_countDifferent 7 = .ok (.bipush 64, 2) := by decide +kernel
theorem dX1_countDifferent_9 : decode cX1_countDifferent 9 = .ok (.if_icmp .ge 44, 3) := by decide +kernel
theorem dX1_countDifferent_12 : decode cX1_countDifferent 12 = .ok (.iload_n 3, 1) := by decide +kernel
theorem dX1_countDifferent_13 : decode cX1_countDifferent 13 = .ok (.aload_n 0, 1) := by decide +kernel
theorem dX1_countDifferent_14 : decode cX1_countDifferent 14 = .ok (.getfield 9, 3) := by decide +kernel
theorem dX1_countDifferent_17 : decode cX1_countDifferent 17 = .ok (.iload_n 1, 1) := by decide +kernel
theorem dX1_countDifferent_18 : decode cX1_countDifferent 18 = .ok (.bipush 64, 2) := by decide +kernel
theorem dX1_countDifferent_20 : decode cX1_countDifferent 20 = .ok (.imul, 1) := by decide +kernel
theorem dX1_countDifferent_21 : decode cX1_countDifferent 21 = .ok (.iload 4, 2) := by decide +kernel
theorem dX1_countDifferent_23 : decode cX1_countDifferent 23 = .ok (.iadd, 1) := by decide +kernel
theorem dX1_countDifferent_24 : decode cX1_countDifferent 24 = .ok (.iaload, 1) := by decide +kernel
theorem dX1_countDifferent_25 : decode cX1_countDifferent 25 = .ok (.aload_n 0, 1) := by decide +kernel
theorem dX1_countDifferent_26 : decode cX1_countDifferent 26 = .ok (.getfield 15, 3) := by decide +kernel
theorem dX1_countDifferent_29 : decode cX1_countDifferent 29 = .ok (.iload_n 2, 1) := by decide +kernel
theorem dX1_countDifferent_30 : decode cX1_countDifferent 30 = .ok (.bipush 64, 2) := by decide +kernel
theorem dX1_countDifferent_32 : decode cX1_countDifferent 32 = .ok (.imul, 1) := by decide +kernel
theorem dX1_countDifferent_33 : decode cX1_countDifferent 33 = .ok (.iload 4, 2) := by decide +kernel
theorem dX1_countDifferent_35 : decode cX1_countDifferent 35 = .ok (.iadd, 1) := by decide +kernel
theorem dX1_countDifferent_36 : decode cX1_countDifferent 36 = .ok (.iaload, 1) := by decide +kernel
theorem dX1_countDifferent_37 : decode cX1_countDifferent 37 = .ok (.if_icmp .ne 7, 3) := by decide +kernel
theorem dX1_countDifferent_40 : decode cX1_countDifferent 40 = .ok (.iconst 0, 1) := by decide +kernel
theorem dX1_countDifferent_41 : decode cX1_countDifferent 41 = .ok (.goto 4, 3) := by decide +kernel
theorem dX1_countDifferent_44 : decode cX1_countDifferent 44 = .ok (.iconst 1, 1) := by decide +kernel
theorem dX1_countDifferent_45 : decode cX1_countDifferent 45 = .ok (.iadd, 1) := by decide +kernel
theorem dX1_countDifferent_46 : decode cX1_countDifferent 46 = .ok (.istore_n 3, 1) := by decide +kernel
theorem dX1_countDifferent_47 : decode cX1_countDifferent 47 = .ok (.iinc 4 1, 3) := by decide +kernel
theorem dX1_countDifferent_50 : decode cX1_countDifferent 50 = .ok (.goto (-45), 3) := by decide +kernel
theorem dX1_countDifferent_53 : decode cX1_countDifferent 53 = .ok (.iload_n 3, 1) := by decide +kernel
theorem dX1_countDifferent_54 : decode cX1_countDifferent 54 = .ok (.ireturn, 1) := by decide +kernel
theorem dX1_countWrongFrames_0 : decode cX1_countWrongFrames 0 = .ok (.iconst 0, 1) := by decide +kernel
theorem dX1_countWrongFrames_1 : decode cX1_countWrongFrames 1 = .ok (.istore_n 1, 1) := by decide +kernel
theorem dX1_countWrongFrames_2 : decode cX1_countWrongFrames 2 = .ok (.iconst 0, 1) := by decide +kernel
theorem dX1_countWrongFrames_3 : decode cX1_countWrongFrames 3 = .ok (.istore_n 2, 1) := by decide +kernel
theorem dX1_countWrongFrames_4 : decode cX1_countWrongFrames 4 = .ok (.iload_n 2, 1) := by decide +kernel
theorem dX1_countWrongFrames_5 : decode cX1_countWrongFrames 5 = .ok (.sipush 256, 3) := by decide +kernel
theorem dX1_countWrongFrames_8 : decode cX1_countWrongFrames 8 = .ok (.if_icmp .ge 67, 3) := by decide +kernel
theorem dX1_countWrongFrames_11 : decode cX1_countWrongFrames 11 = .ok (.aload_n 0, 1) := by decide +kernel
theorem dX1_countWrongFrames_12 : decode cX1_countWrongFrames 12 = .ok (.getfield 18, 3) := by decide +kernel
theorem dX1_countWrongFrames_15 : decode cX1_countWrongFrames 15 = .ok (.iload_n 2, 1) := by decide +kernel
theorem dX1_countWrongFrames_16 : decode cX1_countWrongFrames 16 = .ok (.iaload, 1) := by decide +kernel
theorem dX1_countWrongFrames_17 : decode cX1_countWrongFrames 17 = .ok (.istore_n 3, 1) := by decide +kernel
theorem dX1_countWrongFrames_18 : decode cX1_countWrongFrames 18 = .ok (.iload_n 3, 1) := by decide +kernel
theorem dX1_countWrongFrames_19 : decode cX1_countWrongFrames 19 = .ok (.iconst (-1), 1) := by decide +kernel
theorem dX1_countWrongFrames_20 : decode cX1_countWrongFrames 20 = .ok (.if_icmp .eq 29, 3) := by decide +kernel
theorem dX1_countWrongFrames_23 : decode cX1_countWrongFrames 23 = .ok (.iload_n 2, 1) := by decide +kernel
theorem dX1_countWrongFrames_24 : decode cX1_countWrongFrames 24 = .ok (.aload_n 0, 1) := by decide +kernel
theorem dX1_countWrongFrames_25 : decode cX1_countWrongFrames 25 = .ok (.getfield 40, 3) := by decide +kernel
theorem dX1_countWrongFrames_28 : decode cX1_countWrongFrames 28 = .ok (.if_icmp .ge 25, 3) := by decide +kernel
theorem dX1_countWrongFrames_31 : decode cX1_countWrongFrames 31 = .ok (.aload_n 0, 1) := by decide +kernel
theorem dX1_countWrongFrames_32 : decode cX1_countWrongFrames 32 = .ok (.iload_n 3, 1) := by decide +kernel
theorem dX1_countWrongFrames_33 : decode cX1_countWrongFrames 33 = .ok (.invokevirtual 65, 3) := by decide +kernel
theorem dX1_countWrongFrames_36 : decode cX1_countWrongFrames 36 = .ok (.ifCond .eq 17, 3) := by decide +kernel
theorem dX1_countWrongFrames_39 : decode cX1_countWrongFrames 39 = .ok (.aload_n 0, 1) := by decide +kernel
theorem dX1_countWrongFrames_40 : decode cX1_countWrongFrames 40 = .ok (.getfield 28, 3) := by decide +kernel
theorem dX1_countWrongFrames_43 : decode cX1_countWrongFrames 43 = .ok (.iload_n 3, 1) := by decide +kernel
theorem dX1_countWrongFrames_44 : decode cX1_countWrongFrames 44 = .ok (.iaload, 1) := by decide +kernel
theorem dX1_countWrongFrames_45 : decode cX1_countWrongFrames 45 = .ok (.iload_n 2, 1) := by decide +kernel
theorem dX1_countWrongFrames_46 : decode cX1_countWrongFrames 46 = .ok (.if_icmp .ne 7, 3) := by decide +kernel
theorem dX1_countWrongFrames_49 : decode cX1_countWrongFrames 49 = .ok (.iconst 1, 1) := by decide +kernel
theorem dX1_countWrongFrames_50 : decode cX1_countWrongFrames 50 = .ok (.goto 4, 3) := by decide +kernel
theorem dX1_countWrongFrames_53 : decode cX1_countWrongFrames 53 = .ok (.iconst 0, 1) := by decide +kernel
theorem dX1_countWrongFrames_54 : decode cX1_countWrongFrames 54 = .ok (.istore 4, 2) := by decide +kernel
theorem dX1_countWrongFrames_56 : decode cX1_countWrongFrames 56 = .ok (.iload_n 1, 1) := by decide +kernel
theorem dX1_countWrongFrames_57 : decode cX1_countWrongFrames 57 = .ok (.iload 4, 2) := by decide +kernel
theorem dX1_countWrongFrames_59 : decode cX1_countWrongFrames 59 = .ok (.ifCond .eq 7, 3) := by decide +kernel
theorem dX1_countWrongFrames_62 : decode cX1_countWrongFrames 62 = .ok (.iconst 0, 1) := by decide +kernel
theorem dX1_countWrongFrames_63 : decode cX1_countWrongFrames 63 = .ok (.goto 4, 3) := by decide +kernel
theorem dX1_countWrongFrames_66 : decode cX1_countWrongFrames 66 = .ok (.iconst 1, 1) := by decide +kernel
theorem dX1_countWrongFrames_67 : decode cX1_countWrongFrames 67 = .ok (.iadd, 1) := by decide +kernel
theorem dX1_countWrongFrames_68 : decode cX1_countWrongFrames 68 = .ok (.istore_n 1, 1) := by decide +kernel
theorem dX1_countWrongFrames_69 : decode cX1_countWrongFrames 69 = .ok (.iinc 2 1, 3) := by decide +kernel
theorem dX1_countWrongFrames_72 : decode cX1_countWrongFrames 72 = .ok (.goto (-68), 3) := by decide +kernel
theorem dX1_countWrongFrames_75 : decode cX1_countWrongFrames 75 = .ok (.iload_n 1, 1) := by decide +kernel
theorem dX1_countWrongFrames_76 : decode cX1_countWrongFrames 76 = .ok (.ireturn, 1) := by decide +kernel
theorem dX1_countWrongFree_0 : decode cX1_countWrongFree 0 = .ok (.iconst 0, 1) := by decide +kernel
theorem dX1_countWrongFree_1 : decode cX1_countWrongFree 1 = .ok (.istore_n 1, 1) := by decide +kernel
theorem dX1_countWrongFree_2 : decode cX1_countWrongFree 2 = .ok (.iconst 0, 1) := by decide +kernel
theorem dX1_countWrongFree_3 : decode cX1_countWrongFree 3 = .ok (.istore_n 2, 1) := by decide +kernel
theorem dX1_countWrongFree_4 : decode cX1_countWrongFree 4 = .ok (.iconst 0, 1) := by decide +kernel
theorem dX1_countWrongFree_5 : decode cX1_countWrongFree 5 = .ok (.istore_n 3, 1) := by decide +kernel
theorem dX1_countWrongFree_6 : decode cX1_countWrongFree 6 = .ok (.iload_n 3, 1) := by decide +kernel
theorem dX1_countWrongFree_7 : decode cX1_countWrongFree 7 = .ok (.sipush 513, 3) := by decide +kernel
theorem dX1_countWrongFree_10 : decode cX1_countWrongFree 10 = .ok (.if_icmp .ge 26, 3) := by decide +kernel
theorem dX1_countWrongFree_13 : decode cX1_countWrongFree 13 = .ok (.iload_n 2, 1) := by decide +kernel
theorem dX1_countWrongFree_14 : decode cX1_countWrongFree 14 = .ok (.aload_n 0, 1) := by decide +kernel
theorem dX1_countWrongFree_15 : decode cX1_countWrongFree 15 = .ok (.getfield 25, 3) := by decide +kernel
theorem dX1_countWrongFree_18 : decode cX1_countWrongFree 18 = .ok (.iload_n 3, 1) := by decide +kernel
theorem dX1_countWrongFree_19 : decode cX1_countWrongFree 19 = .ok (.iaload, 1) := by decide +kernel
theorem dX1_countWrongFree_20 : decode cX1_countWrongFree 20 = .ok (.ifCond .ne 7, 3) := by decide +kernel
theorem dX1_countWrongFree_23 : decode cX1_countWrongFree 23 = .ok (.iconst 1, 1) := by decide +kernel
theorem dX1_countWrongFree_24 : decode cX1_countWrongFree 24 = .ok (.goto 4, 3) := by decide +kernel
theorem dX1_countWrongFree_27 : decode cX1_countWrongFree 27 = .ok (.iconst 0, 1) := by decide +kernel
theorem dX1_countWrongFree_28 : decode cX1_countWrongFree 28 = .ok (.iadd, 1) := by decide +kernel
theorem dX1_countWrongFree_29 : decode cX1_countWrongFree 29 = .ok (.istore_n 2, 1) := by decide +kernel
theorem dX1_countWrongFree_30 : decode cX1_countWrongFree 30 = .ok (.iinc 3 1, 3) := by decide +kernel
theorem dX1_countWrongFree_33 : decode cX1_countWrongFree 33 = .ok (.goto (-27), 3) := by decide +kernel
theorem dX1_countWrongFree_36 : decode cX1_countWrongFree 36 = .ok (.iconst 0, 1) := by decide +kernel
theorem dX1_countWrongFree_37 : decode cX1_countWrongFree 37 = .ok (.istore_n 3, 1) := by decide +kernel
theorem dX1_countWrongFree_38 : decode cX1_countWrongFree 38 = .ok (.iload_n 3, 1) := by decide +kernel
theorem dX1_countWrongFree_39 : decode cX1_countWrongFree 39 = .ok (.aload_n 0, 1) := by decide +kernel
theorem dX1_countWrongFree_40 : decode cX1_countWrongFree 40 = .ok (.getfield 56, 3) := by decide +kernel
theorem dX1_countWrongFree_43 : decode cX1_countWrongFree 43 = .ok (.if_icmp .ge 51, 3) := by decide +kernel
theorem dX1_countWrongFree_46 : decode cX1_countWrongFree 46 = .ok (.iload_n 3, 1) := by decide +kernel
theorem dX1_countWrongFree_47 : decode cX1_countWrongFree 47 = .ok (.sipush 513, 3) := by decide +kernel
theorem dX1_countWrongFree_50 : decode cX1_countWrongFree 50 = .ok (.if_icmp .ge 44, 3) := by decide +kernel
theorem dX1_countWrongFree_53 : decode cX1_countWrongFree 53 = .ok (.iload_n 1, 1) := by decide +kernel
theorem dX1_countWrongFree_54 : decode cX1_countWrongFree 54 = .ok (.aload_n 0, 1) := by decide +kernel
theorem dX1_countWrongFree_55 : decode cX1_countWrongFree 55 = .ok (.aload_n 0, 1) := by decide +kernel
theorem dX1_countWrongFree_56 : decode cX1_countWrongFree 56 = .ok (.getfield 34, 3) := by decide +kernel
theorem dX1_countWrongFree_59 : decode cX1_countWrongFree 59 = .ok (.iload_n 3, 1) := by decide +kernel
theorem dX1_countWrongFree_60 : decode cX1_countWrongFree 60 = .ok (.iaload, 1) := by decide +kernel
theorem dX1_countWrongFree_61 : decode cX1_countWrongFree 61 = .ok (.invokevirtual 65, 3) := by decide +kernel
theorem dX1_countWrongFree_64 : decode cX1_countWrongFree 64 = .ok (.ifCond .eq 21, 3) := by decide +kernel
theorem dX1_countWrongFree_67 : decode cX1_countWrongFree 67 = .ok (.aload_n 0, 1) := by decide +kernel
theorem dX1_countWrongFree_68 : decode cX1_countWrongFree 68 = .ok (.getfield 25, 3) := by decide +kernel
theorem dX1_countWrongFree_71 : decode cX1_countWrongFree 71 = .ok (.aload_n 0, 1) := by decide +kernel
theorem dX1_countWrongFree_72 : decode cX1_countWrongFree 72 = .ok (.getfield 34, 3) := by decide +kernel
theorem dX1_countWrongFree_75 : decode cX1_countWrongFree 75 = .ok (.iload_n 3, 1) := by decide +kernel
theorem dX1_countWrongFree_76 : decode cX1_countWrongFree 76 = .ok (.iaload, 1) := by decide +kernel
theorem dX1_countWrongFree_77 : decode cX1_countWrongFree 77 = .ok (.iaload, 1) := by decide +kernel
theorem dX1_countWrongFree_78 : decode cX1_countWrongFree 78 = .ok (.ifCond .ne 7, 3) := by decide +kernel
theorem dX1_countWrongFree_81 : decode cX1_countWrongFree 81 = .ok (.iconst 0, 1) := by decide +kernel
theorem dX1_countWrongFree_82 : decode cX1_countWrongFree 82 = .ok (.goto 4, 3) := by decide +kernel
theorem dX1_countWrongFree_85 : decode cX1_countWrongFree 85 = .ok (.iconst 1, 1) := by decide +kernel
theorem dX1_countWrongFree_86 : decode cX1_countWrongFree 86 = .ok (.iadd, 1) := by decide +kernel
theorem dX1_countWrongFree_87 : decode cX1_countWrongFree 87 = .ok (.istore_n 1, 1) := by decide +kernel
theorem dX1_countWrongFree_88 : decode cX1_countWrongFree 88 = .ok (.iinc 3 1, 3) := by decide +kernel
theorem dX1_countWrongFree_91 : decode cX1_countWrongFree 91 = .ok (.goto (-53), 3) := by decide +kernel
theorem dX1_countWrongFree_94 : decode cX1_countWrongFree 94 = .ok (.iload_n 1, 1) := by decide +kernel
theorem dX1_countWrongFree_95 : decode cX1_countWrongFree 95 = .ok (.iload_n 2, 1) := by decide +kernel
theorem dX1_countWrongFree_96 : decode cX1_countWrongFree 96 = .ok (.aload_n 0, 1) := by decide +kernel
theorem dX1_countWrongFree_97 : decode cX1_countWrongFree 97 = .ok (.getfield 56, 3) := by decide +kernel
theorem dX1_countWrongFree_100 : decode cX1_countWrongFree 100 = .ok (.isub, 1) := by decide +kernel
theorem dX1_countWrongFree_101 : decode cX1_countWrongFree 101 = .ok (.invokestatic 134, 3) := by decide +kernel
theorem dX1_countWrongFree_104 : decode cX1_countWrongFree 104 = .ok (.iadd, 1) := by decide +kernel
theorem dX1_countWrongFree_105 : decode cX1_countWrongFree 105 = .ok (.ireturn, 1) := by decide +kernel
end
section
theorem dX2_init_0 : decode cX2_init 0 = .ok (.aload_n 0, 1) := by decide +kernel
theorem dX2_init_1 : decode cX2_init 1 = .ok (.invokespecial 3, 3) := by decide +kernel
theorem dX2_init_4 : decode cX2_init 4 = .ok (.aload_n 0, 1) := by decide +kernel
theorem dX2_init_5 : decode cX2_init 5 = .ok (.aload_n 1, 1) := by decide +kernel
theorem dX2_init_6 : decode cX2_init 6 = .ok (.putfield 9, 3) := by decide +kernel
theorem dX2_init_9 : decode cX2_init 9 = .ok (.return_, 1) := by decide +kernel
theorem dX2_step_0 : decode cX2_step 0 = .ok (.aload_n 0, 1) := by decide +kernel
theorem dX2_step_1 : decode cX2_step 1 = .ok (.aload_n 1, 1) := by decide +kernel
theorem dX2_step_2 : decode cX2_step 2 = .ok (.invokestatic 15, 3) := by decide +kernel
theorem dX2_step_5 : decode cX2_step 5 = .ok (.putfield 19, 3) := by decide +kernel
theorem dX2_step_8 : decode cX2_step 8 = .ok (.aload_n 0, 1) := by decide +kernel
theorem dX2_step_9 : decode cX2_step 9 = .ok (.iconst 0, 1) := by decide +kernel
theorem dX2_step_10 : decode cX2_step 10 = .ok (.putfield 23, 3) := by decide +kernel
theorem dX2_step_13 : decode cX2_step 13 = .ok (.aload_n 0, 1) := by decide +kernel
theorem dX2_step_14 : decode cX2_step 14 = .ok (.aload_n 1, 1) := by decide +kernel
theorem dX2_step_15 : decode cX2_step 15 = .ok (.getfield 26, 3) := by decide +kernel
theorem dX2_step_18 : decode cX2_step 18 = .ok (.iconst 1, 1) := by decide +kernel
theorem dX2_step_19 : decode cX2_step 19 = .ok (.iadd, 1) := by decide +kernel
theorem dX2_step_20 : decode cX2_step 20 = .ok (.putfield 31, 3) := by decide +kernel
theorem dX2_step_23 : decode cX2_step 23 = .ok (.aload_n 0, 1) := by decide +kernel
theorem dX2_step_24 : decode cX2_step 24 = .ok (.aload_n 1, 1) := by decide +kernel
theorem dX2_step_25 : decode cX2_step 25 = .ok (.getfield 34, 3) := by decide +kernel
theorem dX2_step_28 : decode cX2_step 28 = .ok (.bipush 8, 2) := by decide +kernel
theorem dX2_step_30 : decode cX2_step 30 = .ok (.iaload, 1) := by decide +kernel
theorem dX2_step_31 : decode cX2_step 31 = .ok (.iconst 1, 1) := by decide +kernel
theorem dX2_step_32 : decode cX2_step 32 = .ok (.iadd, 1) := by decide +kernel
theorem dX2_step_33 : decode cX2_step 33 = .ok (.putfield 38, 3) := by decide +kernel
theorem dX2_step_36 : decode cX2_step 36 = .ok (.aload_n 0, 1) := by decide +kernel
theorem dX2_step_37 : decode cX2_step 37 = .ok (.getfield 19, 3) := by decide +kernel
theorem dX2_step_40 : decode cX2_step 40 = .ok (.ifCond .ne 17, 3) := by decide +kernel
theorem dX2_step_43 : decode cX2_step 43 = .ok (.aload_n 0, 1) := by decide +kernel
theorem dX2_step_44 : decode cX2_step 44 = .ok (.aload_n 1, 1) := by decide +kernel
theorem dX2_step_45 : decode cX2_step 45 = .ok (.aload_n 1, 1) := by decide +kernel
theorem dX2_step_46 : decode cX2_step 46 = .ok (.getfield 26, 3) := by decide +kernel
theorem dX2_step_49 : decode cX2_step 49 = .ok (.bipush 11, 2) := by decide +kernel
theorem dX2_step_51 : decode cX2_step 51 = .ok (.invokevirtual 41, 3) := by decide +kernel
theorem dX2_step_54 : decode cX2_step 54 = .ok (.goto 4, 3) := by decide +kernel
theorem dX2_step_57 : decode cX2_step 57 = .ok (.iconst (-1), 1) := by decide +kernel
theorem dX2_step_58 : decode cX2_step 58 = .ok (.istore_n 2, 1) := by decide +kernel
theorem dX2_step_59 : decode cX2_step 59 = .ok (.aload_n 0, 1) := by decide +kernel
theorem dX2_step_60 : decode cX2_step 60 = .ok (.getfield 19, 3) := by decide +kernel
theorem dX2_step_63 : decode cX2_step 63 = .ok (.ifCond .ne 127, 3) := by decide +kernel
theorem dX2_step_66 : decode cX2_step 66 = .ok (.aload_n 0, 1) := by decide +kernel
theorem dX2_step_67 : decode cX2_step 67 = .ok (.getfield 9, 3) := by decide +kernel
theorem dX2_step_70 : decode cX2_step 70 = .ok (.aload_n 1, 1) := by decide +kernel
theorem dX2_step_71 : decode cX2_step 71 = .ok (.iload_n 2, 1) := by decide +kernel
theorem dX2_step_72 : decode cX2_step 72 = .ok (.invokevirtual 45, 3) := by decide +kernel
theorem dX2_step_75 : decode cX2_step 75 = .ok (.istore_n 3, 1) := by decide +kernel
theorem dX2_step_76 : decode cX2_step 76 = .ok (.iload_n 3, 1) := by decide +kernel
theorem dX2_step_77 : decode cX2_step 77 = .ok (.bipush 26, 2) := by decide +kernel
theorem dX2_step_79 : decode cX2_step 79 = .ok (.iushr, 1) := by decide +kernel
theorem dX2_step_80 : decode cX2_step 80 = .ok (.istore 4, 2) := by decide +kernel
theorem dX2_step_82 : decode cX2_step 82 = .ok (.iload 4, 2) := by decide +kernel
theorem dX2_step_84 : decode cX2_step 84 = .ok (.bipush 10, 2) := by decide +kernel
theorem dX2_step_86 : decode cX2_step 86 = .ok (.if_icmp .gt 16, 3) := by decide +kernel
theorem dX2_step_89 : decode cX2_step 89 = .ok (.aload_n 1, 1) := by decide +kernel
theorem dX2_step_90 : decode cX2_step 90 = .ok (.iload_n 3, 1) := by decide +kernel
theorem dX2_step_91 : decode cX2_step 91 = .ok (.aload_n 1, 1) := by decide +kernel
theorem dX2_step_92 : decode cX2_step 92 = .ok (.iload_n 3, 1) := by decide +kernel
theorem dX2_step_93 : decode cX2_step 93 = .ok (.invokestatic 51, 3) := by decide +kernel
theorem dX2_step_96 : decode cX2_step 96 = .ok (.invokestatic 54, 3) := by decide +kernel
theorem dX2_step_99 : decode cX2_step 99 = .ok (.goto 91, 3) := by decide +kernel
theorem dX2_step_102 : decode cX2_step 102 = .ok (.iload 4, 2) := by decide +kernel
theorem dX2_step_104 : decode cX2_step 104 = .ok (.bipush 13, 2) := by decide +kernel
theorem dX2_step_106 : decode cX2_step 106 = .ok (.if_icmp .gt 12, 3) := by decide +kernel
theorem dX2_step_109 : decode cX2_step 109 = .ok (.aload_n 0, 1) := by decide +kernel
theorem dX2_step_110 : decode cX2_step 110 = .ok (.aload_n 1, 1) := by decide +kernel
theorem dX2_step_111 : decode cX2_step 111 = .ok (.iload_n 3, 1) := by decide +kernel
theorem dX2_step_112 : decode cX2_step 112 = .ok (.invokevirtual 58, 3) := by decide +kernel
theorem dX2_step_115 : decode cX2_step 115 = .ok (.goto 75, 3) := by decide +kernel
theorem dX2_step_118 : decode cX2_step 118 = .ok (.iload 4, 2) := by decide +kernel
theorem dX2_step_120 : decode cX2_step 120 = .ok (.bipush 18, 2) := by decide +kernel
theorem dX2_step_122 : decode cX2_step 122 = .ok (.if_icmp .gt 12, 3) := by decide +kernel
theorem dX2_step_125 : decode cX2_step 125 = .ok (.aload_n 0, 1) := by decide +kernel
theorem dX2_step_126 : decode cX2_step 126 = .ok (.aload_n 1, 1) := by decide +kernel
theorem dX2_step_127 : decode cX2_step 127 = .ok (.iload_n 3, 1) := by decide +kernel
theorem dX2_step_128 : decode cX2_step 128 = .ok (.invokevirtual 62, 3) := by decide +kernel
theorem dX2_step_131 : decode cX2_step 131 = .ok (.goto 59, 3) := by decide +kernel
theorem dX2_step_134 : decode cX2_step 134 = .ok (.iload 4, 2) := by decide +kernel
theorem dX2_step_136 : decode cX2_step 136 = .ok (.bipush 20, 2) := by decide +kernel
theorem dX2_step_138 : decode cX2_step 138 = .ok (.if_icmp .gt 12, 3) := by decide +kernel
theorem dX2_step_141 : decode cX2_step 141 = .ok (.aload_n 0, 1) := by decide +kernel
theorem dX2_step_142 : decode cX2_step 142 = .ok (.aload_n 1, 1) := by decide +kernel
theorem dX2_step_143 : decode cX2_step 143 = .ok (.iload_n 3, 1) := by decide +kernel
theorem dX2_step_144 : decode cX2_step 144 = .ok (.invokevirtual 65, 3) := by decide +kernel
theorem dX2_step_147 : decode cX2_step 147 = .ok (.goto 43, 3) := by decide +kernel
theorem dX2_step_150 : decode cX2_step 150 = .ok (.iload 4, 2) := by decide +kernel
theorem dX2_step_152 : decode cX2_step 152 = .ok (.bipush 29, 2) := by decide +kernel
theorem dX2_step_154 : decode cX2_step 154 = .ok (.if_icmp .le 13, 3) := by decide +kernel
theorem dX2_step_157 : decode cX2_step 157 = .ok (.aload_n 0, 1) := by decide +kernel
theorem dX2_step_158 : decode cX2_step 158 = .ok (.iconst 2, 1) := by decide +kernel
theorem dX2_step_159 : decode cX2_step 159 = .ok (.iload_n 3, 1) := by decide +kernel
theorem dX2_step_160 : decode cX2_step 160 = .ok (.invokevirtual 68, 3) := by decide +kernel
theorem dX2_step_163 : decode cX2_step 163 = .ok (.pop, 1) := by decide +kernel
theorem dX2_step_164 : decode cX2_step 164 = .ok (.goto 26, 3) := by decide +kernel
theorem dX2_step_167 : decode cX2_step 167 = .ok (.aload_n 1, 1) := by decide +kernel
theorem dX2_step_168 : decode cX2_step 168 = .ok (.getfield 72, 3) := by decide +kernel
theorem dX2_step_171 : decode cX2_step 171 = .ok (.ifCond .ne 13, 3) := by decide +kernel
theorem dX2_step_174 : decode cX2_step 174 = .ok (.aload_n 0, 1) := by decide +kernel
theorem dX2_step_175 : decode cX2_step 175 = .ok (.iconst 3, 1) := by decide +kernel
theorem dX2_step_176 : decode cX2_step 176 = .ok (.iload_n 3, 1) := by decide +kernel
theorem dX2_step_177 : decode cX2_step 177 = .ok (.invokevirtual 68, 3) := by decide +kernel
theorem dX2_step_180 : decode cX2_step 180 = .ok (.pop, 1) := by decide +kernel
theorem dX2_step_181 : decode cX2_step 181 = .ok (.goto 9, 3) := by decide +kernel
theorem dX2_step_184 : decode cX2_step 184 = .ok (.aload_n 0, 1) := by decide +kernel
theorem dX2_step_185 : decode cX2_step 185 = .ok (.aload_n 1, 1) := by decide +kernel
theorem dX2_step_186 : decode cX2_step 186 = .ok (.iload_n 3, 1) := by decide +kernel
theorem dX2_step_187 : decode cX2_step 187 = .ok (.invokevirtual 75, 3) := by decide +kernel
theorem dX2_step_190 : decode cX2_step 190 = .ok (.aload_n 0, 1) := by decide +kernel
theorem dX2_step_191 : decode cX2_step 191 = .ok (.getfield 19, 3) := by decide +kernel
theorem dX2_step_194 : decode cX2_step 194 = .ok (.ifCond .ne 25, 3) := by decide +kernel
theorem dX2_step_197 : decode cX2_step 197 = .ok (.aload_n 1, 1) := by decide +kernel
theorem dX2_step_198 : decode cX2_step 198 = .ok (.aload_n 0, 1) := by decide +kernel
theorem dX2_step_199 : decode cX2_step 199 = .ok (.getfield 31, 3) := by decide +kernel
theorem dX2_step_202 : decode cX2_step 202 = .ok (.putfield 26, 3) := by decide +kernel
theorem dX2_step_205 : decode cX2_step 205 = .ok (.aload_n 1, 1) := by decide +kernel
theorem dX2_step_206 : decode cX2_step 206 = .ok (.getfield 34, 3) := by decide +kernel
theorem dX2_step_209 : decode cX2_step 209 = .ok (.bipush 8, 2) := by decide +kernel
theorem dX2_step_211 : decode cX2_step 211 = .ok (.aload_n 0, 1) := by decide +kernel
theorem dX2_step_212 : decode cX2_step 212 = .ok (.getfield 38, 3) := by decide +kernel
theorem dX2_step_215 : decode cX2_step 215 = .ok (.iastore, 1) := by decide +kernel
theorem dX2_step_216 : decode cX2_step 216 = .ok (.goto 15, 3) := by decide +kernel
theorem dX2_step_219 : decode cX2_step 219 = .ok (.aload_n 1, 1) := by decide +kernel
theorem dX2_step_220 : decode cX2_step 220 = .ok (.aload_n 0, 1) := by decide +kernel
theorem dX2_step_221 : decode cX2_step 221 = .ok (.getfield 19, 3) := by decide +kernel
theorem dX2_step_224 : decode cX2_step 224 = .ok (.aload_n 0, 1) := by decide +kernel
theorem dX2_step_225 : decode cX2_step 225 = .ok (.getfield 23, 3) := by decide +kernel
theorem dX2_step_228 : decode cX2_step 228 = .ok (.invokevirtual 78, 3) := by decide +kernel
theorem dX2_step_231 : decode cX2_step 231 = .ok (.return_, 1) := by decide +kernel
theorem dX2_valueA_0 : decode cX2_valueA 0 = .ok (.aload_n 0, 1) := by decide +kernel
theorem dX2_valueA_1 : decode cX2_valueA 1 = .ok (.getfield 82, 3) := by decide +kernel
theorem dX2_valueA_4 : decode cX2_valueA 4 = .ok (.iload_n 1, 1) := by decide +kernel
theorem dX2_valueA_5 : decode cX2_valueA 5 = .ok (.bipush 20, 2) := by decide +kernel
theorem dX2_valueA_7 : decode cX2_valueA 7 = .ok (.iushr, 1) := by decide +kernel
theorem dX2_valueA_8 : decode cX2_valueA 8 = .ok (.bipush 7, 2) := by decide +kernel
theorem dX2_valueA_10 : decode cX2_valueA 10 = .ok (.iand, 1) := by decide +kernel
theorem dX2_valueA_11 : decode cX2_valueA 11 = .ok (.iaload, 1) := by decide +kernel
theorem dX2_valueA_12 : decode cX2_valueA 12 = .ok (.ireturn, 1) := by decide +kernel
theorem dX2_valueB_0 : decode cX2_valueB 0 = .ok (.aload_n 0, 1) := by decide +kernel
theorem dX2_valueB_1 : decode cX2_valueB 1 = .ok (.getfield 82, 3) := by decide +kernel
theorem dX2_valueB_4 : decode cX2_valueB 4 = .ok (.iload_n 1, 1) := by decide +kernel
theorem dX2_valueB_5 : decode cX2_valueB 5 = .ok (.bipush 17, 2) := by decide +kernel
theorem dX2_valueB_7 : decode cX2_valueB 7 = .ok (.iushr, 1) := by decide +kernel
theorem dX2_valueB_8 : decode cX2_valueB 8 = .ok (.bipush 7, 2) := by decide +kernel
theorem dX2_valueB_10 : decode cX2_valueB 10 = .ok (.iand, 1) := by decide +kernel
theorem dX2_valueB_11 : decode cX2_valueB 11 = .ok (.iaload, 1) := by decide +kernel
theorem dX2_valueB_12 : decode cX2_valueB 12 = .ok (.ireturn, 1) := by decide +kernel
theorem dX2_number_0 : decode cX2_number 0 = .ok (.iload_n 0, 1) := by decide +kernel
theorem dX2_number_1 : decode cX2_number 1 = .ok (.bipush 15, 2) := by decide +kernel
theorem dX2_number_3 : decode cX2_number 3 = .ok (.ishl, 1) := by decide +kernel
theorem dX2_number_4 : decode cX2_number 4 = .ok (.bipush 15, 2) := by decide +kernel
theorem dX2_number_6 : decode cX2_number 6 = .ok (.ishr, 1) := by decide +kernel
theorem dX2_number_7 : decode cX2_number 7 = .ok (.ireturn, 1) := by decide +kernel
theorem dX2_setD_0 : decode cX2_setD 0 = .ok (.aload_n 0, 1) := by decide +kernel
theorem dX2_setD_1 : decode cX2_setD 1 = .ok (.getfield 82, 3) := by decide +kernel
theorem dX2_setD_4 : decode cX2_setD 4 = .ok (.iload_n 1, 1) := by decide +kernel
theorem dX2_setD_5 : decode cX2_setD 5 = .ok (.bipush 23, 2) := by decide +kernel
theorem dX2_setD_7 : decode cX2_setD 7 = .ok (.iushr, 1) := by decide +kernel
theorem dX2_setD_8 : decode cX2_setD 8 = .ok (.bipush 7, 2) := by decide +kernel
theorem dX2_setD_10 : decode cX2_setD 10 = .ok (.iand, 1) := by decide +kernel
theorem dX2_setD_11 : decode cX2_setD 11 = .ok (.iload_n 2, 1) := by decide +kernel
theorem dX2_setD_12 : decode cX2_setD 12 = .ok (.iastore, 1) := by decide +kernel
theorem dX2_setD_13 : decode cX2_setD 13 = .ok (.return_, 1) := by decide +kernel
theorem dX2_refuse_0 : decode cX2_refuse 0 = .ok (.aload_n 0, 1) := by decide +kernel
theorem dX2_refuse_1 : decode cX2_refuse 1 = .ok (.iload_n 1, 1) := by decide +kernel
theorem dX2_refuse_2 : decode cX2_refuse 2 = .ok (.putfield 19, 3) := by decide +kernel
theorem dX2_refuse_5 : decode cX2_refuse 5 = .ok (.aload_n 0, 1) := by decide +kernel
theorem dX2_refuse_6 : decode cX2_refuse 6 = .ok (.iload_n 2, 1) := by decide +kernel
theorem dX2_refuse_7 : decode cX2_refuse 7 = .ok (.putfield 23, 3) := by decide +kernel
theorem dX2_refuse_10 : decode cX2_refuse 10 = .ok (.iconst (-1), 1) := by decide +kernel
theorem dX2_refuse_11 : decode cX2_refuse 11 = .ok (.ireturn, 1) := by decide +kernel
theorem dX2_lineTrap_0 : decode cX2_lineTrap 0 = .ok (.aload_n 0, 1) := by decide +kernel
theorem dX2_lineTrap_1 : decode cX2_lineTrap 1 = .ok (.getfield 34, 3) := by decide +kernel
theorem dX2_lineTrap_4 : decode cX2_lineTrap 4 = .ok (.iconst 0, 1) := by decide +kernel
theorem dX2_lineTrap_5 : decode cX2_lineTrap 5 = .ok (.iaload, 1) := by decide +kernel
theorem dX2_lineTrap_6 : decode cX2_lineTrap 6 = .ok (.istore_n 1, 1) := by decide +kernel
theorem dX2_lineTrap_7 : decode cX2_lineTrap 7 = .ok (.iload_n 1, 1) := by decide +kernel
theorem dX2_lineTrap_8 : decode cX2_lineTrap 8 = .ok (.iconst 1, 1) := by decide +kernel
theorem dX2_lineTrap_9 : decode cX2_lineTrap 9 = .ok (.iand, 1) := by decide +kernel
theorem dX2_lineTrap_10 : decode cX2_lineTrap 10 = .ok (.ifCond .ne 5, 3) := by decide +kernel
theorem dX2_lineTrap_13 : decode cX2_lineTrap 13 = .ok (.iconst 0, 1) := by decide +kernel
theorem dX2_lineTrap_14 : decode cX2_lineTrap 14 = .ok (.ireturn, 1) := by decide +kernel
theorem dX2_lineTrap_15 : decode cX2_lineTrap 15 = .ok (.iload_n 1, 1) := by decide +kernel
theorem dX2_lineTrap_16 : decode cX2_lineTrap 16 = .ok (.sipush 256, 3) := by decide +kernel
theorem dX2_lineTrap_19 : decode cX2_lineTrap 19 = .ok (.iand, 1) := by decide +kernel
theorem dX2_lineTrap_20 : decode cX2_lineTrap 20 = .ok (.ifCond .eq 13, 3) := by decide +kernel
theorem dX2_lineTrap_23 : decode cX2_lineTrap 23 = .ok (.aload_n 0, 1) := by decide +kernel
theorem dX2_lineTrap_24 : decode cX2_lineTrap 24 = .ok (.invokevirtual 85, 3) := by decide +kernel
theorem dX2_lineTrap_27 : decode cX2_lineTrap 27 = .ok (.ifCond .eq 6, 3) := by decide +kernel
theorem dX2_lineTrap_30 : decode cX2_lineTrap 30 = .ok (.bipush 16, 2) := by decide +kernel
theorem dX2_lineTrap_32 : decode cX2_lineTrap 32 = .ok (.ireturn, 1) := by decide +kernel
theorem dX2_lineTrap_33 : decode cX2_lineTrap 33 = .ok (.iload_n 1, 1) := by decide +kernel
theorem dX2_lineTrap_34 : decode cX2_lineTrap 34 = .ok (.sipush 512, 3) := by decide +kernel
theorem dX2_lineTrap_37 : decode cX2_lineTrap 37 = .ok (.iand, 1) := by decide +kernel
theorem dX2_lineTrap_38 : decode cX2_lineTrap 38 = .ok (.ifCond .eq 15, 3) := by decide +kernel
theorem dX2_lineTrap_41 : decode cX2_lineTrap 41 = .ok (.aload_n 0, 1) := by decide +kernel
theorem dX2_lineTrap_42 : decode cX2_lineTrap 42 = .ok (.getfield 89, 3) := by decide +kernel
theorem dX2_lineTrap_45 : decode cX2_lineTrap 45 = .ok (.ifCond .le 8, 3) := by decide +kernel
theorem dX2_lineTrap_48 : decode cX2_lineTrap 48 = .ok (.bipush 17, 2) := by decide +kernel
theorem dX2_lineTrap_50 : decode cX2_lineTrap 50 = .ok (.goto 4, 3) := by decide +kernel
theorem dX2_lineTrap_53 : decode cX2_lineTrap 53 = .ok (.iconst 0, 1) := by decide +kernel
theorem dX2_lineTrap_54 : decode cX2_lineTrap 54 = .ok (.ireturn, 1) := by decide +kernel
theorem dX2_locate_0 : decode cX2_locate 0 = .ok (.aload_n 1, 1) := by decide +kernel
theorem dX2_locate_1 : decode cX2_locate 1 = .ok (.getfield 34, 3) := by decide +kernel
theorem dX2_locate_4 : decode cX2_locate 4 = .ok (.iconst 5, 1) := by decide +kernel
theorem dX2_locate_5 : decode cX2_locate 5 = .ok (.iaload, 1) := by decide +kernel
theorem dX2_locate_6 : decode cX2_locate 6 = .ok (.istore 4, 2) := by decide +kernel
theorem dX2_locate_8 : decode cX2_locate 8 = .ok (.iload 4, 2) := by decide +kernel
theorem dX2_locate_10 : decode cX2_locate 10 = .ok (.ifCond .lt 22, 3) := by decide +kernel
theorem dX2_locate_13 : decode cX2_locate 13 = .ok (.aload_n 1, 1) := by decide +kernel
theorem dX2_locate_14 : decode cX2_locate 14 = .ok (.iload_n 2, 1) := by decide +kernel
theorem dX2_locate_15 : decode cX2_locate 15 = .ok (.invokevirtual 92, 3) := by decide +kernel
theorem dX2_locate_18 : decode cX2_locate 18 = .ok (.ifCond .eq 7, 3) := by decide +kernel
theorem dX2_locate_21 : decode cX2_locate 21 = .ok (.iload_n 2, 1) := by decide +kernel
theorem dX2_locate_22 : decode cX2_locate 22 = .ok (.goto 9, 3) := by decide +kernel
theorem dX2_locate_25 : decode cX2_locate 25 = .ok (.aload_n 0, 1) := by decide +kernel
theorem dX2_locate_26 : decode cX2_locate 26 = .ok (.iconst 5, 1) := by decide +kernel
theorem dX2_locate_27 : decode cX2_locate 27 = .ok (.iload_n 2, 1) := by decide +kernel
theorem dX2_locate_28 : decode cX2_locate 28 = .ok (.invokevirtual 68, 3) := by decide +kernel
theorem dX2_locate_31 : decode cX2_locate 31 = .ok (.ireturn, 1) := by decide +kernel
theorem dX2_locate_32 : decode cX2_locate 32 = .ok (.iload_n 2, 1) := by decide +kernel
theorem dX2_locate_33 : decode cX2_locate 33 = .ok (.ifCond .lt 10, 3) := by decide +kernel
theorem dX2_locate_36 : decode cX2_locate 36 = .ok (.iload_n 2, 1) := by decide +kernel
theorem dX2_locate_37 : decode cX2_locate 37 = .ok (.sipush 16384, 3) := by decide +kernel
theorem dX2_locate_40 : decode cX2_locate 40 = .ok (.if_icmp .lt 10, 3) := by decide +kernel
theorem dX2_locate_43 : decode cX2_locate 43 = .ok (.aload_n 0, 1) := by decide +kernel
theorem dX2_locate_44 : decode cX2_locate 44 = .ok (.iload_n 3, 1) := by decide +kernel
theorem dX2_locate_45 : decode cX2_locate 45 = .ok (.iload_n 2, 1) := by decide +kernel
theorem dX2_locate_46 : decode cX2_locate 46 = .ok (.invokevirtual 68, 3) := by decide +kernel
theorem dX2_locate_49 : decode cX2_locate 49 = .ok (.ireturn, 1) := by decide +kernel
theorem dX2_locate_50 : decode cX2_locate 50 = .ok (.iload_n 2, 1) := by decide +kernel
theorem dX2_locate_51 : decode cX2_locate 51 = .ok (.bipush 6, 2) := by decide +kernel
theorem dX2_locate_53 : decode cX2_locate 53 = .ok (.ishr, 1) := by decide +kernel
theorem dX2_locate_54 : decode cX2_locate 54 = .ok (.istore 5, 2) := by decide +kernel
theorem dX2_locate_56 : decode cX2_locate 56 = .ok (.bipush 64, 2) := by decide +kernel
theorem dX2_locate_58 : decode cX2_locate 58 = .ok (.iload 4, 2) := by decide +kernel
theorem dX2_locate_60 : decode cX2_locate 60 = .ok (.bipush 63, 2) := by decide +kernel
theorem dX2_locate_62 : decode cX2_locate 62 = .ok (.iand, 1) := by decide +kernel
theorem dX2_locate_63 : decode cX2_locate 63 = .ok (.imul, 1) := by decide +kernel
theorem dX2_locate_64 : decode cX2_locate 64 = .ok (.iload 5, 2) := by decide +kernel
theorem dX2_locate_66 : decode cX2_locate 66 = .ok (.iadd, 1) := by decide +kernel
theorem dX2_locate_67 : decode cX2_locate 67 = .ok (.istore 6, 2) := by decide +kernel
theorem dX2_locate_69 : decode cX2_locate 69 = .ok (.aload_n 1, 1) := by decide +kernel
theorem dX2_locate_70 : decode cX2_locate 70 = .ok (.getfield 96, 3) := by decide +kernel
theorem dX2_locate_73 : decode cX2_locate 73 = .ok (.iload 5, 2) := by decide +kernel
theorem dX2_locate_75 : decode cX2_locate 75 = .ok (.iaload, 1) := by decide +kernel
theorem dX2_locate_76 : decode cX2_locate 76 = .ok (.istore 7, 2) := by decide +kernel
theorem dX2_locate_78 : decode cX2_locate 78 = .ok (.iload 7, 2) := by decide +kernel
theorem dX2_locate_80 : decode cX2_locate 80 = .ok (.iconst (-1), 1) := by decide +kernel
theorem dX2_locate_81 : decode cX2_locate 81 = .ok (.if_icmp .ne 108, 3) := by decide +kernel
theorem dX2_locate_84 : decode cX2_locate 84 = .ok (.aload_n 1, 1) := by decide +kernel
theorem dX2_locate_85 : decode cX2_locate 85 = .ok (.iload 6, 2) := by decide +kernel
theorem dX2_locate_87 : decode cX2_locate 87 = .ok (.invokevirtual 92, 3) := by decide +kernel
theorem dX2_locate_90 : decode cX2_locate 90 = .ok (.ifCond .ne 10, 3) := by decide +kernel
theorem dX2_locate_93 : decode cX2_locate 93 = .ok (.aload_n 0, 1) := by decide +kernel
theorem dX2_locate_94 : decode cX2_locate 94 = .ok (.iconst 5, 1) := by decide +kernel
theorem dX2_locate_95 : decode cX2_locate 95 = .ok (.iload_n 2, 1) := by decide +kernel
theorem dX2_locate_96 : decode cX2_locate 96 = .ok (.invokevirtual 68, 3) := by decide +kernel
theorem dX2_locate_99 : decode cX2_locate 99 = .ok (.ireturn, 1) := by decide +kernel
theorem dX2_locate_100 : decode cX2_locate 100 = .ok (.aload_n 0, 1) := by decide +kernel
theorem dX2_locate_101 : decode cX2_locate 101 = .ok (.getfield 9, 3) := by decide +kernel
theorem dX2_locate_104 : decode cX2_locate 104 = .ok (.aload_n 1, 1) := by decide +kernel
theorem dX2_locate_105 : decode cX2_locate 105 = .ok (.iload 6, 2) := by decide +kernel
theorem dX2_locate_107 : decode cX2_locate 107 = .ok (.invokevirtual 45, 3) := by decide +kernel
theorem dX2_locate_110 : decode cX2_locate 110 = .ok (.istore 8, 2) := by decide +kernel
theorem dX2_locate_112 : decode cX2_locate 112 = .ok (.iload 8, 2) := by decide +kernel
theorem dX2_locate_114 : decode cX2_locate 114 = .ok (.bipush 8, 2) := by decide +kernel
theorem dX2_locate_116 : decode cX2_locate 116 = .ok (.ishr, 1) := by decide +kernel
theorem dX2_locate_117 : decode cX2_locate 117 = .ok (.bipush 63, 2) := by decide +kernel
theorem dX2_locate_119 : decode cX2_locate 119 = .ok (.iand, 1) := by decide +kernel
theorem dX2_locate_120 : decode cX2_locate 120 = .ok (.istore 9, 2) := by decide +kernel
theorem dX2_locate_122 : decode cX2_locate 122 = .ok (.iload 8, 2) := by decide +kernel
theorem dX2_locate_124 : decode cX2_locate 124 = .ok (.iconst 1, 1) := by decide +kernel
theorem dX2_locate_125 : decode cX2_locate 125 = .ok (.iand, 1) := by decide +kernel
theorem dX2_locate_126 : decode cX2_locate 126 = .ok (.ifCond .eq 12, 3) := by decide +kernel
theorem dX2_locate_129 : decode cX2_locate 129 = .ok (.iload 9, 2) := by decide +kernel
theorem dX2_locate_131 : decode cX2_locate 131 = .ok (.aload_n 1, 1) := by decide +kernel
theorem dX2_locate_132 : decode cX2_locate 132 = .ok (.getfield 99, 3) := by decide +kernel
theorem dX2_locate_135 : decode cX2_locate 135 = .ok (.if_icmp .lt 10, 3) := by decide +kernel
theorem dX2_locate_138 : decode cX2_locate 138 = .ok (.aload_n 0, 1) := by decide +kernel
theorem dX2_locate_139 : decode cX2_locate 139 = .ok (.iload_n 3, 1) := by decide +kernel
theorem dX2_locate_140 : decode cX2_locate 140 = .ok (.iload_n 2, 1) := by decide +kernel
theorem dX2_locate_141 : decode cX2_locate 141 = .ok (.invokevirtual 68, 3) := by decide +kernel
theorem dX2_locate_144 : decode cX2_locate 144 = .ok (.ireturn, 1) := by decide +kernel
theorem dX2_locate_145 : decode cX2_locate 145 = .ok (.aload_n 0, 1) := by decide +kernel
theorem dX2_locate_146 : decode cX2_locate 146 = .ok (.getfield 9, 3) := by decide +kernel
theorem dX2_locate_149 : decode cX2_locate 149 = .ok (.aload_n 1, 1) := by decide +kernel
theorem dX2_locate_150 : decode cX2_locate 150 = .ok (.iload 6, 2) := by decide +kernel
theorem dX2_locate_152 : decode cX2_locate 152 = .ok (.iload 8, 2) := by decide +kernel
theorem dX2_locate_154 : decode cX2_locate 154 = .ok (.bipush 8, 2) := by decide +kernel
theorem dX2_locate_156 : decode cX2_locate 156 = .ok (.ior, 1) := by decide +kernel
theorem dX2_locate_157 : decode cX2_locate 157 = .ok (.invokevirtual 102, 3) := by decide +kernel
theorem dX2_locate_160 : decode cX2_locate 160 = .ok (.iload 9, 2) := by decide +kernel
theorem dX2_locate_162 : decode cX2_locate 162 = .ok (.iconst 3, 1) := by decide +kernel
theorem dX2_locate_163 : decode cX2_locate 163 = .ok (.ishl, 1) := by decide +kernel
theorem dX2_locate_164 : decode cX2_locate 164 = .ok (.iload 8, 2) := by decide +kernel
theorem dX2_locate_166 : decode cX2_locate 166 = .ok (.iconst 1, 1) := by decide +kernel
theorem dX2_locate_167 : decode cX2_locate 167 = .ok (.ishr, 1) := by decide +kernel
theorem dX2_locate_168 : decode cX2_locate 168 = .ok (.iconst 3, 1) := by decide +kernel
theorem dX2_locate_169 : decode cX2_locate 169 = .ok (.iand, 1) := by decide +kernel
theorem dX2_locate_170 : decode cX2_locate 170 = .ok (.ior, 1) := by decide +kernel
theorem dX2_locate_171 : decode cX2_locate 171 = .ok (.iload 8, 2) := by decide +kernel
theorem dX2_locate_173 : decode cX2_locate 173 = .ok (.iconst 2, 1) := by decide +kernel
theorem dX2_locate_174 : decode cX2_locate 174 = .ok (.ishr, 1) := by decide +kernel
theorem dX2_locate_175 : decode cX2_locate 175 = .ok (.iconst 4, 1) := by decide +kernel
theorem dX2_locate_176 : decode cX2_locate 176 = .ok (.iand, 1) := by decide +kernel
theorem dX2_locate_177 : decode cX2_locate 177 = .ok (.ior, 1) := by decide +kernel
theorem dX2_locate_178 : decode cX2_locate 178 = .ok (.istore 7, 2) := by decide +kernel
theorem dX2_locate_180 : decode cX2_locate 180 = .ok (.aload_n 1, 1) := by decide +kernel
theorem dX2_locate_181 : decode cX2_locate 181 = .ok (.getfield 96, 3) := by decide +kernel
theorem dX2_locate_184 : decode cX2_locate 184 = .ok (.iload 5, 2) := by decide +kernel
theorem dX2_locate_186 : decode cX2_locate 186 = .ok (.iload 7, 2) := by decide +kernel
theorem dX2_locate_188 : decode cX2_locate 188 = .ok (.iastore, 1) := by decide +kernel
theorem dX2_locate_189 : decode cX2_locate 189 = .ok (.aload_n 1, 1) := by decide +kernel
theorem dX2_locate_190 : decode cX2_locate 190 = .ok (.getfield 72, 3) := by decide +kernel
theorem dX2_locate_193 : decode cX2_locate 193 = .ok (.ifCond .ne 10, 3) := by decide +kernel
theorem dX2_locate_196 : decode cX2_locate 196 = .ok (.iload 7, 2) := by decide +kernel
theorem dX2_locate_198 : decode cX2_locate 198 = .ok (.iconst 2, 1) := by decide +kernel
theorem dX2_locate_199 : decode cX2_locate 199 = .ok (.iand, 1) := by decide +kernel
theorem dX2_locate_200 : decode cX2_locate 200 = .ok (.ifCond .eq 16, 3) := by decide +kernel
theorem dX2_locate_203 : decode cX2_locate 203 = .ok (.iload_n 3, 1) := by decide +kernel
theorem dX2_locate_204 : decode cX2_locate 204 = .ok (.bipush 13, 2) := by decide +kernel
theorem dX2_locate_206 : decode cX2_locate 206 = .ok (.if_icmp .ne 17, 3) := by decide +kernel
theorem dX2_locate_209 : decode cX2_locate 209 = .ok (.iload 7, 2) := by decide +kernel
theorem dX2_locate_211 : decode cX2_locate 211 = .ok (.iconst 1, 1) := by decide +kernel
theorem dX2_locate_212 : decode cX2_locate 212 = .ok (.iand, 1) := by decide +kernel
theorem dX2_locate_213 : decode cX2_locate 213 = .ok (.ifCond .ne 10, 3) := by decide +kernel
theorem dX2_locate_216 : decode cX2_locate 216 = .ok (.aload_n 0, 1) := by decide +kernel
theorem dX2_locate_217 : decode cX2_locate 217 = .ok (.iload_n 3, 1) := by decide +kernel
theorem dX2_locate_218 : decode cX2_locate 218 = .ok (.iload_n 2, 1) := by decide +kernel
theorem dX2_locate_219 : decode cX2_locate 219 = .ok (.invokevirtual 68, 3) := by decide +kernel
theorem dX2_locate_222 : decode cX2_locate 222 = .ok (.ireturn, 1) := by decide +kernel
theorem dX2_locate_223 : decode cX2_locate 223 = .ok (.iload_n 3, 1) := by decide +kernel
theorem dX2_locate_224 : decode cX2_locate 224 = .ok (.bipush 13, 2) := by decide +kernel
theorem dX2_locate_226 : decode cX2_locate 226 = .ok (.if_icmp .ne 44, 3) := by decide +kernel
theorem dX2_locate_229 : decode cX2_locate 229 = .ok (.iload 7, 2) := by decide +kernel
theorem dX2_locate_231 : decode cX2_locate 231 = .ok (.iconst 4, 1) := by decide +kernel
theorem dX2_locate_232 : decode cX2_locate 232 = .ok (.iand, 1) := by decide +kernel
theorem dX2_locate_233 : decode cX2_locate 233 = .ok (.ifCond .ne 37, 3) := by decide +kernel
theorem dX2_locate_236 : decode cX2_locate 236 = .ok (.aload_n 0, 1) := by decide +kernel
theorem dX2_locate_237 : decode cX2_locate 237 = .ok (.getfield 9, 3) := by decide +kernel
theorem dX2_locate_240 : decode cX2_locate 240 = .ok (.aload_n 1, 1) := by decide +kernel
theorem dX2_locate_241 : decode cX2_locate 241 = .ok (.iload 6, 2) := by decide +kernel
theorem dX2_locate_243 : decode cX2_locate 243 = .ok (.aload_n 0, 1) := by decide +kernel
theorem dX2_locate_244 : decode cX2_locate 244 = .ok (.getfield 9, 3) := by decide +kernel
theorem dX2_locate_247 : decode cX2_locate 247 = .ok (.aload_n 1, 1) := by decide +kernel
theorem dX2_locate_248 : decode cX2_locate 248 = .ok (.iload 6, 2) := by decide +kernel
theorem dX2_locate_250 : decode cX2_locate 250 = .ok (.invokevirtual 45, 3) := by decide +kernel
theorem dX2_locate_253 : decode cX2_locate 253 = .ok (.bipush 16, 2) := by decide +kernel
theorem dX2_locate_255 : decode cX2_locate 255 = .ok (.ior, 1) := by decide +kernel
theorem dX2_locate_256 : decode cX2_locate 256 = .ok (.invokevirtual 102, 3) := by decide +kernel
theorem dX2_locate_259 : decode cX2_locate 259 = .ok (.aload_n 1, 1) := by decide +kernel
theorem dX2_locate_260 : decode cX2_locate 260 = .ok (.getfield 96, 3) := by decide +kernel
theorem dX2_locate_263 : decode cX2_locate 263 = .ok (.iload 5, 2) := by decide +kernel
theorem dX2_locate_265 : decode cX2_locate 265 = .ok (.iload 7, 2) := by decide +kernel
theorem dX2_locate_267 : decode cX2_locate 267 = .ok (.iconst 4, 1) := by decide +kernel
theorem dX2_locate_268 : decode cX2_locate 268 = .ok (.ior, 1) := by decide +kernel
theorem dX2_locate_269 : decode cX2_locate 269 = .ok (.iastore, 1) := by decide +kernel
theorem dX2_locate_270 : decode cX2_locate 270 = .ok (.iload 7, 2) := by decide +kernel
theorem dX2_locate_272 : decode cX2_locate 272 = .ok (.iconst 3, 1) := by decide +kernel
theorem dX2_locate_273 : decode cX2_locate 273 = .ok (.ishr, 1) := by decide +kernel
theorem dX2_locate_274 : decode cX2_locate 274 = .ok (.bipush 64, 2) := by decide +kernel
theorem dX2_locate_276 : decode cX2_locate 276 = .ok (.imul, 1) := by decide +kernel
theorem dX2_locate_277 : decode cX2_locate 277 = .ok (.iload_n 2, 1) := by decide +kernel
theorem dX2_locate_278 : decode cX2_locate 278 = .ok (.bipush 63, 2) := by decide +kernel
theorem dX2_locate_280 : decode cX2_locate 280 = .ok (.iand, 1) := by decide +kernel
theorem dX2_locate_281 : decode cX2_locate 281 = .ok (.iadd, 1) := by decide +kernel
theorem dX2_locate_282 : decode cX2_locate 282 = .ok (.ireturn, 1) := by decide +kernel
theorem dX2_sum_0 : decode cX2_sum 0 = .ok (.aload_n 0, 1) := by decide +kernel
theorem dX2_sum_1 : decode cX2_sum 1 = .ok (.iload_n 1, 1) := by decide +kernel
theorem dX2_sum_2 : decode cX2_sum 2 = .ok (.invokestatic 105, 3) := by decide +kernel
theorem dX2_sum_5 : decode cX2_sum 5 = .ok (.istore_n 2, 1) := by decide +kernel
theorem dX2_sum_6 : decode cX2_sum 6 = .ok (.aload_n 0, 1) := by decide +kernel
theorem dX2_sum_7 : decode cX2_sum 7 = .ok (.iload_n 1, 1) := by decide +kernel
theorem dX2_sum_8 : decode cX2_sum 8 = .ok (.invokestatic 108, 3) := by decide +kernel
theorem dX2_sum_11 : decode cX2_sum 11 = .ok (.istore_n 3, 1) := by decide +kernel
theorem dX2_sum_12 : decode cX2_sum 12 = .ok (.iload_n 1, 1) := by decide +kernel
theorem dX2_sum_13 : decode cX2_sum 13 = .ok (.bipush 26, 2) := by decide +kernel
theorem dX2_sum_15 : decode cX2_sum 15 = .ok (.iushr, 1) := by decide +kernel
theorem dX2_sum_16 : decode cX2_sum 16 = .ok (.tableswitch 112 0 9 #[56, 60, 64, 68, 72, 76, 80, 91, 98, 105], 56) := by decide +kernel
theorem dX2_sum_72 : decode cX2_sum 72 = .ok (.iload_n 2, 1) := by decide +kernel
theorem dX2_sum_73 : decode cX2_sum 73 = .ok (.iload_n 3, 1) := by decide +kernel
theorem dX2_sum_74 : decode cX2_sum 74 = .ok (.iadd, 1) := by decide +kernel
theorem dX2_sum_75 : decode cX2_sum 75 = .ok (.ireturn, 1) := by decide +kernel
theorem dX2_sum_76 : decode cX2_sum 76 = .ok (.iload_n 2, 1) := by decide +kernel
theorem dX2_sum_77 : decode cX2_sum 77 = .ok (.iload_n 3, 1) := by decide +kernel
theorem dX2_sum_78 : decode cX2_sum 78 = .ok (.isub, 1) := by decide +kernel
theorem dX2_sum_79 : decode cX2_sum 79 = .ok (.ireturn, 1) := by decide +kernel
theorem dX2_sum_80 : decode cX2_sum 80 = .ok (.iload_n 2, 1) := by decide +kernel
theorem dX2_sum_81 : decode cX2_sum 81 = .ok (.iload_n 3, 1) := by decide +kernel
theorem dX2_sum_82 : decode cX2_sum 82 = .ok (.iand, 1) := by decide +kernel
theorem dX2_sum_83 : decode cX2_sum 83 = .ok (.ireturn, 1) := by decide +kernel
theorem dX2_sum_84 : decode cX2_sum 84 = .ok (.iload_n 2, 1) := by decide +kernel
theorem dX2_sum_85 : decode cX2_sum 85 = .ok (.iload_n 3, 1) := by decide +kernel
theorem dX2_sum_86 : decode cX2_sum 86 = .ok (.ior, 1) := by decide +kernel
theorem dX2_sum_87 : decode cX2_sum 87 = .ok (.ireturn, 1) := by decide +kernel
theorem dX2_sum_88 : decode cX2_sum 88 = .ok (.iload_n 2, 1) := by decide +kernel
theorem dX2_sum_89 : decode cX2_sum 89 = .ok (.iload_n 3, 1) := by decide +kernel
theorem dX2_sum_90 : decode cX2_sum 90 = .ok (.ixor, 1) := by decide +kernel
theorem dX2_sum_91 : decode cX2_sum 91 = .ok (.ireturn, 1) := by decide +kernel
theorem dX2_sum_92 : decode cX2_sum 92 = .ok (.iload_n 2, 1) := by decide +kernel
theorem dX2_sum_93 : decode cX2_sum 93 = .ok (.iload_n 3, 1) := by decide +kernel
theorem dX2_sum_94 : decode cX2_sum 94 = .ok (.imul, 1) := by decide +kernel
theorem dX2_sum_95 : decode cX2_sum 95 = .ok (.ireturn, 1) := by decide +kernel
theorem dX2_sum_96 : decode cX2_sum 96 = .ok (.iload_n 2, 1) := by decide +kernel
theorem dX2_sum_97 : decode cX2_sum 97 = .ok (.iload_n 3, 1) := by decide +kernel
theorem dX2_sum_98 : decode cX2_sum 98 = .ok (.if_icmp .ge 7, 3) := by decide +kernel
theorem dX2_sum_101 : decode cX2_sum 101 = .ok (.iconst 1, 1) := by decide +kernel
theorem dX2_sum_102 : decode cX2_sum 102 = .ok (.goto 4, 3) := by decide +kernel
theorem dX2_sum_105 : decode cX2_sum 105 = .ok (.iconst 0, 1) := by decide +kernel
theorem dX2_sum_106 : decode cX2_sum 106 = .ok (.ireturn, 1) := by decide +kernel
theorem dX2_sum_107 : decode cX2_sum 107 = .ok (.iload_n 2, 1) := by decide +kernel
theorem dX2_sum_108 : decode cX2_sum 108 = .ok (.iload_n 3, 1) := by decide +kernel
theorem dX2_sum_109 : decode cX2_sum 109 = .ok (.bipush 31, 2) := by decide +kernel
theorem dX2_sum_111 : decode cX2_sum 111 = .ok (.iand, 1) := by decide +kernel
theorem dX2_sum_112 : decode cX2_sum 112 = .ok (.ishl, 1) := by decide +kernel
theorem dX2_sum_113 : decode cX2_sum 113 = .ok (.ireturn, 1) := by decide +kernel
theorem dX2_sum_114 : decode cX2_sum 114 = .ok (.iload_n 2, 1) := by decide +kernel
theorem dX2_sum_115 : decode cX2_sum 115 = .ok (.iload_n 3, 1) := by decide +kernel
theorem dX2_sum_116 : decode cX2_sum 116 = .ok (.bipush 31, 2) := by decide +kernel
theorem dX2_sum_118 : decode cX2_sum 118 = .ok (.iand, 1) := by decide +kernel
theorem dX2_sum_119 : decode cX2_sum 119 = .ok (.iushr, 1) := by decide +kernel
theorem dX2_sum_120 : decode cX2_sum 120 = .ok (.ireturn, 1) := by decide +kernel
theorem dX2_sum_121 : decode cX2_sum 121 = .ok (.iload_n 2, 1) := by decide +kernel
theorem dX2_sum_122 : decode cX2_sum 122 = .ok (.iload_n 1, 1) := by decide +kernel
theorem dX2_sum_123 : decode cX2_sum 123 = .ok (.invokestatic 111, 3) := by decide +kernel
theorem dX2_sum_126 : decode cX2_sum 126 = .ok (.iadd, 1) := by decide +kernel
theorem dX2_sum_127 : decode cX2_sum 127 = .ok (.ireturn, 1) := by decide +kernel
theorem dX2_sum_128 : decode cX2_sum 128 = .ok (.iload_n 1, 1) := by decide +kernel
theorem dX2_sum_129 : decode cX2_sum 129 = .ok (.invokestatic 111, 3) := by decide +kernel
theorem dX2_sum_132 : decode cX2_sum 132 = .ok (.bipush 15, 2) := by decide +kernel
theorem dX2_sum_134 : decode cX2_sum 134 = .ok (.ishl, 1) := by decide +kernel
theorem dX2_sum_135 : decode cX2_sum 135 = .ok (.ireturn, 1) := by decide +kernel
theorem dX2_useMemory_0 : decode cX2_useMemory 0 = .ok (.iload_n 2, 1) := by decide +kernel
theorem dX2_useMemory_1 : decode cX2_useMemory 1 = .ok (.bipush 26, 2) := by decide +kernel
theorem dX2_useMemory_3 : decode cX2_useMemory 3 = .ok (.iushr, 1) := by decide +kernel
theorem dX2_useMemory_4 : decode cX2_useMemory 4 = .ok (.istore_n 3, 1) := by decide +kernel
theorem dX2_useMemory_5 : decode cX2_useMemory 5 = .ok (.aload_n 0, 1) := by decide +kernel
theorem dX2_useMemory_6 : decode cX2_useMemory 6 = .ok (.aload_n 1, 1) := by decide +kernel
theorem dX2_useMemory_7 : decode cX2_useMemory 7 = .ok (.aload_n 1, 1) := by decide +kernel
theorem dX2_useMemory_8 : decode cX2_useMemory 8 = .ok (.iload_n 2, 1) := by decide +kernel
theorem dX2_useMemory_9 : decode cX2_useMemory 9 = .ok (.invokestatic 105, 3) := by decide +kernel
theorem dX2_useMemory_12 : decode cX2_useMemory 12 = .ok (.iload_n 2, 1) := by decide +kernel
theorem dX2_useMemory_13 : decode cX2_useMemory 13 = .ok (.invokestatic 111, 3) := by decide +kernel
theorem dX2_useMemory_16 : decode cX2_useMemory 16 = .ok (.iadd, 1) := by decide +kernel
theorem dX2_useMemory_17 : decode cX2_useMemory 17 = .ok (.iload_n 3, 1) := by decide +kernel
theorem dX2_useMemory_18 : decode cX2_useMemory 18 = .ok (.bipush 11, 2) := by decide +kernel
theorem dX2_useMemory_20 : decode cX2_useMemory 20 = .ok (.if_icmp .ne 8, 3) := by decide +kernel
theorem dX2_useMemory_23 : decode cX2_useMemory 23 = .ok (.bipush 12, 2) := by decide +kernel
theorem dX2_useMemory_25 : decode cX2_useMemory 25 = .ok (.goto 5, 3) := by decide +kernel
theorem dX2_useMemory_28 : decode cX2_useMemory 28 = .ok (.bipush 13, 2) := by decide +kernel
theorem dX2_useMemory_30 : decode cX2_useMemory 30 = .ok (.invokevirtual 41, 3) := by decide +kernel
theorem dX2_useMemory_33 : decode cX2_useMemory 33 = .ok (.istore 4, 2) := by decide +kernel
theorem dX2_useMemory_35 : decode cX2_useMemory 35 = .ok (.aload_n 0, 1) := by decide +kernel
theorem dX2_useMemory_36 : decode cX2_useMemory 36 = .ok (.getfield 19, 3) := by decide +kernel
theorem dX2_useMemory_39 : decode cX2_useMemory 39 = .ok (.ifCond .eq 4, 3) := by decide +kernel
theorem dX2_useMemory_42 : decode cX2_useMemory 42 = .ok (.return_, 1) := by decide +kernel
theorem dX2_useMemory_43 : decode cX2_useMemory 43 = .ok (.aload_n 1, 1) := by decide +kernel
theorem dX2_useMemory_44 : decode cX2_useMemory 44 = .ok (.iload_n 2, 1) := by decide +kernel
theorem dX2_useMemory_45 : decode cX2_useMemory 45 = .ok (.invokestatic 108, 3) := by decide +kernel
theorem dX2_useMemory_48 : decode cX2_useMemory 48 = .ok (.istore 5, 2) := by decide +kernel
theorem dX2_useMemory_50 : decode cX2_useMemory 50 = .ok (.iload_n 3, 1) := by decide +kernel
theorem dX2_useMemory_51 : decode cX2_useMemory 51 = .ok (.bipush 12, 2) := by decide +kernel
theorem dX2_useMemory_53 : decode cX2_useMemory 53 = .ok (.if_icmp .eq 18, 3) := by decide +kernel
theorem dX2_useMemory_56 : decode cX2_useMemory 56 = .ok (.aload_n 1, 1) := by decide +kernel
theorem dX2_useMemory_57 : decode cX2_useMemory 57 = .ok (.iload_n 2, 1) := by decide +kernel
theorem dX2_useMemory_58 : decode cX2_useMemory 58 = .ok (.aload_n 0, 1) := by decide +kernel
theorem dX2_useMemory_59 : decode cX2_useMemory 59 = .ok (.getfield 9, 3) := by decide +kernel
theorem dX2_useMemory_62 : decode cX2_useMemory 62 = .ok (.aload_n 1, 1) := by decide +kernel
theorem dX2_useMemory_63 : decode cX2_useMemory 63 = .ok (.iload 4, 2) := by decide +kernel
theorem dX2_useMemory_65 : decode cX2_useMemory 65 = .ok (.invokevirtual 45, 3) := by decide +kernel
theorem dX2_useMemory_68 : decode cX2_useMemory 68 = .ok (.invokestatic 54, 3) := by decide +kernel
theorem dX2_useMemory_71 : decode cX2_useMemory 71 = .ok (.iload_n 3, 1) := by decide +kernel
theorem dX2_useMemory_72 : decode cX2_useMemory 72 = .ok (.bipush 11, 2) := by decide +kernel
theorem dX2_useMemory_74 : decode cX2_useMemory 74 = .ok (.if_icmp .eq 15, 3) := by decide +kernel
theorem dX2_useMemory_77 : decode cX2_useMemory 77 = .ok (.aload_n 0, 1) := by decide +kernel
theorem dX2_useMemory_78 : decode cX2_useMemory 78 = .ok (.getfield 9, 3) := by decide +kernel
theorem dX2_useMemory_81 : decode cX2_useMemory 81 = .ok (.aload_n 1, 1) := by decide +kernel
theorem dX2_useMemory_82 : decode cX2_useMemory 82 = .ok (.iload 4, 2) := by decide +kernel
theorem dX2_useMemory_84 : decode cX2_useMemory 84 = .ok (.iload 5, 2) := by decide +kernel
theorem dX2_useMemory_86 : decode cX2_useMemory 86 = .ok (.invokevirtual 102, 3) := by decide +kernel
theorem dX2_useMemory_89 : decode cX2_useMemory 89 = .ok (.return_, 1) := by decide +kernel
theorem dX2_jump_0 : decode cX2_jump 0 = .ok (.aload_n 1, 1) := by decide +kernel
theorem dX2_jump_1 : decode cX2_jump 1 = .ok (.iload_n 2, 1) := by decide +kernel
theorem dX2_jump_2 : decode cX2_jump 2 = .ok (.invokestatic 105, 3) := by decide +kernel
theorem dX2_jump_5 : decode cX2_jump 5 = .ok (.istore_n 3, 1) := by decide +kernel
theorem dX2_jump_6 : decode cX2_jump 6 = .ok (.aload_n 1, 1) := by decide +kernel
theorem dX2_jump_7 : decode cX2_jump 7 = .ok (.iload_n 2, 1) := by decide +kernel
theorem dX2_jump_8 : decode cX2_jump 8 = .ok (.invokestatic 108, 3) := by decide +kernel
theorem dX2_jump_11 : decode cX2_jump 11 = .ok (.istore 4, 2) := by decide +kernel
theorem dX2_jump_13 : decode cX2_jump 13 = .ok (.aload_n 1, 1) := by decide +kernel
theorem dX2_jump_14 : decode cX2_jump 14 = .ok (.getfield 26, 3) := by decide +kernel
theorem dX2_jump_17 : decode cX2_jump 17 = .ok (.iload_n 2, 1) := by decide +kernel
theorem dX2_jump_18 : decode cX2_jump 18 = .ok (.invokestatic 111, 3) := by decide +kernel
theorem dX2_jump_21 : decode cX2_jump 21 = .ok (.iadd, 1) := by decide +kernel
theorem dX2_jump_22 : decode cX2_jump 22 = .ok (.istore 5, 2) := by decide +kernel
theorem dX2_jump_24 : decode cX2_jump 24 = .ok (.iload_n 2, 1) := by decide +kernel
theorem dX2_jump_25 : decode cX2_jump 25 = .ok (.bipush 26, 2) := by decide +kernel
theorem dX2_jump_27 : decode cX2_jump 27 = .ok (.iushr, 1) := by decide +kernel
theorem dX2_jump_28 : decode cX2_jump 28 = .ok (.tableswitch 116 14 17 #[32, 54, 76, 98], 32) := by decide +kernel
theorem dX2_jump_60 : decode cX2_jump 60 = .ok (.aload_n 0, 1) := by decide +kernel
theorem dX2_jump_61 : decode cX2_jump 61 = .ok (.iload_n 3, 1) := by decide +kernel
theorem dX2_jump_62 : decode cX2_jump 62 = .ok (.iload 4, 2) := by decide +kernel
theorem dX2_jump_64 : decode cX2_jump 64 = .ok (.if_icmp .ne 8, 3) := by decide +kernel
theorem dX2_jump_67 : decode cX2_jump 67 = .ok (.iload 5, 2) := by decide +kernel
theorem dX2_jump_69 : decode cX2_jump 69 = .ok (.goto 7, 3) := by decide +kernel
theorem dX2_jump_72 : decode cX2_jump 72 = .ok (.aload_n 0, 1) := by decide +kernel
theorem dX2_jump_73 : decode cX2_jump 73 = .ok (.getfield 31, 3) := by decide +kernel
theorem dX2_jump_76 : decode cX2_jump 76 = .ok (.putfield 31, 3) := by decide +kernel
theorem dX2_jump_79 : decode cX2_jump 79 = .ok (.goto 84, 3) := by decide +kernel
theorem dX2_jump_82 : decode cX2_jump 82 = .ok (.aload_n 0, 1) := by decide +kernel
theorem dX2_jump_83 : decode cX2_jump 83 = .ok (.iload_n 3, 1) := by decide +kernel
theorem dX2_jump_84 : decode cX2_jump 84 = .ok (.iload 4, 2) := by decide +kernel
theorem dX2_jump_86 : decode cX2_jump 86 = .ok (.if_icmp .eq 8, 3) := by decide +kernel
theorem dX2_jump_89 : decode cX2_jump 89 = .ok (.iload 5, 2) := by decide +kernel
theorem dX2_jump_91 : decode cX2_jump 91 = .ok (.goto 7, 3) := by decide +kernel
theorem dX2_jump_94 : decode cX2_jump 94 = .ok (.aload_n 0, 1) := by decide +kernel
theorem dX2_jump_95 : decode cX2_jump 95 = .ok (.getfield 31, 3) := by decide +kernel
theorem dX2_jump_98 : decode cX2_jump 98 = .ok (.putfield 31, 3) := by decide +kernel
theorem dX2_jump_101 : decode cX2_jump 101 = .ok (.goto 62, 3) := by decide +kernel
theorem dX2_jump_104 : decode cX2_jump 104 = .ok (.aload_n 0, 1) := by decide +kernel
theorem dX2_jump_105 : decode cX2_jump 105 = .ok (.iload_n 3, 1) := by decide +kernel
theorem dX2_jump_106 : decode cX2_jump 106 = .ok (.iload 4, 2) := by decide +kernel
theorem dX2_jump_108 : decode cX2_jump 108 = .ok (.if_icmp .ge 8, 3) := by decide +kernel
theorem dX2_jump_111 : decode cX2_jump 111 = .ok (.iload 5, 2) := by decide +kernel
theorem dX2_jump_113 : decode cX2_jump 113 = .ok (.goto 7, 3) := by decide +kernel
theorem dX2_jump_116 : decode cX2_jump 116 = .ok (.aload_n 0, 1) := by decide +kernel
theorem dX2_jump_117 : decode cX2_jump 117 = .ok (.getfield 31, 3) := by decide +kernel
theorem dX2_jump_120 : decode cX2_jump 120 = .ok (.putfield 31, 3) := by decide +kernel
theorem dX2_jump_123 : decode cX2_jump 123 = .ok (.goto 40, 3) := by decide +kernel
theorem dX2_jump_126 : decode cX2_jump 126 = .ok (.aload_n 1, 1) := by decide +kernel
theorem dX2_jump_127 : decode cX2_jump 127 = .ok (.iload_n 2, 1) := by decide +kernel
theorem dX2_jump_128 : decode cX2_jump 128 = .ok (.aload_n 0, 1) := by decide +kernel
theorem dX2_jump_129 : decode cX2_jump 129 = .ok (.getfield 31, 3) := by decide +kernel
theorem dX2_jump_132 : decode cX2_jump 132 = .ok (.invokestatic 54, 3) := by decide +kernel
theorem dX2_jump_135 : decode cX2_jump 135 = .ok (.aload_n 0, 1) := by decide +kernel
theorem dX2_jump_136 : decode cX2_jump 136 = .ok (.iload 5, 2) := by decide +kernel
theorem dX2_jump_138 : decode cX2_jump 138 = .ok (.putfield 31, 3) := by decide +kernel
theorem dX2_jump_141 : decode cX2_jump 141 = .ok (.goto 22, 3) := by decide +kernel
theorem dX2_jump_144 : decode cX2_jump 144 = .ok (.aload_n 1, 1) := by decide +kernel
theorem dX2_jump_145 : decode cX2_jump 145 = .ok (.iload_n 2, 1) := by decide +kernel
theorem dX2_jump_146 : decode cX2_jump 146 = .ok (.aload_n 0, 1) := by decide +kernel
theorem dX2_jump_147 : decode cX2_jump 147 = .ok (.getfield 31, 3) := by decide +kernel
theorem dX2_jump_150 : decode cX2_jump 150 = .ok (.invokestatic 54, 3) := by decide +kernel
theorem dX2_jump_153 : decode cX2_jump 153 = .ok (.aload_n 0, 1) := by decide +kernel
theorem dX2_jump_154 : decode cX2_jump 154 = .ok (.iload_n 3, 1) := by decide +kernel
theorem dX2_jump_155 : decode cX2_jump 155 = .ok (.iload_n 2, 1) := by decide +kernel
theorem dX2_jump_156 : decode cX2_jump 156 = .ok (.invokestatic 111, 3) := by decide +kernel
theorem dX2_jump_159 : decode cX2_jump 159 = .ok (.iadd, 1) := by decide +kernel
theorem dX2_jump_160 : decode cX2_jump 160 = .ok (.putfield 31, 3) := by decide +kernel
theorem dX2_jump_163 : decode cX2_jump 163 = .ok (.return_, 1) := by decide +kernel
theorem dX2_callOrTime_0 : decode cX2_callOrTime 0 = .ok (.iload_n 2, 1) := by decide +kernel
theorem dX2_callOrTime_1 : decode cX2_callOrTime 1 = .ok (.bipush 26, 2) := by decide +kernel
theorem dX2_callOrTime_3 : decode cX2_callOrTime 3 = .ok (.iushr, 1) := by decide +kernel
theorem dX2_callOrTime_4 : decode cX2_callOrTime 4 = .ok (.bipush 19, 2) := by decide +kernel
theorem dX2_callOrTime_6 : decode cX2_callOrTime 6 = .ok (.if_icmp .ne 22, 3) := by decide +kernel
theorem dX2_callOrTime_9 : decode cX2_callOrTime 9 = .ok (.aload_n 0, 1) := by decide +kernel
theorem dX2_callOrTime_10 : decode cX2_callOrTime 10 = .ok (.bipush 8, 2) := by decide +kernel
theorem dX2_callOrTime_12 : decode cX2_callOrTime 12 = .ok (.aload_n 1, 1) := by decide +kernel
theorem dX2_callOrTime_13 : decode cX2_callOrTime 13 = .ok (.getfield 72, 3) := by decide +kernel
theorem dX2_callOrTime_16 : decode cX2_callOrTime 16 = .ok (.iadd, 1) := by decide +kernel
theorem dX2_callOrTime_17 : decode cX2_callOrTime 17 = .ok (.iload_n 2, 1) := by decide +kernel
theorem dX2_callOrTime_18 : decode cX2_callOrTime 18 = .ok (.invokestatic 111, 3) := by decide +kernel
theorem dX2_callOrTime_21 : decode cX2_callOrTime 21 = .ok (.invokevirtual 68, 3) := by decide +kernel
theorem dX2_callOrTime_24 : decode cX2_callOrTime 24 = .ok (.pop, 1) := by decide +kernel
theorem dX2_callOrTime_25 : decode cX2_callOrTime 25 = .ok (.goto 45, 3) := by decide +kernel
theorem dX2_callOrTime_28 : decode cX2_callOrTime 28 = .ok (.aload_n 1, 1) := by decide +kernel
theorem dX2_callOrTime_29 : decode cX2_callOrTime 29 = .ok (.getfield 72, 3) := by decide +kernel
theorem dX2_callOrTime_32 : decode cX2_callOrTime 32 = .ok (.ifCond .ne 26, 3) := by decide +kernel
theorem dX2_callOrTime_35 : decode cX2_callOrTime 35 = .ok (.aload_n 1, 1) := by decide +kernel
theorem dX2_callOrTime_36 : decode cX2_callOrTime 36 = .ok (.getfield 34, 3) := by decide +kernel
theorem dX2_callOrTime_39 : decode cX2_callOrTime 39 = .ok (.iconst 0, 1) := by decide +kernel
theorem dX2_callOrTime_40 : decode cX2_callOrTime 40 = .ok (.iaload, 1) := by decide +kernel
theorem dX2_callOrTime_41 : decode cX2_callOrTime 41 = .ok (.sipush 1024, 3) := by decide +kernel
theorem dX2_callOrTime_44 : decode cX2_callOrTime 44 = .ok (.iand, 1) := by decide +kernel
theorem dX2_callOrTime_45 : decode cX2_callOrTime 45 = .ok (.ifCond .ne 13, 3) := by decide +kernel
theorem dX2_callOrTime_48 : decode cX2_callOrTime 48 = .ok (.aload_n 0, 1) := by decide +kernel
theorem dX2_callOrTime_49 : decode cX2_callOrTime 49 = .ok (.iconst 3, 1) := by decide +kernel
theorem dX2_callOrTime_50 : decode cX2_callOrTime 50 = .ok (.iload_n 2, 1) := by decide +kernel
theorem dX2_callOrTime_51 : decode cX2_callOrTime 51 = .ok (.invokevirtual 68, 3) := by decide +kernel
theorem dX2_callOrTime_54 : decode cX2_callOrTime 54 = .ok (.pop, 1) := by decide +kernel
theorem dX2_callOrTime_55 : decode cX2_callOrTime 55 = .ok (.goto 15, 3) := by decide +kernel
theorem dX2_callOrTime_58 : decode cX2_callOrTime 58 = .ok (.aload_n 1, 1) := by decide +kernel
theorem dX2_callOrTime_59 : decode cX2_callOrTime 59 = .ok (.iload_n 2, 1) := by decide +kernel
theorem dX2_callOrTime_60 : decode cX2_callOrTime 60 = .ok (.aload_n 1, 1) := by decide +kernel
theorem dX2_callOrTime_61 : decode cX2_callOrTime 61 = .ok (.getfield 34, 3) := by decide +kernel
theorem dX2_callOrTime_64 : decode cX2_callOrTime 64 = .ok (.bipush 8, 2) := by decide +kernel
theorem dX2_callOrTime_66 : decode cX2_callOrTime 66 = .ok (.iaload, 1) := by decide +kernel
theorem dX2_callOrTime_67 : decode cX2_callOrTime 67 = .ok (.invokestatic 54, 3) := by decide +kernel
theorem dX2_callOrTime_70 : decode cX2_callOrTime 70 = .ok (.return_, 1) := by decide +kernel
theorem dX2_supervise_0 : decode cX2_supervise 0 = .ok (.aload_n 1, 1) := by decide +kernel
theorem dX2_supervise_1 : decode cX2_supervise 1 = .ok (.iload_n 2, 1) := by decide +kernel
theorem dX2_supervise_2 : decode cX2_supervise 2 = .ok (.invokestatic 105, 3) := by decide +kernel
theorem dX2_supervise_5 : decode cX2_supervise 5 = .ok (.istore_n 3, 1) := by decide +kernel
theorem dX2_supervise_6 : decode cX2_supervise 6 = .ok (.iload_n 2, 1) := by decide +kernel
theorem dX2_supervise_7 : decode cX2_supervise 7 = .ok (.bipush 26, 2) := by decide +kernel
theorem dX2_supervise_9 : decode cX2_supervise 9 = .ok (.iushr, 1) := by decide +kernel
theorem dX2_supervise_10 : decode cX2_supervise 10 = .ok (.tableswitch 134 21 28 #[46, 55, 64, 81, 88, 102, 110, 118], 46) := by decide +kernel
theorem dX2_supervise_56 : decode cX2_supervise 56 = .ok (.aload_n 0, 1) := by decide +kernel
theorem dX2_supervise_57 : decode cX2_supervise 57 = .ok (.aload_n 1, 1) := by decide +kernel
theorem dX2_supervise_58 : decode cX2_supervise 58 = .ok (.iload_n 2, 1) := by decide +kernel
theorem dX2_supervise_59 : decode cX2_supervise 59 = .ok (.invokevirtual 115, 3) := by decide +kernel
theorem dX2_supervise_62 : decode cX2_supervise 62 = .ok (.goto 92, 3) := by decide +kernel
theorem dX2_supervise_65 : decode cX2_supervise 65 = .ok (.aload_n 0, 1) := by decide +kernel
theorem dX2_supervise_66 : decode cX2_supervise 66 = .ok (.aload_n 1, 1) := by decide +kernel
theorem dX2_supervise_67 : decode cX2_supervise 67 = .ok (.iload_n 2, 1) := by decide +kernel
theorem dX2_supervise_68 : decode cX2_supervise 68 = .ok (.invokevirtual 118, 3) := by decide +kernel
theorem dX2_supervise_71 : decode cX2_supervise 71 = .ok (.goto 83, 3) := by decide +kernel
theorem dX2_supervise_74 : decode cX2_supervise 74 = .ok (.aload_n 1, 1) := by decide +kernel
theorem dX2_supervise_75 : decode cX2_supervise 75 = .ok (.invokevirtual 121, 3) := by decide +kernel
theorem dX2_supervise_78 : decode cX2_supervise 78 = .ok (.aload_n 0, 1) := by decide +kernel
theorem dX2_supervise_79 : decode cX2_supervise 79 = .ok (.aload_n 1, 1) := by decide +kernel
theorem dX2_supervise_80 : decode cX2_supervise 80 = .ok (.getfield 34, 3) := by decide +kernel
theorem dX2_supervise_83 : decode cX2_supervise 83 = .ok (.iconst 2, 1) := by decide +kernel
theorem dX2_supervise_84 : decode cX2_supervise 84 = .ok (.iaload, 1) := by decide +kernel
theorem dX2_supervise_85 : decode cX2_supervise 85 = .ok (.putfield 31, 3) := by decide +kernel
theorem dX2_supervise_88 : decode cX2_supervise 88 = .ok (.goto 66, 3) := by decide +kernel
theorem dX2_supervise_91 : decode cX2_supervise 91 = .ok (.aload_n 1, 1) := by decide +kernel
theorem dX2_supervise_92 : decode cX2_supervise 92 = .ok (.invokevirtual 124, 3) := by decide +kernel
theorem dX2_supervise_95 : decode cX2_supervise 95 = .ok (.goto 59, 3) := by decide +kernel
theorem dX2_supervise_98 : decode cX2_supervise 98 = .ok (.aload_n 1, 1) := by decide +kernel
theorem dX2_supervise_99 : decode cX2_supervise 99 = .ok (.getfield 96, 3) := by decide +kernel
theorem dX2_supervise_102 : decode cX2_supervise 102 = .ok (.iload_n 3, 1) := by decide +kernel
theorem dX2_supervise_103 : decode cX2_supervise 103 = .ok (.sipush 255, 3) := by decide +kernel
theorem dX2_supervise_106 : decode cX2_supervise 106 = .ok (.iand, 1) := by decide +kernel
theorem dX2_supervise_107 : decode cX2_supervise 107 = .ok (.iconst (-1), 1) := by decide +kernel
theorem dX2_supervise_108 : decode cX2_supervise 108 = .ok (.iastore, 1) := by decide +kernel
theorem dX2_supervise_109 : decode cX2_supervise 109 = .ok (.goto 45, 3) := by decide +kernel
theorem dX2_supervise_112 : decode cX2_supervise 112 = .ok (.aload_n 0, 1) := by decide +kernel
theorem dX2_supervise_113 : decode cX2_supervise 113 = .ok (.aload_n 1, 1) := by decide +kernel
theorem dX2_supervise_114 : decode cX2_supervise 114 = .ok (.invokevirtual 127, 3) := by decide +kernel
theorem dX2_supervise_117 : decode cX2_supervise 117 = .ok (.goto 37, 3) := by decide +kernel
theorem dX2_supervise_120 : decode cX2_supervise 120 = .ok (.aload_n 1, 1) := by decide +kernel
theorem dX2_supervise_121 : decode cX2_supervise 121 = .ok (.iconst 3, 1) := by decide +kernel
theorem dX2_supervise_122 : decode cX2_supervise 122 = .ok (.putfield 131, 3) := by decide +kernel
theorem dX2_supervise_125 : decode cX2_supervise 125 = .ok (.goto 29, 3) := by decide +kernel
theorem dX2_supervise_128 : decode cX2_supervise 128 = .ok (.aload_n 1, 1) := by decide +kernel
theorem dX2_supervise_129 : decode cX2_supervise 129 = .ok (.iload_n 2, 1) := by decide +kernel
theorem dX2_supervise_130 : decode cX2_supervise 130 = .ok (.aload_n 1, 1) := by decide +kernel
theorem dX2_supervise_131 : decode cX2_supervise 131 = .ok (.iload_n 2, 1) := by decide +kernel
theorem dX2_supervise_132 : decode cX2_supervise 132 = .ok (.invokestatic 111, 3) := by decide +kernel
theorem dX2_supervise_135 : decode cX2_supervise 135 = .ok (.invokestatic 134, 3) := by decide +kernel
theorem dX2_supervise_138 : decode cX2_supervise 138 = .ok (.invokestatic 54, 3) := by decide +kernel
theorem dX2_supervise_141 : decode cX2_supervise 141 = .ok (.goto 13, 3) := by decide +kernel
theorem dX2_supervise_144 : decode cX2_supervise 144 = .ok (.aload_n 0, 1) := by decide +kernel
theorem dX2_supervise_145 : decode cX2_supervise 145 = .ok (.aload_n 1, 1) := by decide +kernel
theorem dX2_supervise_146 : decode cX2_supervise 146 = .ok (.iload_n 3, 1) := by decide +kernel
theorem dX2_supervise_147 : decode cX2_supervise 147 = .ok (.iload_n 2, 1) := by decide +kernel
theorem dX2_supervise_148 : decode cX2_supervise 148 = .ok (.invokestatic 111, 3) := by decide +kernel
theorem dX2_supervise_151 : decode cX2_supervise 151 = .ok (.invokevirtual 137, 3) := by decide +kernel
theorem dX2_supervise_154 : decode cX2_supervise 154 = .ok (.return_, 1) := by decide +kernel
theorem dX2_readControl_0 : decode cX2_readControl 0 = .ok (.iload_n 2, 1) := by decide +kernel
theorem dX2_readControl_1 : decode cX2_readControl 1 = .ok (.invokestatic 111, 3) := by decide +kernel
theorem dX2_readControl_4 : decode cX2_readControl 4 = .ok (.istore_n 3, 1) := by decide +kernel
theorem dX2_readControl_5 : decode cX2_readControl 5 = .ok (.iload_n 3, 1) := by decide +kernel
theorem dX2_readControl_6 : decode cX2_readControl 6 = .ok (.ifCond .lt 9, 3) := by decide +kernel
theorem dX2_readControl_9 : decode cX2_readControl 9 = .ok (.iload_n 3, 1) := by decide +kernel
theorem dX2_readControl_10 : decode cX2_readControl 10 = .ok (.bipush 10, 2) := by decide +kernel
theorem dX2_readControl_12 : decode cX2_readControl 12 = .ok (.if_icmp .lt 13, 3) := by decide +kernel
theorem dX2_readControl_15 : decode cX2_readControl 15 = .ok (.aload_n 0, 1) := by decide +kernel
theorem dX2_readControl_16 : decode cX2_readControl 16 = .ok (.iconst 2, 1) := by decide +kernel
theorem dX2_readControl_17 : decode cX2_readControl 17 = .ok (.iload_n 2, 1) := by decide +kernel
theorem dX2_readControl_18 : decode cX2_readControl 18 = .ok (.invokevirtual 68, 3) := by decide +kernel
theorem dX2_readControl_21 : decode cX2_readControl 21 = .ok (.pop, 1) := by decide +kernel
theorem dX2_readControl_22 : decode cX2_readControl 22 = .ok (.goto 14, 3) := by decide +kernel
theorem dX2_readControl_25 : decode cX2_readControl 25 = .ok (.aload_n 1, 1) := by decide +kernel
theorem dX2_readControl_26 : decode cX2_readControl 26 = .ok (.iload_n 2, 1) := by decide +kernel
theorem dX2_readControl_27 : decode cX2_readControl 27 = .ok (.aload_n 1, 1) := by decide +kernel
theorem dX2_readControl_28 : decode cX2_readControl 28 = .ok (.getfield 34, 3) := by decide +kernel
theorem dX2_readControl_31 : decode cX2_readControl 31 = .ok (.iload_n 3, 1) := by decide +kernel
theorem dX2_readControl_32 : decode cX2_readControl 32 = .ok (.iaload, 1) := by decide +kernel
theorem dX2_readControl_33 : decode cX2_readControl 33 = .ok (.invokestatic 54, 3) := by decide +kernel
theorem dX2_readControl_36 : decode cX2_readControl 36 = .ok (.return_, 1) := by decide +kernel
theorem dX2_writeControl_0 : decode cX2_writeControl 0 = .ok (.iload_n 2, 1) := by decide +kernel
theorem dX2_writeControl_1 : decode cX2_writeControl 1 = .ok (.invokestatic 111, 3) := by decide +kernel
theorem dX2_writeControl_4 : decode cX2_writeControl 4 = .ok (.istore_n 3, 1) := by decide +kernel
theorem dX2_writeControl_5 : decode cX2_writeControl 5 = .ok (.aload_n 1, 1) := by decide +kernel
theorem dX2_writeControl_6 : decode cX2_writeControl 6 = .ok (.iload_n 2, 1) := by decide +kernel
theorem dX2_writeControl_7 : decode cX2_writeControl 7 = .ok (.invokestatic 105, 3) := by decide +kernel
theorem dX2_writeControl_10 : decode cX2_writeControl 10 = .ok (.istore 4, 2) := by decide +kernel
theorem dX2_writeControl_12 : decode cX2_writeControl 12 = .ok (.iload_n 3, 1) := by decide +kernel
theorem dX2_writeControl_13 : decode cX2_writeControl 13 = .ok (.ifCond .lt 9, 3) := by decide +kernel
theorem dX2_writeControl_16 : decode cX2_writeControl 16 = .ok (.iload_n 3, 1) := by decide +kernel
theorem dX2_writeControl_17 : decode cX2_writeControl 17 = .ok (.bipush 9, 2) := by decide +kernel
theorem dX2_writeControl_19 : decode cX2_writeControl 19 = .ok (.if_icmp .lt 13, 3) := by decide +kernel
theorem dX2_writeControl_22 : decode cX2_writeControl 22 = .ok (.aload_n 0, 1) := by decide +kernel
theorem dX2_writeControl_23 : decode cX2_writeControl 23 = .ok (.iconst 2, 1) := by decide +kernel
theorem dX2_writeControl_24 : decode cX2_writeControl 24 = .ok (.iload_n 2, 1) := by decide +kernel
theorem dX2_writeControl_25 : decode cX2_writeControl 25 = .ok (.invokevirtual 68, 3) := by decide +kernel
theorem dX2_writeControl_28 : decode cX2_writeControl 28 = .ok (.pop, 1) := by decide +kernel
theorem dX2_writeControl_29 : decode cX2_writeControl 29 = .ok (.goto 50, 3) := by decide +kernel
theorem dX2_writeControl_32 : decode cX2_writeControl 32 = .ok (.iload_n 3, 1) := by decide +kernel
theorem dX2_writeControl_33 : decode cX2_writeControl 33 = .ok (.bipush 8, 2) := by decide +kernel
theorem dX2_writeControl_35 : decode cX2_writeControl 35 = .ok (.if_icmp .ne 14, 3) := by decide +kernel
theorem dX2_writeControl_38 : decode cX2_writeControl 38 = .ok (.aload_n 0, 1) := by decide +kernel
theorem dX2_writeControl_39 : decode cX2_writeControl 39 = .ok (.iload 4, 2) := by decide +kernel
theorem dX2_writeControl_41 : decode cX2_writeControl 41 = .ok (.iconst 1, 1) := by decide +kernel
theorem dX2_writeControl_42 : decode cX2_writeControl 42 = .ok (.iadd, 1) := by decide +kernel
theorem dX2_writeControl_43 : decode cX2_writeControl 43 = .ok (.putfield 38, 3) := by decide +kernel
theorem dX2_writeControl_46 : decode cX2_writeControl 46 = .ok (.goto 33, 3) := by decide +kernel
theorem dX2_writeControl_49 : decode cX2_writeControl 49 = .ok (.aload_n 1, 1) := by decide +kernel
theorem dX2_writeControl_50 : decode cX2_writeControl 50 = .ok (.getfield 34, 3) := by decide +kernel
theorem dX2_writeControl_53 : decode cX2_writeControl 53 = .ok (.iload_n 3, 1) := by decide +kernel
theorem dX2_writeControl_54 : decode cX2_writeControl 54 = .ok (.iload_n 3, 1) := by decide +kernel
theorem dX2_writeControl_55 : decode cX2_writeControl 55 = .ok (.ifCond .ne 12, 3) := by decide +kernel
theorem dX2_writeControl_58 : decode cX2_writeControl 58 = .ok (.iload 4, 2) := by decide +kernel
theorem dX2_writeControl_60 : decode cX2_writeControl 60 = .ok (.sipush 1799, 3) := by decide +kernel
theorem dX2_writeControl_63 : decode cX2_writeControl 63 = .ok (.iand, 1) := by decide +kernel
theorem dX2_writeControl_64 : decode cX2_writeControl 64 = .ok (.goto 5, 3) := by decide +kernel
theorem dX2_writeControl_67 : decode cX2_writeControl 67 = .ok (.iload 4, 2) := by decide +kernel
theorem dX2_writeControl_69 : decode cX2_writeControl 69 = .ok (.iastore, 1) := by decide +kernel
theorem dX2_writeControl_70 : decode cX2_writeControl 70 = .ok (.iload_n 3, 1) := by decide +kernel
theorem dX2_writeControl_71 : decode cX2_writeControl 71 = .ok (.iconst 5, 1) := by decide +kernel
theorem dX2_writeControl_72 : decode cX2_writeControl 72 = .ok (.if_icmp .ne 7, 3) := by decide +kernel
theorem dX2_writeControl_75 : decode cX2_writeControl 75 = .ok (.aload_n 1, 1) := by decide +kernel
theorem dX2_writeControl_76 : decode cX2_writeControl 76 = .ok (.invokevirtual 124, 3) := by decide +kernel
theorem dX2_writeControl_79 : decode cX2_writeControl 79 = .ok (.return_, 1) := by decide +kernel
theorem dX2_waitForLine_0 : decode cX2_waitForLine 0 = .ok (.aload_n 1, 1) := by decide +kernel
theorem dX2_waitForLine_1 : decode cX2_waitForLine 1 = .ok (.invokevirtual 85, 3) := by decide +kernel
theorem dX2_waitForLine_4 : decode cX2_waitForLine 4 = .ok (.ifCond .ne 10, 3) := by decide +kernel
theorem dX2_waitForLine_7 : decode cX2_waitForLine 7 = .ok (.aload_n 1, 1) := by decide +kernel
theorem dX2_waitForLine_8 : decode cX2_waitForLine 8 = .ok (.getfield 89, 3) := by decide +kernel
theorem dX2_waitForLine_11 : decode cX2_waitForLine 11 = .ok (.ifCond .le 4, 3) := by decide +kernel
theorem dX2_waitForLine_14 : decode cX2_waitForLine 14 = .ok (.return_, 1) := by decide +kernel
theorem dX2_waitForLine_15 : decode cX2_waitForLine 15 = .ok (.aload_n 1, 1) := by decide +kernel
theorem dX2_waitForLine_16 : decode cX2_waitForLine 16 = .ok (.getfield 34, 3) := by decide +kernel
theorem dX2_waitForLine_19 : decode cX2_waitForLine 19 = .ok (.bipush 6, 2) := by decide +kernel
theorem dX2_waitForLine_21 : decode cX2_waitForLine 21 = .ok (.iaload, 1) := by decide +kernel
theorem dX2_waitForLine_22 : decode cX2_waitForLine 22 = .ok (.ifCond .eq 17, 3) := by decide +kernel
theorem dX2_waitForLine_25 : decode cX2_waitForLine 25 = .ok (.aload_n 0, 1) := by decide +kernel
theorem dX2_waitForLine_26 : decode cX2_waitForLine 26 = .ok (.aload_n 1, 1) := by decide +kernel
theorem dX2_waitForLine_27 : decode cX2_waitForLine 27 = .ok (.getfield 34, 3) := by decide +kernel
theorem dX2_waitForLine_30 : decode cX2_waitForLine 30 = .ok (.bipush 6, 2) := by decide +kernel
theorem dX2_waitForLine_32 : decode cX2_waitForLine 32 = .ok (.iaload, 1) := by decide +kernel
theorem dX2_waitForLine_33 : decode cX2_waitForLine 33 = .ok (.putfield 38, 3) := by decide +kernel
theorem dX2_waitForLine_36 : decode cX2_waitForLine 36 = .ok (.goto 8, 3) := by decide +kernel
theorem dX2_waitForLine_39 : decode cX2_waitForLine 39 = .ok (.aload_n 1, 1) := by decide +kernel
theorem dX2_waitForLine_40 : decode cX2_waitForLine 40 = .ok (.iconst 2, 1) := by decide +kernel
theorem dX2_waitForLine_41 : decode cX2_waitForLine 41 = .ok (.putfield 131, 3) := by decide +kernel
theorem dX2_waitForLine_44 : decode cX2_waitForLine 44 = .ok (.return_, 1) := by decide +kernel
theorem dX2_takeIn_0 : decode cX2_takeIn 0 = .ok (.iload_n 1, 1) := by decide +kernel
theorem dX2_takeIn_1 : decode cX2_takeIn 1 = .ok (.tableswitch 51 0 3 #[31, 36, 41, 46], 31) := by decide +kernel
theorem dX2_takeIn_32 : decode cX2_takeIn 32 = .ok (.aload_n 0, 1) := by decide +kernel
theorem dX2_takeIn_33 : decode cX2_takeIn 33 = .ok (.invokevirtual 140, 3) := by decide +kernel
theorem dX2_takeIn_36 : decode cX2_takeIn 36 = .ok (.ireturn, 1) := by decide +kernel
theorem dX2_takeIn_37 : decode cX2_takeIn 37 = .ok (.aload_n 0, 1) := by decide +kernel
theorem dX2_takeIn_38 : decode cX2_takeIn 38 = .ok (.getfield 89, 3) := by decide +kernel
theorem dX2_takeIn_41 : decode cX2_takeIn 41 = .ok (.ireturn, 1) := by decide +kernel
theorem dX2_takeIn_42 : decode cX2_takeIn 42 = .ok (.aload_n 0, 1) := by decide +kernel
theorem dX2_takeIn_43 : decode cX2_takeIn 43 = .ok (.getfield 144, 3) := by decide +kernel
theorem dX2_takeIn_46 : decode cX2_takeIn 46 = .ok (.ireturn, 1) := by decide +kernel
theorem dX2_takeIn_47 : decode cX2_takeIn 47 = .ok (.aload_n 0, 1) := by decide +kernel
theorem dX2_takeIn_48 : decode cX2_takeIn 48 = .ok (.getfield 147, 3) := by decide +kernel
theorem dX2_takeIn_51 : decode cX2_takeIn 51 = .ok (.ireturn, 1) := by decide +kernel
theorem dX2_takeIn_52 : decode cX2_takeIn 52 = .ok (.iconst 0, 1) := by decide +kernel
theorem dX2_takeIn_53 : decode cX2_takeIn 53 = .ok (.ireturn, 1) := by decide +kernel
theorem dX2_giveOut_0 : decode cX2_giveOut 0 = .ok (.iload_n 3, 1) := by decide +kernel
theorem dX2_giveOut_1 : decode cX2_giveOut 1 = .ok (.ifCond .ne 11, 3) := by decide +kernel
theorem dX2_giveOut_4 : decode cX2_giveOut 4 = .ok (.aload_n 1, 1) := by decide +kernel
theorem dX2_giveOut_5 : decode cX2_giveOut 5 = .ok (.iload_n 2, 1) := by decide +kernel
theorem dX2_giveOut_6 : decode cX2_giveOut 6 = .ok (.invokevirtual 150, 3) := by decide +kernel
theorem dX2_giveOut_9 : decode cX2_giveOut 9 = .ok (.goto 78, 3) := by decide +kernel
theorem dX2_giveOut_12 : decode cX2_giveOut 12 = .ok (.iload_n 3, 1) := by decide +kernel
theorem dX2_giveOut_13 : decode cX2_giveOut 13 = .ok (.iconst 1, 1) := by decide +kernel
theorem dX2_giveOut_14 : decode cX2_giveOut 14 = .ok (.if_icmp .ne 11, 3) := by decide +kernel
theorem dX2_giveOut_17 : decode cX2_giveOut 17 = .ok (.aload_n 1, 1) := by decide +kernel
theorem dX2_giveOut_18 : decode cX2_giveOut 18 = .ok (.iload_n 2, 1) := by decide +kernel
theorem dX2_giveOut_19 : decode cX2_giveOut 19 = .ok (.putfield 147, 3) := by decide +kernel
theorem dX2_giveOut_22 : decode cX2_giveOut 22 = .ok (.goto 65, 3) := by decide +kernel
theorem dX2_giveOut_25 : decode cX2_giveOut 25 = .ok (.iload_n 3, 1) := by decide +kernel
theorem dX2_giveOut_26 : decode cX2_giveOut 26 = .ok (.iconst 2, 1) := by decide +kernel
theorem dX2_giveOut_27 : decode cX2_giveOut 27 = .ok (.if_icmp .ne 60, 3) := by decide +kernel
theorem dX2_giveOut_30 : decode cX2_giveOut 30 = .ok (.aload_n 1, 1) := by decide +kernel
theorem dX2_giveOut_31 : decode cX2_giveOut 31 = .ok (.getfield 147, 3) := by decide +kernel
theorem dX2_giveOut_34 : decode cX2_giveOut 34 = .ok (.ifCond .lt 53, 3) := by decide +kernel
theorem dX2_giveOut_37 : decode cX2_giveOut 37 = .ok (.aload_n 1, 1) := by decide +kernel
theorem dX2_giveOut_38 : decode cX2_giveOut 38 = .ok (.getfield 147, 3) := by decide +kernel
theorem dX2_giveOut_41 : decode cX2_giveOut 41 = .ok (.aload_n 1, 1) := by decide +kernel
theorem dX2_giveOut_42 : decode cX2_giveOut 42 = .ok (.getfield 99, 3) := by decide +kernel
theorem dX2_giveOut_45 : decode cX2_giveOut 45 = .ok (.if_icmp .ge 42, 3) := by decide +kernel
theorem dX2_giveOut_48 : decode cX2_giveOut 48 = .ok (.iload_n 2, 1) := by decide +kernel
theorem dX2_giveOut_49 : decode cX2_giveOut 49 = .ok (.iconst 1, 1) := by decide +kernel
theorem dX2_giveOut_50 : decode cX2_giveOut 50 = .ok (.iand, 1) := by decide +kernel
theorem dX2_giveOut_51 : decode cX2_giveOut 51 = .ok (.ifCond .eq 21, 3) := by decide +kernel
theorem dX2_giveOut_54 : decode cX2_giveOut 54 = .ok (.aload_n 0, 1) := by decide +kernel
theorem dX2_giveOut_55 : decode cX2_giveOut 55 = .ok (.getfield 9, 3) := by decide +kernel
theorem dX2_giveOut_58 : decode cX2_giveOut 58 = .ok (.aload_n 1, 1) := by decide +kernel
theorem dX2_giveOut_59 : decode cX2_giveOut 59 = .ok (.aload_n 1, 1) := by decide +kernel
theorem dX2_giveOut_60 : decode cX2_giveOut 60 = .ok (.getfield 147, 3) := by decide +kernel
theorem dX2_giveOut_63 : decode cX2_giveOut 63 = .ok (.iload_n 2, 1) := by decide +kernel
theorem dX2_giveOut_64 : decode cX2_giveOut 64 = .ok (.iconst 1, 1) := by decide +kernel
theorem dX2_giveOut_65 : decode cX2_giveOut 65 = .ok (.ishr, 1) := by decide +kernel
theorem dX2_giveOut_66 : decode cX2_giveOut 66 = .ok (.invokevirtual 154, 3) := by decide +kernel
theorem dX2_giveOut_69 : decode cX2_giveOut 69 = .ok (.goto 18, 3) := by decide +kernel
theorem dX2_giveOut_72 : decode cX2_giveOut 72 = .ok (.aload_n 0, 1) := by decide +kernel
theorem dX2_giveOut_73 : decode cX2_giveOut 73 = .ok (.getfield 9, 3) := by decide +kernel
theorem dX2_giveOut_76 : decode cX2_giveOut 76 = .ok (.aload_n 1, 1) := by decide +kernel
theorem dX2_giveOut_77 : decode cX2_giveOut 77 = .ok (.aload_n 1, 1) := by decide +kernel
theorem dX2_giveOut_78 : decode cX2_giveOut 78 = .ok (.getfield 147, 3) := by decide +kernel
theorem dX2_giveOut_81 : decode cX2_giveOut 81 = .ok (.iload_n 2, 1) := by decide +kernel
theorem dX2_giveOut_82 : decode cX2_giveOut 82 = .ok (.iconst 1, 1) := by decide +kernel
theorem dX2_giveOut_83 : decode cX2_giveOut 83 = .ok (.ishr, 1) := by decide +kernel
theorem dX2_giveOut_84 : decode cX2_giveOut 84 = .ok (.invokevirtual 157, 3) := by decide +kernel
theorem dX2_giveOut_87 : decode cX2_giveOut 87 = .ok (.return_, 1) := by decide +kernel
end
section
theorem dX3_init_0 : decode cX3_init 0 = .ok (.aload_n 0, 1) := by decide +kernel
theorem dX3_init_1 : decode cX3_init 1 = .ok (.invokespecial 3, 3) := by decide +kernel
theorem dX3_init_4 : decode cX3_init 4 = .ok (.aload_n 0, 1) := by decide +kernel
theorem dX3_init_5 : decode cX3_init 5 = .ok (.new 9, 3) := by decide +kernel
theorem dX3_init_8 : decode cX3_init 8 = .ok (.dup, 1) := by decide +kernel
theorem dX3_init_9 : decode cX3_init 9 = .ok (.invokespecial 11, 3) := by decide +kernel
theorem dX3_init_12 : decode cX3_init 12 = .ok (.putfield 12, 3) := by decide +kernel
theorem dX3_init_15 : decode cX3_init 15 = .ok (.aload_n 0, 1) := by decide +kernel
theorem dX3_init_16 : decode cX3_init 16 = .ok (.new 16, 3) := by decide +kernel
theorem dX3_init_19 : decode cX3_init 19 = .ok (.dup, 1) := by decide +kernel
theorem dX3_init_20 : decode cX3_init 20 = .ok (.aload_n 0, 1) := by decide +kernel
theorem dX3_init_21 : decode cX3_init 21 = .ok (.getfield 12, 3) := by decide +kernel
theorem dX3_init_24 : decode cX3_init 24 = .ok (.invokespecial 18, 3) := by decide +kernel
theorem dX3_init_27 : decode cX3_init 27 = .ok (.putfield 21, 3) := by decide +kernel
theorem dX3_init_30 : decode cX3_init 30 = .ok (.aload_n 0, 1) := by decide +kernel
theorem dX3_init_31 : decode cX3_init 31 = .ok (.bipush 8, 2) := by decide +kernel
theorem dX3_init_33 : decode cX3_init 33 = .ok (.anewarray 25, 3) := by decide +kernel
theorem dX3_init_36 : decode cX3_init 36 = .ok (.putfield 27, 3) := by decide +kernel
theorem dX3_init_39 : decode cX3_init 39 = .ok (.aload_n 0, 1) := by decide +kernel
theorem dX3_init_40 : decode cX3_init 40 = .ok (.bipush 8, 2) := by decide +kernel
theorem dX3_init_42 : decode cX3_init 42 = .ok (.bipush 10, 2) := by decide +kernel
theorem dX3_init_44 : decode cX3_init 44 = .ok (.invokevirtual 31, 3) := by decide +kernel
theorem dX3_init_47 : decode cX3_init 47 = .ok (.return_, 1) := by decide +kernel
theorem dX3_install_0 : decode cX3_install 0 = .ok (.iload_n 1, 1) := by decide +kernel
theorem dX3_install_1 : decode cX3_install 1 = .ok (.iconst 4, 1) := by decide +kernel
theorem dX3_install_2 : decode cX3_install 2 = .ok (.if_icmp .lt 22, 3) := by decide +kernel
theorem dX3_install_5 : decode cX3_install 5 = .ok (.iload_n 1, 1) := by decide +kernel
theorem dX3_install_6 : decode cX3_install 6 = .ok (.sipush 256, 3) := by decide +kernel
theorem dX3_install_9 : decode cX3_install 9 = .ok (.if_icmp .gt 15, 3) := by decide +kernel
theorem dX3_install_12 : decode cX3_install 12 = .ok (.iload_n 2, 1) := by decide +kernel
theorem dX3_install_13 : decode cX3_install 13 = .ok (.iconst 1, 1) := by decide +kernel
theorem dX3_install_14 : decode cX3_install 14 = .ok (.if_icmp .lt 10, 3) := by decide +kernel
theorem dX3_install_17 : decode cX3_install 17 = .ok (.iload_n 2, 1) := by decide +kernel
theorem dX3_install_18 : decode cX3_install 18 = .ok (.sipush 1000, 3) := by decide +kernel
theorem dX3_install_21 : decode cX3_install 21 = .ok (.if_icmp .le 5, 3) := by decide +kernel
theorem dX3_install_24 : decode cX3_install 24 = .ok (.iconst (-1), 1) := by decide +kernel
theorem dX3_install_25 : decode cX3_install 25 = .ok (.ireturn, 1) := by decide +kernel
theorem dX3_install_26 : decode cX3_install 26 = .ok (.aload_n 0, 1) := by decide +kernel
theorem dX3_install_27 : decode cX3_install 27 = .ok (.iload_n 1, 1) := by decide +kernel
theorem dX3_install_28 : decode cX3_install 28 = .ok (.iload_n 2, 1) := by decide +kernel
theorem dX3_install_29 : decode cX3_install 29 = .ok (.invokevirtual 31, 3) := by decide +kernel
theorem dX3_install_32 : decode cX3_install 32 = .ok (.iconst 0, 1) := by decide +kernel
theorem dX3_install_33 : decode cX3_install 33 = .ok (.ireturn, 1) := by decide +kernel
theorem dX3_guest_0 : decode cX3_guest 0 = .ok (.iload_n 1, 1) := by decide +kernel
theorem dX3_guest_1 : decode cX3_guest 1 = .ok (.iconst 1, 1) := by decide +kernel
theorem dX3_guest_2 : decode cX3_guest 2 = .ok (.if_icmp .lt 9, 3) := by decide +kernel
theorem dX3_guest_5 : decode cX3_guest 5 = .ok (.iload_n 1, 1) := by decide +kernel
theorem dX3_guest_6 : decode cX3_guest 6 = .ok (.bipush 64, 2) := by decide +kernel
theorem dX3_guest_8 : decode cX3_guest 8 = .ok (.if_icmp .le 5, 3) := by decide +kernel
theorem dX3_guest_11 : decode cX3_guest 11 = .ok (.iconst (-1), 1) := by decide +kernel
theorem dX3_guest_12 : decode cX3_guest 12 = .ok (.ireturn, 1) := by decide +kernel
theorem dX3_guest_13 : decode cX3_guest 13 = .ok (.aload_n 0, 1) := by decide +kernel
theorem dX3_guest_14 : decode cX3_guest 14 = .ok (.invokevirtual 35, 3) := by decide +kernel
theorem dX3_guest_17 : decode cX3_guest 17 = .ok (.istore_n 2, 1) := by decide +kernel
theorem dX3_guest_18 : decode cX3_guest 18 = .ok (.iload_n 2, 1) := by decide +kernel
theorem dX3_guest_19 : decode cX3_guest 19 = .ok (.iconst (-1), 1) := by decide +kernel
theorem dX3_guest_20 : decode cX3_guest 20 = .ok (.if_icmp .ne 6, 3) := by decide +kernel
theorem dX3_guest_23 : decode cX3_guest 23 = .ok (.bipush (-12), 2) := by decide +kernel
theorem dX3_guest_25 : decode cX3_guest 25 = .ok (.ireturn, 1) := by decide +kernel
theorem dX3_guest_26 : decode cX3_guest 26 = .ok (.aload_n 0, 1) := by decide +kernel
theorem dX3_guest_27 : decode cX3_guest 27 = .ok (.iload_n 2, 1) := by decide +kernel
theorem dX3_guest_28 : decode cX3_guest 28 = .ok (.invokevirtual 39, 3) := by decide +kernel
theorem dX3_guest_31 : decode cX3_guest 31 = .ok (.astore_n 3, 1) := by decide +kernel
theorem dX3_guest_32 : decode cX3_guest 32 = .ok (.aload_n 3, 1) := by decide +kernel
theorem dX3_guest_33 : decode cX3_guest 33 = .ok (.iload_n 1, 1) := by decide +kernel
theorem dX3_guest_34 : decode cX3_guest 34 = .ok (.invokevirtual 43, 3) := by decide +kernel
theorem dX3_guest_37 : decode cX3_guest 37 = .ok (.aload_n 0, 1) := by decide +kernel
theorem dX3_guest_38 : decode cX3_guest 38 = .ok (.getfield 12, 3) := by decide +kernel
theorem dX3_guest_41 : decode cX3_guest 41 = .ok (.aload_n 3, 1) := by decide +kernel
theorem dX3_guest_42 : decode cX3_guest 42 = .ok (.invokevirtual 47, 3) := by decide +kernel
theorem dX3_guest_45 : decode cX3_guest 45 = .ok (.iload_n 2, 1) := by decide +kernel
theorem dX3_guest_46 : decode cX3_guest 46 = .ok (.ireturn, 1) := by decide +kernel
theorem dX3_poke_0 : decode cX3_poke 0 = .ok (.aload_n 0, 1) := by decide +kernel
theorem dX3_poke_1 : decode cX3_poke 1 = .ok (.iload_n 1, 1) := by decide +kernel
theorem dX3_poke_2 : decode cX3_poke 2 = .ok (.invokevirtual 51, 3) := by decide +kernel
theorem dX3_poke_5 : decode cX3_poke 5 = .ok (.astore 4, 2) := by decide +kernel
theorem dX3_poke_7 : decode cX3_poke 7 = .ok (.aload 4, 2) := by decide +kernel
theorem dX3_poke_9 : decode cX3_poke 9 = .ok (.ifnonnull 6, 3) := by decide +kernel
theorem dX3_poke_12 : decode cX3_poke 12 = .ok (.bipush (-14), 2) := by decide +kernel
theorem dX3_poke_14 : decode cX3_poke 14 = .ok (.ireturn, 1) := by decide +kernel
theorem dX3_poke_15 : decode cX3_poke 15 = .ok (.aload 4, 2) := by decide +kernel
theorem dX3_poke_17 : decode cX3_poke 17 = .ok (.getfield 54, 3) := by decide +kernel
theorem dX3_poke_20 : decode cX3_poke 20 = .ok (.ifCond .eq 5, 3) := by decide +kernel
theorem dX3_poke_23 : decode cX3_poke 23 = .ok (.iconst (-1), 1) := by decide +kernel
theorem dX3_poke_24 : decode cX3_poke 24 = .ok (.ireturn, 1) := by decide +kernel
theorem dX3_poke_25 : decode cX3_poke 25 = .ok (.aload 4, 2) := by decide +kernel
theorem dX3_poke_27 : decode cX3_poke 27 = .ok (.iload_n 2, 1) := by decide +kernel
theorem dX3_poke_28 : decode cX3_poke 28 = .ok (.invokevirtual 58, 3) := by decide +kernel
theorem dX3_poke_31 : decode cX3_poke 31 = .ok (.ifCond .ne 6, 3) := by decide +kernel
theorem dX3_poke_34 : decode cX3_poke 34 = .ok (.bipush (-2), 2) := by decide +kernel
theorem dX3_poke_36 : decode cX3_poke 36 = .ok (.ireturn, 1) := by decide +kernel
theorem dX3_poke_37 : decode cX3_poke 37 = .ok (.aload_n 0, 1) := by decide +kernel
theorem dX3_poke_38 : decode cX3_poke 38 = .ok (.getfield 12, 3) := by decide +kernel
theorem dX3_poke_41 : decode cX3_poke 41 = .ok (.aload 4, 2) := by decide +kernel
theorem dX3_poke_43 : decode cX3_poke 43 = .ok (.iload_n 2, 1) := by decide +kernel
theorem dX3_poke_44 : decode cX3_poke 44 = .ok (.iload_n 3, 1) := by decide +kernel
theorem dX3_poke_45 : decode cX3_poke 45 = .ok (.invokevirtual 62, 3) := by decide +kernel
theorem dX3_poke_48 : decode cX3_poke 48 = .ok (.iconst 0, 1) := by decide +kernel
theorem dX3_poke_49 : decode cX3_poke 49 = .ok (.ireturn, 1) := by decide +kernel
theorem dX3_pokeDisk_0 : decode cX3_pokeDisk 0 = .ok (.aload_n 0, 1) := by decide +kernel
theorem dX3_pokeDisk_1 : decode cX3_pokeDisk 1 = .ok (.iload_n 1, 1) := by decide +kernel
theorem dX3_pokeDisk_2 : decode cX3_pokeDisk 2 = .ok (.invokevirtual 51, 3) := by decide +kernel
theorem dX3_pokeDisk_5 : decode cX3_pokeDisk 5 = .ok (.astore 4, 2) := by decide +kernel
theorem dX3_pokeDisk_7 : decode cX3_pokeDisk 7 = .ok (.aload 4, 2) := by decide +kernel
theorem dX3_pokeDisk_9 : decode cX3_pokeDisk 9 = .ok (.ifnonnull 6, 3) := by decide +kernel
theorem dX3_pokeDisk_12 : decode cX3_pokeDisk 12 = .ok (.bipush (-14), 2) := by decide +kernel
theorem dX3_pokeDisk_14 : decode cX3_pokeDisk 14 = .ok (.ireturn, 1) := by decide +kernel
theorem dX3_pokeDisk_15 : decode cX3_pokeDisk 15 = .ok (.aload 4, 2) := by decide +kernel
theorem dX3_pokeDisk_17 : decode cX3_pokeDisk 17 = .ok (.getfield 54, 3) := by decide +kernel
theorem dX3_pokeDisk_20 : decode cX3_pokeDisk 20 = .ok (.ifCond .eq 5, 3) := by decide +kernel
theorem dX3_pokeDisk_23 : decode cX3_pokeDisk 23 = .ok (.iconst (-1), 1) := by decide +kernel
theorem dX3_pokeDisk_24 : decode cX3_pokeDisk 24 = .ok (.ireturn, 1) := by decide +kernel
theorem dX3_pokeDisk_25 : decode cX3_pokeDisk 25 = .ok (.iload_n 2, 1) := by decide +kernel
theorem dX3_pokeDisk_26 : decode cX3_pokeDisk 26 = .ok (.ifCond .lt 13, 3) := by decide +kernel
theorem dX3_pokeDisk_29 : decode cX3_pokeDisk 29 = .ok (.iload_n 2, 1) := by decide +kernel
theorem dX3_pokeDisk_30 : decode cX3_pokeDisk 30 = .ok (.aload 4, 2) := by decide +kernel
theorem dX3_pokeDisk_32 : decode cX3_pokeDisk 32 = .ok (.getfield 66, 3) := by decide +kernel
theorem dX3_pokeDisk_35 : decode cX3_pokeDisk 35 = .ok (.arraylength, 1) := by decide +kernel
theorem dX3_pokeDisk_36 : decode cX3_pokeDisk 36 = .ok (.if_icmp .lt 6, 3) := by decide +kernel
theorem dX3_pokeDisk_39 : decode cX3_pokeDisk 39 = .ok (.bipush (-2), 2) := by decide +kernel
theorem dX3_pokeDisk_41 : decode cX3_pokeDisk 41 = .ok (.ireturn, 1) := by decide +kernel
theorem dX3_pokeDisk_42 : decode cX3_pokeDisk 42 = .ok (.aload 4, 2) := by decide +kernel
theorem dX3_pokeDisk_44 : decode cX3_pokeDisk 44 = .ok (.getfield 66, 3) := by decide +kernel
theorem dX3_pokeDisk_47 : decode cX3_pokeDisk 47 = .ok (.iload_n 2, 1) := by decide +kernel
theorem dX3_pokeDisk_48 : decode cX3_pokeDisk 48 = .ok (.iload_n 3, 1) := by decide +kernel
theorem dX3_pokeDisk_49 : decode cX3_pokeDisk 49 = .ok (.iastore, 1) := by decide +kernel
theorem dX3_pokeDisk_50 : decode cX3_pokeDisk 50 = .ok (.iconst 0, 1) := by decide +kernel
theorem dX3_pokeDisk_51 : decode cX3_pokeDisk 51 = .ok (.ireturn, 1) := by decide +kernel
theorem dX3_start_0 : decode cX3_start 0 = .ok (.aload_n 0, 1) := by decide +kernel
theorem dX3_start_1 : decode cX3_start 1 = .ok (.iload_n 1, 1) := by decide +kernel
theorem dX3_start_2 : decode cX3_start 2 = .ok (.invokevirtual 51, 3) := by decide +kernel
theorem dX3_start_5 : decode cX3_start 5 = .ok (.astore_n 3, 1) := by decide +kernel
theorem dX3_start_6 : decode cX3_start 6 = .ok (.aload_n 3, 1) := by decide +kernel
theorem dX3_start_7 : decode cX3_start 7 = .ok (.ifnonnull 6, 3) := by decide +kernel
theorem dX3_start_10 : decode cX3_start 10 = .ok (.bipush (-14), 2) := by decide +kernel
theorem dX3_start_12 : decode cX3_start 12 = .ok (.ireturn, 1) := by decide +kernel
theorem dX3_start_13 : decode cX3_start 13 = .ok (.aload_n 3, 1) := by decide +kernel
theorem dX3_start_14 : decode cX3_start 14 = .ok (.getfield 54, 3) := by decide +kernel
theorem dX3_start_17 : decode cX3_start 17 = .ok (.ifCond .eq 5, 3) := by decide +kernel
theorem dX3_start_20 : decode cX3_start 20 = .ok (.iconst (-1), 1) := by decide +kernel
theorem dX3_start_21 : decode cX3_start 21 = .ok (.ireturn, 1) := by decide +kernel
theorem dX3_start_22 : decode cX3_start 22 = .ok (.aload_n 3, 1) := by decide +kernel
theorem dX3_start_23 : decode cX3_start 23 = .ok (.invokevirtual 70, 3) := by decide +kernel
theorem dX3_start_26 : decode cX3_start 26 = .ok (.aload_n 3, 1) := by decide +kernel
theorem dX3_start_27 : decode cX3_start 27 = .ok (.iload_n 2, 1) := by decide +kernel
theorem dX3_start_28 : decode cX3_start 28 = .ok (.putfield 73, 3) := by decide +kernel
theorem dX3_start_31 : decode cX3_start 31 = .ok (.aload_n 3, 1) := by decide +kernel
theorem dX3_start_32 : decode cX3_start 32 = .ok (.iconst 1, 1) := by decide +kernel
theorem dX3_start_33 : decode cX3_start 33 = .ok (.putfield 76, 3) := by decide +kernel
theorem dX3_start_36 : decode cX3_start 36 = .ok (.aload_n 3, 1) := by decide +kernel
theorem dX3_start_37 : decode cX3_start 37 = .ok (.iconst 1, 1) := by decide +kernel
theorem dX3_start_38 : decode cX3_start 38 = .ok (.putfield 54, 3) := by decide +kernel
theorem dX3_start_41 : decode cX3_start 41 = .ok (.iconst 0, 1) := by decide +kernel
theorem dX3_start_42 : decode cX3_start 42 = .ok (.ireturn, 1) := by decide +kernel
theorem dX3_stop_0 : decode cX3_stop 0 = .ok (.aload_n 0, 1) := by decide +kernel
theorem dX3_stop_1 : decode cX3_stop 1 = .ok (.iload_n 1, 1) := by decide +kernel
theorem dX3_stop_2 : decode cX3_stop 2 = .ok (.invokevirtual 51, 3) := by decide +kernel
theorem dX3_stop_5 : decode cX3_stop 5 = .ok (.astore_n 2, 1) := by decide +kernel
theorem dX3_stop_6 : decode cX3_stop 6 = .ok (.aload_n 2, 1) := by decide +kernel
theorem dX3_stop_7 : decode cX3_stop 7 = .ok (.ifnonnull 6, 3) := by decide +kernel
theorem dX3_stop_10 : decode cX3_stop 10 = .ok (.bipush (-14), 2) := by decide +kernel
theorem dX3_stop_12 : decode cX3_stop 12 = .ok (.ireturn, 1) := by decide +kernel
theorem dX3_stop_13 : decode cX3_stop 13 = .ok (.aload_n 2, 1) := by decide +kernel
theorem dX3_stop_14 : decode cX3_stop 14 = .ok (.iconst 0, 1) := by decide +kernel
theorem dX3_stop_15 : decode cX3_stop 15 = .ok (.putfield 54, 3) := by decide +kernel
theorem dX3_stop_18 : decode cX3_stop 18 = .ok (.iconst 0, 1) := by decide +kernel
theorem dX3_stop_19 : decode cX3_stop 19 = .ok (.ireturn, 1) := by decide +kernel
theorem dX3_input_0 : decode cX3_input 0 = .ok (.aload_n 0, 1) := by decide +kernel
theorem dX3_input_1 : decode cX3_input 1 = .ok (.iload_n 1, 1) := by decide +kernel
theorem dX3_input_2 : decode cX3_input 2 = .ok (.invokevirtual 51, 3) := by decide +kernel
theorem dX3_input_5 : decode cX3_input 5 = .ok (.astore_n 3, 1) := by decide +kernel
theorem dX3_input_6 : decode cX3_input 6 = .ok (.aload_n 3, 1) := by decide +kernel
theorem dX3_input_7 : decode cX3_input 7 = .ok (.ifnonnull 6, 3) := by decide +kernel
theorem dX3_input_10 : decode cX3_input 10 = .ok (.bipush (-14), 2) := by decide +kernel
theorem dX3_input_12 : decode cX3_input 12 = .ok (.ireturn, 1) := by decide +kernel
theorem dX3_input_13 : decode cX3_input 13 = .ok (.aload_n 3, 1) := by decide +kernel
theorem dX3_input_14 : decode cX3_input 14 = .ok (.iload_n 2, 1) := by decide +kernel
theorem dX3_input_15 : decode cX3_input 15 = .ok (.invokevirtual 79, 3) := by decide +kernel
theorem dX3_input_18 : decode cX3_input 18 = .ok (.ifCond .ne 6, 3) := by decide +kernel
theorem dX3_input_21 : decode cX3_input 21 = .ok (.bipush (-12), 2) := by decide +kernel
theorem dX3_input_23 : decode cX3_input 23 = .ok (.ireturn, 1) := by decide +kernel
theorem dX3_input_24 : decode cX3_input 24 = .ok (.aload_n 3, 1) := by decide +kernel
theorem dX3_input_25 : decode cX3_input 25 = .ok (.getfield 54, 3) := by decide +kernel
theorem dX3_input_28 : decode cX3_input 28 = .ok (.iconst 2, 1) := by decide +kernel
theorem dX3_input_29 : decode cX3_input 29 = .ok (.if_icmp .ne 8, 3) := by decide +kernel
theorem dX3_input_32 : decode cX3_input 32 = .ok (.aload_n 3, 1) := by decide +kernel
theorem dX3_input_33 : decode cX3_input 33 = .ok (.iconst 1, 1) := by decide +kernel
theorem dX3_input_34 : decode cX3_input 34 = .ok (.putfield 54, 3) := by decide +kernel
theorem dX3_input_37 : decode cX3_input 37 = .ok (.iconst 0, 1) := by decide +kernel
theorem dX3_input_38 : decode cX3_input 38 = .ok (.ireturn, 1) := by decide +kernel
theorem dX3_copy_0 : decode cX3_copy 0 = .ok (.aload_n 0, 1) := by decide +kernel
theorem dX3_copy_1 : decode cX3_copy 1 = .ok (.iload_n 1, 1) := by decide +kernel
theorem dX3_copy_2 : decode cX3_copy 2 = .ok (.invokevirtual 51, 3) := by decide +kernel
theorem dX3_copy_5 : decode cX3_copy 5 = .ok (.astore_n 2, 1) := by decide +kernel
theorem dX3_copy_6 : decode cX3_copy 6 = .ok (.aload_n 2, 1) := by decide +kernel
theorem dX3_copy_7 : decode cX3_copy 7 = .ok (.ifnonnull 6, 3) := by decide +kernel
theorem dX3_copy_10 : decode cX3_copy 10 = .ok (.bipush (-14), 2) := by decide +kernel
theorem dX3_copy_12 : decode cX3_copy 12 = .ok (.ireturn, 1) := by decide +kernel
theorem dX3_copy_13 : decode cX3_copy 13 = .ok (.aload_n 0, 1) := by decide +kernel
theorem dX3_copy_14 : decode cX3_copy 14 = .ok (.invokevirtual 35, 3) := by decide +kernel
theorem dX3_copy_17 : decode cX3_copy 17 = .ok (.istore_n 3, 1) := by decide +kernel
theorem dX3_copy_18 : decode cX3_copy 18 = .ok (.iload_n 3, 1) := by decide +kernel
theorem dX3_copy_19 : decode cX3_copy 19 = .ok (.iconst (-1), 1) := by decide +kernel
theorem dX3_copy_20 : decode cX3_copy 20 = .ok (.if_icmp .ne 6, 3) := by decide +kernel
theorem dX3_copy_23 : decode cX3_copy 23 = .ok (.bipush (-12), 2) := by decide +kernel
theorem dX3_copy_25 : decode cX3_copy 25 = .ok (.ireturn, 1) := by decide +kernel
theorem dX3_copy_26 : decode cX3_copy 26 = .ok (.aload_n 0, 1) := by decide +kernel
theorem dX3_copy_27 : decode cX3_copy 27 = .ok (.iload_n 3, 1) := by decide +kernel
theorem dX3_copy_28 : decode cX3_copy 28 = .ok (.invokevirtual 39, 3) := by decide +kernel
theorem dX3_copy_31 : decode cX3_copy 31 = .ok (.astore 4, 2) := by decide +kernel
theorem dX3_copy_33 : decode cX3_copy 33 = .ok (.aload 4, 2) := by decide +kernel
theorem dX3_copy_35 : decode cX3_copy 35 = .ok (.aload_n 2, 1) := by decide +kernel
theorem dX3_copy_36 : decode cX3_copy 36 = .ok (.invokevirtual 82, 3) := by decide +kernel
theorem dX3_copy_39 : decode cX3_copy 39 = .ok (.aload_n 0, 1) := by decide +kernel
theorem dX3_copy_40 : decode cX3_copy 40 = .ok (.getfield 12, 3) := by decide +kernel
theorem dX3_copy_43 : decode cX3_copy 43 = .ok (.aload_n 2, 1) := by decide +kernel
theorem dX3_copy_44 : decode cX3_copy 44 = .ok (.aload 4, 2) := by decide +kernel
theorem dX3_copy_46 : decode cX3_copy 46 = .ok (.invokevirtual 85, 3) := by decide +kernel
theorem dX3_copy_49 : decode cX3_copy 49 = .ok (.iload_n 3, 1) := by decide +kernel
theorem dX3_copy_50 : decode cX3_copy 50 = .ok (.ireturn, 1) := by decide +kernel
theorem dX3_drop_0 : decode cX3_drop 0 = .ok (.aload_n 0, 1) := by decide +kernel
theorem dX3_drop_1 : decode cX3_drop 1 = .ok (.iload_n 1, 1) := by decide +kernel
theorem dX3_drop_2 : decode cX3_drop 2 = .ok (.invokevirtual 51, 3) := by decide +kernel
theorem dX3_drop_5 : decode cX3_drop 5 = .ok (.astore_n 2, 1) := by decide +kernel
theorem dX3_drop_6 : decode cX3_drop 6 = .ok (.aload_n 2, 1) := by decide +kernel
theorem dX3_drop_7 : decode cX3_drop 7 = .ok (.ifnonnull 6, 3) := by decide +kernel
theorem dX3_drop_10 : decode cX3_drop 10 = .ok (.bipush (-14), 2) := by decide +kernel
theorem dX3_drop_12 : decode cX3_drop 12 = .ok (.ireturn, 1) := by decide +kernel
theorem dX3_drop_13 : decode cX3_drop 13 = .ok (.aload_n 0, 1) := by decide +kernel
theorem dX3_drop_14 : decode cX3_drop 14 = .ok (.getfield 12, 3) := by decide +kernel
theorem dX3_drop_17 : decode cX3_drop 17 = .ok (.aload_n 2, 1) := by decide +kernel
theorem dX3_drop_18 : decode cX3_drop 18 = .ok (.invokevirtual 89, 3) := by decide +kernel
theorem dX3_drop_21 : decode cX3_drop 21 = .ok (.aload_n 2, 1) := by decide +kernel
theorem dX3_drop_22 : decode cX3_drop 22 = .ok (.iconst 0, 1) := by decide +kernel
theorem dX3_drop_23 : decode cX3_drop 23 = .ok (.putfield 92, 3) := by decide +kernel
theorem dX3_drop_26 : decode cX3_drop 26 = .ok (.iconst 0, 1) := by decide +kernel
theorem dX3_drop_27 : decode cX3_drop 27 = .ok (.ireturn, 1) := by decide +kernel
theorem dX3_run_0 : decode cX3_run 0 = .ok (.iload_n 1, 1) := by decide +kernel
theorem dX3_run_1 : decode cX3_run 1 = .ok (.ifCond .lt 10, 3) := by decide +kernel
theorem dX3_run_4 : decode cX3_run 4 = .ok (.iload_n 1, 1) := by decide +kernel
theorem dX3_run_5 : decode cX3_run 5 = .ok (.sipush 2000, 3) := by decide +kernel
theorem dX3_run_8 : decode cX3_run 8 = .ok (.if_icmp .le 5, 3) := by decide +kernel
theorem dX3_run_11 : decode cX3_run 11 = .ok (.iconst (-1), 1) := by decide +kernel
theorem dX3_run_12 : decode cX3_run 12 = .ok (.ireturn, 1) := by decide +kernel
theorem dX3_run_13 : decode cX3_run 13 = .ok (.iconst 0, 1) := by decide +kernel
theorem dX3_run_14 : decode cX3_run 14 = .ok (.istore_n 2, 1) := by decide +kernel
theorem dX3_run_15 : decode cX3_run 15 = .ok (.iload_n 2, 1) := by decide +kernel
theorem dX3_run_16 : decode cX3_run 16 = .ok (.iload_n 1, 1) := by decide +kernel
theorem dX3_run_17 : decode cX3_run 17 = .ok (.if_icmp .ge 39, 3) := by decide +kernel
theorem dX3_run_20 : decode cX3_run 20 = .ok (.aload_n 0, 1) := by decide +kernel
theorem dX3_run_21 : decode cX3_run 21 = .ok (.invokevirtual 96, 3) := by decide +kernel
theorem dX3_run_24 : decode cX3_run 24 = .ok (.astore_n 3, 1) := by decide +kernel
theorem dX3_run_25 : decode cX3_run 25 = .ok (.aload_n 3, 1) := by decide +kernel
theorem dX3_run_26 : decode cX3_run 26 = .ok (.ifnonnull 6, 3) := by decide +kernel
theorem dX3_run_29 : decode cX3_run 29 = .ok (.goto 27, 3) := by decide +kernel
theorem dX3_run_32 : decode cX3_run 32 = .ok (.aload_n 0, 1) := by decide +kernel
theorem dX3_run_33 : decode cX3_run 33 = .ok (.getfield 21, 3) := by decide +kernel
theorem dX3_run_36 : decode cX3_run 36 = .ok (.aload_n 3, 1) := by decide +kernel
theorem dX3_run_37 : decode cX3_run 37 = .ok (.invokevirtual 100, 3) := by decide +kernel
theorem dX3_run_40 : decode cX3_run 40 = .ok (.aload_n 0, 1) := by decide +kernel
theorem dX3_run_41 : decode cX3_run 41 = .ok (.dup, 1) := by decide +kernel
theorem dX3_run_42 : decode cX3_run 42 = .ok (.getfield 103, 3) := by decide +kernel
theorem dX3_run_45 : decode cX3_run 45 = .ok (.iconst 1, 1) := by decide +kernel
theorem dX3_run_46 : decode cX3_run 46 = .ok (.isub, 1) := by decide +kernel
theorem dX3_run_47 : decode cX3_run 47 = .ok (.putfield 103, 3) := by decide +kernel
theorem dX3_run_50 : decode cX3_run 50 = .ok (.iinc 2 1, 3) := by decide +kernel
theorem dX3_run_53 : decode cX3_run 53 = .ok (.goto (-38), 3) := by decide +kernel
theorem dX3_run_56 : decode cX3_run 56 = .ok (.aload_n 0, 1) := by decide +kernel
theorem dX3_run_57 : decode cX3_run 57 = .ok (.dup, 1) := by decide +kernel
theorem dX3_run_58 : decode cX3_run 58 = .ok (.getfield 106, 3) := by decide +kernel
theorem dX3_run_61 : decode cX3_run 61 = .ok (.iload_n 2, 1) := by decide +kernel
theorem dX3_run_62 : decode cX3_run 62 = .ok (.iadd, 1) := by decide +kernel
theorem dX3_run_63 : decode cX3_run 63 = .ok (.putfield 106, 3) := by decide +kernel
theorem dX3_run_66 : decode cX3_run 66 = .ok (.iload_n 2, 1) := by decide +kernel
theorem dX3_run_67 : decode cX3_run 67 = .ok (.ireturn, 1) := by decide +kernel
theorem dX3_only_0 : decode cX3_only 0 = .ok (.aload_n 0, 1) := by decide +kernel
theorem dX3_only_1 : decode cX3_only 1 = .ok (.iload_n 1, 1) := by decide +kernel
theorem dX3_only_2 : decode cX3_only 2 = .ok (.invokevirtual 51, 3) := by decide +kernel
theorem dX3_only_5 : decode cX3_only 5 = .ok (.astore_n 3, 1) := by decide +kernel
theorem dX3_only_6 : decode cX3_only 6 = .ok (.aload_n 3, 1) := by decide +kernel
theorem dX3_only_7 : decode cX3_only 7 = .ok (.ifnonnull 6, 3) := by decide +kernel
theorem dX3_only_10 : decode cX3_only 10 = .ok (.bipush (-14), 2) := by decide +kernel
theorem dX3_only_12 : decode cX3_only 12 = .ok (.ireturn, 1) := by decide +kernel
theorem dX3_only_13 : decode cX3_only 13 = .ok (.iload_n 2, 1) := by decide +kernel
theorem dX3_only_14 : decode cX3_only 14 = .ok (.ifCond .lt 10, 3) := by decide +kernel
theorem dX3_only_17 : decode cX3_only 17 = .ok (.iload_n 2, 1) := by decide +kernel
theorem dX3_only_18 : decode cX3_only 18 = .ok (.sipush 2000, 3) := by decide +kernel
theorem dX3_only_21 : decode cX3_only 21 = .ok (.if_icmp .le 5, 3) := by decide +kernel
theorem dX3_only_24 : decode cX3_only 24 = .ok (.iconst (-1), 1) := by decide +kernel
theorem dX3_only_25 : decode cX3_only 25 = .ok (.ireturn, 1) := by decide +kernel
theorem dX3_only_26 : decode cX3_only 26 = .ok (.iconst 0, 1) := by decide +kernel
theorem dX3_only_27 : decode cX3_only 27 = .ok (.istore 4, 2) := by decide +kernel
theorem dX3_only_29 : decode cX3_only 29 = .ok (.iload 4, 2) := by decide +kernel
theorem dX3_only_31 : decode cX3_only 31 = .ok (.iload_n 2, 1) := by decide +kernel
theorem dX3_only_32 : decode cX3_only 32 = .ok (.if_icmp .ge 25, 3) := by decide +kernel
theorem dX3_only_35 : decode cX3_only 35 = .ok (.aload_n 3, 1) := by decide +kernel
theorem dX3_only_36 : decode cX3_only 36 = .ok (.getfield 54, 3) := by decide +kernel
theorem dX3_only_39 : decode cX3_only 39 = .ok (.iconst 1, 1) := by decide +kernel
theorem dX3_only_40 : decode cX3_only 40 = .ok (.if_icmp .ne 17, 3) := by decide +kernel
theorem dX3_only_43 : decode cX3_only 43 = .ok (.aload_n 0, 1) := by decide +kernel
theorem dX3_only_44 : decode cX3_only 44 = .ok (.getfield 21, 3) := by decide +kernel
theorem dX3_only_47 : decode cX3_only 47 = .ok (.aload_n 3, 1) := by decide +kernel
theorem dX3_only_48 : decode cX3_only 48 = .ok (.invokevirtual 100, 3) := by decide +kernel
theorem dX3_only_51 : decode cX3_only 51 = .ok (.iinc 4 1, 3) := by decide +kernel
theorem dX3_only_54 : decode cX3_only 54 = .ok (.goto (-25), 3) := by decide +kernel
theorem dX3_only_57 : decode cX3_only 57 = .ok (.aload_n 0, 1) := by decide +kernel
theorem dX3_only_58 : decode cX3_only 58 = .ok (.dup, 1) := by decide +kernel
theorem dX3_only_59 : decode cX3_only 59 = .ok (.getfield 106, 3) := by decide +kernel
theorem dX3_only_62 : decode cX3_only 62 = .ok (.iload 4, 2) := by decide +kernel
theorem dX3_only_64 : decode cX3_only 64 = .ok (.iadd, 1) := by decide +kernel
theorem dX3_only_65 : decode cX3_only 65 = .ok (.putfield 106, 3) := by decide +kernel
theorem dX3_only_68 : decode cX3_only 68 = .ok (.iload 4, 2) := by decide +kernel
theorem dX3_only_70 : decode cX3_only 70 = .ok (.ireturn, 1) := by decide +kernel
theorem dX3_state_0 : decode cX3_state 0 = .ok (.aload_n 0, 1) := by decide +kernel
theorem dX3_state_1 : decode cX3_state 1 = .ok (.iload_n 1, 1) := by decide +kernel
theorem dX3_state_2 : decode cX3_state 2 = .ok (.invokevirtual 51, 3) := by decide +kernel
theorem dX3_state_5 : decode cX3_state 5 = .ok (.astore_n 2, 1) := by decide +kernel
theorem dX3_state_6 : decode cX3_state 6 = .ok (.aload_n 2, 1) := by decide +kernel
theorem dX3_state_7 : decode cX3_state 7 = .ok (.ifnonnull 8, 3) := by decide +kernel
theorem dX3_state_10 : decode cX3_state 10 = .ok (.bipush (-14), 2) := by decide +kernel
theorem dX3_state_12 : decode cX3_state 12 = .ok (.goto 7, 3) := by decide +kernel
theorem dX3_state_15 : decode cX3_state 15 = .ok (.aload_n 2, 1) := by decide +kernel
theorem dX3_state_16 : decode cX3_state 16 = .ok (.getfield 54, 3) := by decide +kernel
theorem dX3_state_19 : decode cX3_state 19 = .ok (.ireturn, 1) := by decide +kernel
theorem dX3_told_0 : decode cX3_told 0 = .ok (.aload_n 0, 1) := by decide +kernel
theorem dX3_told_1 : decode cX3_told 1 = .ok (.iload_n 1, 1) := by decide +kernel
theorem dX3_told_2 : decode cX3_told 2 = .ok (.invokevirtual 51, 3) := by decide +kernel
theorem dX3_told_5 : decode cX3_told 5 = .ok (.astore_n 3, 1) := by decide +kernel
theorem dX3_told_6 : decode cX3_told 6 = .ok (.aload_n 3, 1) := by decide +kernel
theorem dX3_told_7 : decode cX3_told 7 = .ok (.ifnonnull 7, 3) := by decide +kernel
theorem dX3_told_10 : decode cX3_told 10 = .ok (.iconst 0, 1) := by decide +kernel
theorem dX3_told_11 : decode cX3_told 11 = .ok (.goto 8, 3) := by decide +kernel
theorem dX3_told_14 : decode cX3_told 14 = .ok (.aload_n 3, 1) := by decide +kernel
theorem dX3_told_15 : decode cX3_told 15 = .ok (.iload_n 2, 1) := by decide +kernel
theorem dX3_told_16 : decode cX3_told 16 = .ok (.invokevirtual 109, 3) := by decide +kernel
theorem dX3_told_19 : decode cX3_told 19 = .ok (.ireturn, 1) := by decide +kernel
theorem dX3_peek_0 : decode cX3_peek 0 = .ok (.aload_n 0, 1) := by decide +kernel
theorem dX3_peek_1 : decode cX3_peek 1 = .ok (.iload_n 1, 1) := by decide +kernel
theorem dX3_peek_2 : decode cX3_peek 2 = .ok (.invokevirtual 51, 3) := by decide +kernel
theorem dX3_peek_5 : decode cX3_peek 5 = .ok (.astore_n 3, 1) := by decide +kernel
theorem dX3_peek_6 : decode cX3_peek 6 = .ok (.aload_n 3, 1) := by decide +kernel
theorem dX3_peek_7 : decode cX3_peek 7 = .ok (.ifnonnull 7, 3) := by decide +kernel
theorem dX3_peek_10 : decode cX3_peek 10 = .ok (.iconst 0, 1) := by decide +kernel
theorem dX3_peek_11 : decode cX3_peek 11 = .ok (.goto 12, 3) := by decide +kernel
theorem dX3_peek_14 : decode cX3_peek 14 = .ok (.aload_n 0, 1) := by decide +kernel
theorem dX3_peek_15 : decode cX3_peek 15 = .ok (.getfield 12, 3) := by decide +kernel
theorem dX3_peek_18 : decode cX3_peek 18 = .ok (.aload_n 3, 1) := by decide +kernel
theorem dX3_peek_19 : decode cX3_peek 19 = .ok (.iload_n 2, 1) := by decide +kernel
theorem dX3_peek_20 : decode cX3_peek 20 = .ok (.invokevirtual 113, 3) := by decide +kernel
theorem dX3_peek_23 : decode cX3_peek 23 = .ok (.ireturn, 1) := by decide +kernel
theorem dX3_disk_0 : decode cX3_disk 0 = .ok (.aload_n 0, 1) := by decide +kernel
theorem dX3_disk_1 : decode cX3_disk 1 = .ok (.iload_n 1, 1) := by decide +kernel
theorem dX3_disk_2 : decode cX3_disk 2 = .ok (.invokevirtual 51, 3) := by decide +kernel
theorem dX3_disk_5 : decode cX3_disk 5 = .ok (.astore_n 3, 1) := by decide +kernel
theorem dX3_disk_6 : decode cX3_disk 6 = .ok (.aload_n 3, 1) := by decide +kernel
theorem dX3_disk_7 : decode cX3_disk 7 = .ok (.ifnull 16, 3) := by decide +kernel
theorem dX3_disk_10 : decode cX3_disk 10 = .ok (.iload_n 2, 1) := by decide +kernel
theorem dX3_disk_11 : decode cX3_disk 11 = .ok (.ifCond .lt 12, 3) := by decide +kernel
theorem dX3_disk_14 : decode cX3_disk 14 = .ok (.iload_n 2, 1) := by decide +kernel
theorem dX3_disk_15 : decode cX3_disk 15 = .ok (.aload_n 3, 1) := by decide +kernel
theorem dX3_disk_16 : decode cX3_disk 16 = .ok (.getfield 66, 3) := by decide +kernel
theorem dX3_disk_19 : decode cX3_disk 19 = .ok (.arraylength, 1) := by decide +kernel
theorem dX3_disk_20 : decode cX3_disk 20 = .ok (.if_icmp .lt 7, 3) := by decide +kernel
theorem dX3_disk_23 : decode cX3_disk 23 = .ok (.iconst 0, 1) := by decide +kernel
theorem dX3_disk_24 : decode cX3_disk 24 = .ok (.goto 9, 3) := by decide +kernel
theorem dX3_disk_27 : decode cX3_disk 27 = .ok (.aload_n 3, 1) := by decide +kernel
theorem dX3_disk_28 : decode cX3_disk 28 = .ok (.getfield 66, 3) := by decide +kernel
theorem dX3_disk_31 : decode cX3_disk 31 = .ok (.iload_n 2, 1) := by decide +kernel
theorem dX3_disk_32 : decode cX3_disk 32 = .ok (.iaload, 1) := by decide +kernel
theorem dX3_disk_33 : decode cX3_disk 33 = .ok (.ireturn, 1) := by decide +kernel
theorem dX3_out_0 : decode cX3_out 0 = .ok (.aload_n 0, 1) := by decide +kernel
theorem dX3_out_1 : decode cX3_out 1 = .ok (.iload_n 1, 1) := by decide +kernel
theorem dX3_out_2 : decode cX3_out 2 = .ok (.invokevirtual 51, 3) := by decide +kernel
theorem dX3_out_5 : decode cX3_out 5 = .ok (.astore_n 3, 1) := by decide +kernel
theorem dX3_out_6 : decode cX3_out 6 = .ok (.aload_n 3, 1) := by decide +kernel
theorem dX3_out_7 : decode cX3_out 7 = .ok (.ifnull 15, 3) := by decide +kernel
theorem dX3_out_10 : decode cX3_out 10 = .ok (.iload_n 2, 1) := by decide +kernel
theorem dX3_out_11 : decode cX3_out 11 = .ok (.ifCond .lt 11, 3) := by decide +kernel
theorem dX3_out_14 : decode cX3_out 14 = .ok (.iload_n 2, 1) := by decide +kernel
theorem dX3_out_15 : decode cX3_out 15 = .ok (.aload_n 3, 1) := by decide +kernel
theorem dX3_out_16 : decode cX3_out 16 = .ok (.invokevirtual 117, 3) := by decide +kernel
theorem dX3_out_19 : decode cX3_out 19 = .ok (.if_icmp .lt 7, 3) := by decide +kernel
theorem dX3_out_22 : decode cX3_out 22 = .ok (.iconst 0, 1) := by decide +kernel
theorem dX3_out_23 : decode cX3_out 23 = .ok (.goto 9, 3) := by decide +kernel
theorem dX3_out_26 : decode cX3_out 26 = .ok (.aload_n 3, 1) := by decide +kernel
theorem dX3_out_27 : decode cX3_out 27 = .ok (.getfield 120, 3) := by decide +kernel
theorem dX3_out_30 : decode cX3_out 30 = .ok (.iload_n 2, 1) := by decide +kernel
theorem dX3_out_31 : decode cX3_out 31 = .ok (.iaload, 1) := by decide +kernel
theorem dX3_out_32 : decode cX3_out 32 = .ok (.ireturn, 1) := by decide +kernel
theorem dX3_cached_0 : decode cX3_cached 0 = .ok (.aload_n 0, 1) := by decide +kernel
theorem dX3_cached_1 : decode cX3_cached 1 = .ok (.iload_n 1, 1) := by decide +kernel
theorem dX3_cached_2 : decode cX3_cached 2 = .ok (.invokevirtual 51, 3) := by decide +kernel
theorem dX3_cached_5 : decode cX3_cached 5 = .ok (.astore_n 3, 1) := by decide +kernel
theorem dX3_cached_6 : decode cX3_cached 6 = .ok (.aload_n 3, 1) := by decide +kernel
theorem dX3_cached_7 : decode cX3_cached 7 = .ok (.ifnull 14, 3) := by decide +kernel
theorem dX3_cached_10 : decode cX3_cached 10 = .ok (.iload_n 2, 1) := by decide +kernel
theorem dX3_cached_11 : decode cX3_cached 11 = .ok (.ifCond .lt 10, 3) := by decide +kernel
theorem dX3_cached_14 : decode cX3_cached 14 = .ok (.iload_n 2, 1) := by decide +kernel
theorem dX3_cached_15 : decode cX3_cached 15 = .ok (.sipush 256, 3) := by decide +kernel
theorem dX3_cached_18 : decode cX3_cached 18 = .ok (.if_icmp .lt 7, 3) := by decide +kernel
theorem dX3_cached_21 : decode cX3_cached 21 = .ok (.iconst (-1), 1) := by decide +kernel
theorem dX3_cached_22 : decode cX3_cached 22 = .ok (.goto 9, 3) := by decide +kernel
theorem dX3_cached_25 : decode cX3_cached 25 = .ok (.aload_n 3, 1) := by decide +kernel
theorem dX3_cached_26 : decode cX3_cached 26 = .ok (.getfield 123, 3) := by decide +kernel
theorem dX3_cached_29 : decode cX3_cached 29 = .ok (.iload_n 2, 1) := by decide +kernel
theorem dX3_cached_30 : decode cX3_cached 30 = .ok (.iaload, 1) := by decide +kernel
theorem dX3_cached_31 : decode cX3_cached 31 = .ok (.ireturn, 1) := by decide +kernel
theorem dX3_house_0 : decode cX3_house 0 = .ok (.iload_n 1, 1) := by decide +kernel
theorem dX3_house_1 : decode cX3_house 1 = .ok (.tableswitch 51 0 3 #[31, 36, 41, 46], 31) := by decide +kernel
theorem dX3_house_32 : decode cX3_house 32 = .ok (.aload_n 0, 1) := by decide +kernel
theorem dX3_house_33 : decode cX3_house 33 = .ok (.getfield 126, 3) := by decide +kernel
theorem dX3_house_36 : decode cX3_house 36 = .ok (.ireturn, 1) := by decide +kernel
theorem dX3_house_37 : decode cX3_house 37 = .ok (.aload_n 0, 1) := by decide +kernel
theorem dX3_house_38 : decode cX3_house 38 = .ok (.getfield 103, 3) := by decide +kernel
theorem dX3_house_41 : decode cX3_house 41 = .ok (.ireturn, 1) := by decide +kernel
theorem dX3_house_42 : decode cX3_house 42 = .ok (.aload_n 0, 1) := by decide +kernel
theorem dX3_house_43 : decode cX3_house 43 = .ok (.invokevirtual 129, 3) := by decide +kernel
theorem dX3_house_46 : decode cX3_house 46 = .ok (.ireturn, 1) := by decide +kernel
theorem dX3_house_47 : decode cX3_house 47 = .ok (.aload_n 0, 1) := by decide +kernel
theorem dX3_house_48 : decode cX3_house 48 = .ok (.getfield 106, 3) := by decide +kernel
theorem dX3_house_51 : decode cX3_house 51 = .ok (.ireturn, 1) := by decide +kernel
theorem dX3_house_52 : decode cX3_house 52 = .ok (.iconst 0, 1) := by decide +kernel
theorem dX3_house_53 : decode cX3_house 53 = .ok (.ireturn, 1) := by decide +kernel
theorem dX3_audit_0 : decode cX3_audit 0 = .ok (.aload_n 0, 1) := by decide +kernel
theorem dX3_audit_1 : decode cX3_audit 1 = .ok (.getfield 12, 3) := by decide +kernel
theorem dX3_audit_4 : decode cX3_audit 4 = .ok (.aload_n 0, 1) := by decide +kernel
theorem dX3_audit_5 : decode cX3_audit 5 = .ok (.getfield 27, 3) := by decide +kernel
theorem dX3_audit_8 : decode cX3_audit 8 = .ok (.invokevirtual 132, 3) := by decide +kernel
theorem dX3_audit_11 : decode cX3_audit 11 = .ok (.istore_n 1, 1) := by decide +kernel
theorem dX3_audit_12 : decode cX3_audit 12 = .ok (.iconst 0, 1) := by decide +kernel
theorem dX3_audit_13 : decode cX3_audit 13 = .ok (.istore_n 2, 1) := by decide +kernel
theorem dX3_audit_14 : decode cX3_audit 14 = .ok (.iload_n 2, 1) := by decide +kernel
theorem dX3_audit_15 : decode cX3_audit 15 = .ok (.bipush 8, 2) := by decide +kernel
theorem dX3_audit_17 : decode cX3_audit 17 = .ok (.if_icmp .ge 30, 3) := by decide +kernel
theorem dX3_audit_20 : decode cX3_audit 20 = .ok (.aload_n 0, 1) := by decide +kernel
theorem dX3_audit_21 : decode cX3_audit 21 = .ok (.iload_n 2, 1) := by decide +kernel
theorem dX3_audit_22 : decode cX3_audit 22 = .ok (.invokevirtual 51, 3) := by decide +kernel
theorem dX3_audit_25 : decode cX3_audit 25 = .ok (.astore_n 3, 1) := by decide +kernel
theorem dX3_audit_26 : decode cX3_audit 26 = .ok (.iload_n 1, 1) := by decide +kernel
theorem dX3_audit_27 : decode cX3_audit 27 = .ok (.aload_n 3, 1) := by decide +kernel
theorem dX3_audit_28 : decode cX3_audit 28 = .ok (.ifnonnull 7, 3) := by decide +kernel
theorem dX3_audit_31 : decode cX3_audit 31 = .ok (.iconst 0, 1) := by decide +kernel
theorem dX3_audit_32 : decode cX3_audit 32 = .ok (.goto 7, 3) := by decide +kernel
theorem dX3_audit_35 : decode cX3_audit 35 = .ok (.aload_n 3, 1) := by decide +kernel
theorem dX3_audit_36 : decode cX3_audit 36 = .ok (.invokevirtual 136, 3) := by decide +kernel
theorem dX3_audit_39 : decode cX3_audit 39 = .ok (.iadd, 1) := by decide +kernel
theorem dX3_audit_40 : decode cX3_audit 40 = .ok (.istore_n 1, 1) := by decide +kernel
theorem dX3_audit_41 : decode cX3_audit 41 = .ok (.iinc 2 1, 3) := by decide +kernel
theorem dX3_audit_44 : decode cX3_audit 44 = .ok (.goto (-30), 3) := by decide +kernel
theorem dX3_audit_47 : decode cX3_audit 47 = .ok (.iload_n 1, 1) := by decide +kernel
theorem dX3_audit_48 : decode cX3_audit 48 = .ok (.ireturn, 1) := by decide +kernel
theorem dX3_settle_0 : decode cX3_settle 0 = .ok (.aload_n 0, 1) := by decide +kernel
theorem dX3_settle_1 : decode cX3_settle 1 = .ok (.getfield 12, 3) := by decide +kernel
theorem dX3_settle_4 : decode cX3_settle 4 = .ok (.iload_n 1, 1) := by decide +kernel
theorem dX3_settle_5 : decode cX3_settle 5 = .ok (.invokevirtual 138, 3) := by decide +kernel
theorem dX3_settle_8 : decode cX3_settle 8 = .ok (.iconst 0, 1) := by decide +kernel
theorem dX3_settle_9 : decode cX3_settle 9 = .ok (.istore_n 3, 1) := by decide +kernel
theorem dX3_settle_10 : decode cX3_settle 10 = .ok (.iload_n 3, 1) := by decide +kernel
theorem dX3_settle_11 : decode cX3_settle 11 = .ok (.bipush 8, 2) := by decide +kernel
theorem dX3_settle_13 : decode cX3_settle 13 = .ok (.if_icmp .ge 28, 3) := by decide +kernel
theorem dX3_settle_16 : decode cX3_settle 16 = .ok (.aload_n 0, 1) := by decide +kernel
theorem dX3_settle_17 : decode cX3_settle 17 = .ok (.getfield 27, 3) := by decide +kernel
theorem dX3_settle_20 : decode cX3_settle 20 = .ok (.iload_n 3, 1) := by decide +kernel
theorem dX3_settle_21 : decode cX3_settle 21 = .ok (.aaload, 1) := by decide +kernel
theorem dX3_settle_22 : decode cX3_settle 22 = .ok (.ifnull 13, 3) := by decide +kernel
theorem dX3_settle_25 : decode cX3_settle 25 = .ok (.aload_n 0, 1) := by decide +kernel
theorem dX3_settle_26 : decode cX3_settle 26 = .ok (.getfield 27, 3) := by decide +kernel
theorem dX3_settle_29 : decode cX3_settle 29 = .ok (.iload_n 3, 1) := by decide +kernel
theorem dX3_settle_30 : decode cX3_settle 30 = .ok (.aaload, 1) := by decide +kernel
theorem dX3_settle_31 : decode cX3_settle 31 = .ok (.iconst 0, 1) := by decide +kernel
theorem dX3_settle_32 : decode cX3_settle 32 = .ok (.putfield 92, 3) := by decide +kernel
theorem dX3_settle_35 : decode cX3_settle 35 = .ok (.iinc 3 1, 3) := by decide +kernel
theorem dX3_settle_38 : decode cX3_settle 38 = .ok (.goto (-28), 3) := by decide +kernel
theorem dX3_settle_41 : decode cX3_settle 41 = .ok (.aload_n 0, 1) := by decide +kernel
theorem dX3_settle_42 : decode cX3_settle 42 = .ok (.iload_n 2, 1) := by decide +kernel
theorem dX3_settle_43 : decode cX3_settle 43 = .ok (.putfield 139, 3) := by decide +kernel
theorem dX3_settle_46 : decode cX3_settle 46 = .ok (.aload_n 0, 1) := by decide +kernel
theorem dX3_settle_47 : decode cX3_settle 47 = .ok (.bipush 7, 2) := by decide +kernel
theorem dX3_settle_49 : decode cX3_settle 49 = .ok (.putfield 126, 3) := by decide +kernel
theorem dX3_settle_52 : decode cX3_settle 52 = .ok (.aload_n 0, 1) := by decide +kernel
theorem dX3_settle_53 : decode cX3_settle 53 = .ok (.iconst 0, 1) := by decide +kernel
theorem dX3_settle_54 : decode cX3_settle 54 = .ok (.putfield 103, 3) := by decide +kernel
theorem dX3_settle_57 : decode cX3_settle 57 = .ok (.aload_n 0, 1) := by decide +kernel
theorem dX3_settle_58 : decode cX3_settle 58 = .ok (.iconst 0, 1) := by decide +kernel
theorem dX3_settle_59 : decode cX3_settle 59 = .ok (.putfield 106, 3) := by decide +kernel
theorem dX3_settle_62 : decode cX3_settle 62 = .ok (.return_, 1) := by decide +kernel
theorem dX3_find_0 : decode cX3_find 0 = .ok (.iload_n 1, 1) := by decide +kernel
theorem dX3_find_1 : decode cX3_find 1 = .ok (.ifCond .lt 9, 3) := by decide +kernel
theorem dX3_find_4 : decode cX3_find 4 = .ok (.iload_n 1, 1) := by decide +kernel
theorem dX3_find_5 : decode cX3_find 5 = .ok (.bipush 8, 2) := by decide +kernel
theorem dX3_find_7 : decode cX3_find 7 = .ok (.if_icmp .lt 5, 3) := by decide +kernel
theorem dX3_find_10 : decode cX3_find 10 = .ok (.aconst_null, 1) := by decide +kernel
theorem dX3_find_11 : decode cX3_find 11 = .ok (.areturn, 1) := by decide +kernel
theorem dX3_find_12 : decode cX3_find 12 = .ok (.aload_n 0, 1) := by decide +kernel
theorem dX3_find_13 : decode cX3_find 13 = .ok (.getfield 27, 3) := by decide +kernel
theorem dX3_find_16 : decode cX3_find 16 = .ok (.iload_n 1, 1) := by decide +kernel
theorem dX3_find_17 : decode cX3_find 17 = .ok (.aaload, 1) := by decide +kernel
theorem dX3_find_18 : decode cX3_find 18 = .ok (.astore_n 2, 1) := by decide +kernel
theorem dX3_find_19 : decode cX3_find 19 = .ok (.aload_n 2, 1) := by decide +kernel
theorem dX3_find_20 : decode cX3_find 20 = .ok (.ifnull 14, 3) := by decide +kernel
theorem dX3_find_23 : decode cX3_find 23 = .ok (.aload_n 2, 1) := by decide +kernel
theorem dX3_find_24 : decode cX3_find 24 = .ok (.getfield 92, 3) := by decide +kernel
theorem dX3_find_27 : decode cX3_find 27 = .ok (.ifCond .eq 7, 3) := by decide +kernel
theorem dX3_find_30 : decode cX3_find 30 = .ok (.aload_n 2, 1) := by decide +kernel
theorem dX3_find_31 : decode cX3_find 31 = .ok (.goto 4, 3) := by decide +kernel
theorem dX3_find_34 : decode cX3_find 34 = .ok (.aconst_null, 1) := by decide +kernel
theorem dX3_find_35 : decode cX3_find 35 = .ok (.areturn, 1) := by decide +kernel
theorem dX3_leastFree_0 : decode cX3_leastFree 0 = .ok (.iconst 0, 1) := by decide +kernel
theorem dX3_leastFree_1 : decode cX3_leastFree 1 = .ok (.istore_n 1, 1) := by decide +kernel
theorem dX3_leastFree_2 : decode cX3_leastFree 2 = .ok (.iload_n 1, 1) := by decide +kernel
theorem dX3_leastFree_3 : decode cX3_leastFree 3 = .ok (.bipush 8, 2) := by decide +kernel
theorem dX3_leastFree_5 : decode cX3_leastFree 5 = .ok (.if_icmp .ge 19, 3) := by decide +kernel
theorem dX3_leastFree_8 : decode cX3_leastFree 8 = .ok (.aload_n 0, 1) := by decide +kernel
theorem dX3_leastFree_9 : decode cX3_leastFree 9 = .ok (.iload_n 1, 1) := by decide +kernel
theorem dX3_leastFree_10 : decode cX3_leastFree 10 = .ok (.invokevirtual 51, 3) := by decide +kernel
theorem dX3_leastFree_13 : decode cX3_leastFree 13 = .ok (.ifnonnull 5, 3) := by decide +kernel
theorem dX3_leastFree_16 : decode cX3_leastFree 16 = .ok (.iload_n 1, 1) := by decide +kernel
theorem dX3_leastFree_17 : decode cX3_leastFree 17 = .ok (.ireturn, 1) := by decide +kernel
theorem dX3_leastFree_18 : decode cX3_leastFree 18 = .ok (.iinc 1 1, 3) := by decide +kernel
theorem dX3_leastFree_21 : decode cX3_leastFree 21 = .ok (.goto (-19), 3) := by decide +kernel
theorem dX3_leastFree_24 : decode cX3_leastFree 24 = .ok (.iconst (-1), 1) := by decide +kernel
theorem dX3_leastFree_25 : decode cX3_leastFree 25 = .ok (.ireturn, 1) := by decide +kernel
theorem dX3_countGuests_0 : decode cX3_countGuests 0 = .ok (.iconst 0, 1) := by decide +kernel
theorem dX3_countGuests_1 : decode cX3_countGuests 1 = .ok (.istore_n 1, 1) := by decide +kernel
theorem dX3_countGuests_2 : decode cX3_countGuests 2 = .ok (.iconst 0, 1) := by decide +kernel
theorem dX3_countGuests_3 : decode cX3_countGuests 3 = .ok (.istore_n 2, 1) := by decide +kernel
theorem dX3_countGuests_4 : decode cX3_countGuests 4 = .ok (.iload_n 2, 1) := by decide +kernel
theorem dX3_countGuests_5 : decode cX3_countGuests 5 = .ok (.bipush 8, 2) := by decide +kernel
theorem dX3_countGuests_7 : decode cX3_countGuests 7 = .ok (.if_icmp .ge 25, 3) := by decide +kernel
theorem dX3_countGuests_10 : decode cX3_countGuests 10 = .ok (.iload_n 1, 1) := by decide +kernel
theorem dX3_countGuests_11 : decode cX3_countGuests 11 = .ok (.aload_n 0, 1) := by decide +kernel
theorem dX3_countGuests_12 : decode cX3_countGuests 12 = .ok (.iload_n 2, 1) := by decide +kernel
theorem dX3_countGuests_13 : decode cX3_countGuests 13 = .ok (.invokevirtual 51, 3) := by decide +kernel
theorem dX3_countGuests_16 : decode cX3_countGuests 16 = .ok (.ifnonnull 7, 3) := by decide +kernel
theorem dX3_countGuests_19 : decode cX3_countGuests 19 = .ok (.iconst 0, 1) := by decide +kernel
theorem dX3_countGuests_20 : decode cX3_countGuests 20 = .ok (.goto 4, 3) := by decide +kernel
theorem dX3_countGuests_23 : decode cX3_countGuests 23 = .ok (.iconst 1, 1) := by decide +kernel
theorem dX3_countGuests_24 : decode cX3_countGuests 24 = .ok (.iadd, 1) := by decide +kernel
theorem dX3_countGuests_25 : decode cX3_countGuests 25 = .ok (.istore_n 1, 1) := by decide +kernel
theorem dX3_countGuests_26 : decode cX3_countGuests 26 = .ok (.iinc 2 1, 3) := by decide +kernel
theorem dX3_countGuests_29 : decode cX3_countGuests 29 = .ok (.goto (-25), 3) := by decide +kernel
theorem dX3_countGuests_32 : decode cX3_countGuests 32 = .ok (.iload_n 1, 1) := by decide +kernel
theorem dX3_countGuests_33 : decode cX3_countGuests 33 = .ok (.ireturn, 1) := by decide +kernel
theorem dX3_room_0 : decode cX3_room 0 = .ok (.iload_n 1, 1) := by decide +kernel
theorem dX3_room_1 : decode cX3_room 1 = .ok (.bipush 7, 2) := by decide +kernel
theorem dX3_room_3 : decode cX3_room 3 = .ok (.iand, 1) := by decide +kernel
theorem dX3_room_4 : decode cX3_room 4 = .ok (.istore_n 2, 1) := by decide +kernel
theorem dX3_room_5 : decode cX3_room 5 = .ok (.aload_n 0, 1) := by decide +kernel
theorem dX3_room_6 : decode cX3_room 6 = .ok (.getfield 27, 3) := by decide +kernel
theorem dX3_room_9 : decode cX3_room 9 = .ok (.iload_n 2, 1) := by decide +kernel
theorem dX3_room_10 : decode cX3_room 10 = .ok (.aaload, 1) := by decide +kernel
theorem dX3_room_11 : decode cX3_room 11 = .ok (.astore_n 3, 1) := by decide +kernel
theorem dX3_room_12 : decode cX3_room 12 = .ok (.aload_n 3, 1) := by decide +kernel
theorem dX3_room_13 : decode cX3_room 13 = .ok (.ifnonnull 18, 3) := by decide +kernel
theorem dX3_room_16 : decode cX3_room 16 = .ok (.new 25, 3) := by decide +kernel
theorem dX3_room_19 : decode cX3_room 19 = .ok (.dup, 1) := by decide +kernel
theorem dX3_room_20 : decode cX3_room 20 = .ok (.invokespecial 142, 3) := by decide +kernel
theorem dX3_room_23 : decode cX3_room 23 = .ok (.astore_n 3, 1) := by decide +kernel
theorem dX3_room_24 : decode cX3_room 24 = .ok (.aload_n 0, 1) := by decide +kernel
theorem dX3_room_25 : decode cX3_room 25 = .ok (.getfield 27, 3) := by decide +kernel
theorem dX3_room_28 : decode cX3_room 28 = .ok (.iload_n 2, 1) := by decide +kernel
theorem dX3_room_29 : decode cX3_room 29 = .ok (.aload_n 3, 1) := by decide +kernel
theorem dX3_room_30 : decode cX3_room 30 = .ok (.aastore, 1) := by decide +kernel
theorem dX3_room_31 : decode cX3_room 31 = .ok (.aload_n 3, 1) := by decide +kernel
theorem dX3_room_32 : decode cX3_room 32 = .ok (.areturn, 1) := by decide +kernel
theorem dX3_nextTurn_0 : decode cX3_nextTurn 0 = .ok (.aload_n 0, 1) := by decide +kernel
theorem dX3_nextTurn_1 : decode cX3_nextTurn 1 = .ok (.aload_n 0, 1) := by decide +kernel
theorem dX3_nextTurn_2 : decode cX3_nextTurn 2 = .ok (.getfield 126, 3) := by decide +kernel
theorem dX3_nextTurn_5 : decode cX3_nextTurn 5 = .ok (.invokevirtual 51, 3) := by decide +kernel
theorem dX3_nextTurn_8 : decode cX3_nextTurn 8 = .ok (.astore_n 1, 1) := by decide +kernel
theorem dX3_nextTurn_9 : decode cX3_nextTurn 9 = .ok (.aload_n 0, 1) := by decide +kernel
theorem dX3_nextTurn_10 : decode cX3_nextTurn 10 = .ok (.getfield 103, 3) := by decide +kernel
theorem dX3_nextTurn_13 : decode cX3_nextTurn 13 = .ok (.ifCond .le 17, 3) := by decide +kernel
theorem dX3_nextTurn_16 : decode cX3_nextTurn 16 = .ok (.aload_n 1, 1) := by decide +kernel
theorem dX3_nextTurn_17 : decode cX3_nextTurn 17 = .ok (.ifnull 13, 3) := by decide +kernel
theorem dX3_nextTurn_20 : decode cX3_nextTurn 20 = .ok (.aload_n 1, 1) := by decide +kernel
theorem dX3_nextTurn_21 : decode cX3_nextTurn 21 = .ok (.getfield 54, 3) := by decide +kernel
theorem dX3_nextTurn_24 : decode cX3_nextTurn 24 = .ok (.iconst 1, 1) := by decide +kernel
theorem dX3_nextTurn_25 : decode cX3_nextTurn 25 = .ok (.if_icmp .ne 5, 3) := by decide +kernel
theorem dX3_nextTurn_28 : decode cX3_nextTurn 28 = .ok (.aload_n 1, 1) := by decide +kernel
theorem dX3_nextTurn_29 : decode cX3_nextTurn 29 = .ok (.areturn, 1) := by decide +kernel
theorem dX3_nextTurn_30 : decode cX3_nextTurn 30 = .ok (.iconst 1, 1) := by decide +kernel
theorem dX3_nextTurn_31 : decode cX3_nextTurn 31 = .ok (.istore_n 2, 1) := by decide +kernel
theorem dX3_nextTurn_32 : decode cX3_nextTurn 32 = .ok (.iload_n 2, 1) := by decide +kernel
theorem dX3_nextTurn_33 : decode cX3_nextTurn 33 = .ok (.bipush 8, 2) := by decide +kernel
theorem dX3_nextTurn_35 : decode cX3_nextTurn 35 = .ok (.if_icmp .gt 52, 3) := by decide +kernel
theorem dX3_nextTurn_38 : decode cX3_nextTurn 38 = .ok (.aload_n 0, 1) := by decide +kernel
theorem dX3_nextTurn_39 : decode cX3_nextTurn 39 = .ok (.getfield 126, 3) := by decide +kernel
theorem dX3_nextTurn_42 : decode cX3_nextTurn 42 = .ok (.iload_n 2, 1) := by decide +kernel
theorem dX3_nextTurn_43 : decode cX3_nextTurn 43 = .ok (.iadd, 1) := by decide +kernel
theorem dX3_nextTurn_44 : decode cX3_nextTurn 44 = .ok (.bipush 8, 2) := by decide +kernel
theorem dX3_nextTurn_46 : decode cX3_nextTurn 46 = .ok (.irem, 1) := by decide +kernel
theorem dX3_nextTurn_47 : decode cX3_nextTurn 47 = .ok (.istore_n 3, 1) := by decide +kernel
theorem dX3_nextTurn_48 : decode cX3_nextTurn 48 = .ok (.aload_n 0, 1) := by decide +kernel
theorem dX3_nextTurn_49 : decode cX3_nextTurn 49 = .ok (.iload_n 3, 1) := by decide +kernel
theorem dX3_nextTurn_50 : decode cX3_nextTurn 50 = .ok (.invokevirtual 51, 3) := by decide +kernel
theorem dX3_nextTurn_53 : decode cX3_nextTurn 53 = .ok (.astore_n 1, 1) := by decide +kernel
theorem dX3_nextTurn_54 : decode cX3_nextTurn 54 = .ok (.aload_n 1, 1) := by decide +kernel
theorem dX3_nextTurn_55 : decode cX3_nextTurn 55 = .ok (.ifnull 26, 3) := by decide +kernel
theorem dX3_nextTurn_58 : decode cX3_nextTurn 58 = .ok (.aload_n 1, 1) := by decide +kernel
theorem dX3_nextTurn_59 : decode cX3_nextTurn 59 = .ok (.getfield 54, 3) := by decide +kernel
theorem dX3_nextTurn_62 : decode cX3_nextTurn 62 = .ok (.iconst 1, 1) := by decide +kernel
theorem dX3_nextTurn_63 : decode cX3_nextTurn 63 = .ok (.if_icmp .ne 18, 3) := by decide +kernel
theorem dX3_nextTurn_66 : decode cX3_nextTurn 66 = .ok (.aload_n 0, 1) := by decide +kernel
theorem dX3_nextTurn_67 : decode cX3_nextTurn 67 = .ok (.iload_n 3, 1) := by decide +kernel
theorem dX3_nextTurn_68 : decode cX3_nextTurn 68 = .ok (.putfield 126, 3) := by decide +kernel
theorem dX3_nextTurn_71 : decode cX3_nextTurn 71 = .ok (.aload_n 0, 1) := by decide +kernel
theorem dX3_nextTurn_72 : decode cX3_nextTurn 72 = .ok (.aload_n 0, 1) := by decide +kernel
theorem dX3_nextTurn_73 : decode cX3_nextTurn 73 = .ok (.getfield 139, 3) := by decide +kernel
theorem dX3_nextTurn_76 : decode cX3_nextTurn 76 = .ok (.putfield 103, 3) := by decide +kernel
theorem dX3_nextTurn_79 : decode cX3_nextTurn 79 = .ok (.aload_n 1, 1) := by decide +kernel
theorem dX3_nextTurn_80 : decode cX3_nextTurn 80 = .ok (.areturn, 1) := by decide +kernel
theorem dX3_nextTurn_81 : decode cX3_nextTurn 81 = .ok (.iinc 2 1, 3) := by decide +kernel
theorem dX3_nextTurn_84 : decode cX3_nextTurn 84 = .ok (.goto (-52), 3) := by decide +kernel
theorem dX3_nextTurn_87 : decode cX3_nextTurn 87 = .ok (.aconst_null, 1) := by decide +kernel
theorem dX3_nextTurn_88 : decode cX3_nextTurn 88 = .ok (.areturn, 1) := by decide +kernel
end
section
theorem dX4_init_0 : decode cX4_init 0 = .ok (.aload_n 0, 1) := by decide +kernel
theorem dX4_init_1 : decode cX4_init 1 = .ok (.invokespecial 3, 3) := by decide +kernel
theorem dX4_init_4 : decode cX4_init 4 = .ok (.aload_n 0, 1) := by decide +kernel
theorem dX4_init_5 : decode cX4_init 5 = .ok (.sipush 4096, 3) := by decide +kernel
theorem dX4_init_8 : decode cX4_init 8 = .ok (.newarray .int, 2) := by decide +kernel
theorem dX4_init_10 : decode cX4_init 10 = .ok (.putfield 9, 3) := by decide +kernel
theorem dX4_init_13 : decode cX4_init 13 = .ok (.aload_n 0, 1) := by decide +kernel
theorem dX4_init_14 : decode cX4_init 14 = .ok (.sipush 1024, 3) := by decide +kernel
theorem dX4_init_17 : decode cX4_init 17 = .ok (.newarray .int, 2) := by decide +kernel
theorem dX4_init_19 : decode cX4_init 19 = .ok (.putfield 15, 3) := by decide +kernel
theorem dX4_init_22 : decode cX4_init 22 = .ok (.aload_n 0, 1) := by decide +kernel
theorem dX4_init_23 : decode cX4_init 23 = .ok (.bipush 8, 2) := by decide +kernel
theorem dX4_init_25 : decode cX4_init 25 = .ok (.newarray .int, 2) := by decide +kernel
theorem dX4_init_27 : decode cX4_init 27 = .ok (.putfield 18, 3) := by decide +kernel
theorem dX4_init_30 : decode cX4_init 30 = .ok (.aload_n 0, 1) := by decide +kernel
theorem dX4_init_31 : decode cX4_init 31 = .ok (.bipush 9, 2) := by decide +kernel
theorem dX4_init_33 : decode cX4_init 33 = .ok (.newarray .int, 2) := by decide +kernel
theorem dX4_init_35 : decode cX4_init 35 = .ok (.putfield 21, 3) := by decide +kernel
theorem dX4_init_38 : decode cX4_init 38 = .ok (.aload_n 0, 1) := by decide +kernel
theorem dX4_init_39 : decode cX4_init 39 = .ok (.sipush 256, 3) := by decide +kernel
theorem dX4_init_42 : decode cX4_init 42 = .ok (.newarray .int, 2) := by decide +kernel
theorem dX4_init_44 : decode cX4_init 44 = .ok (.putfield 24, 3) := by decide +kernel
theorem dX4_init_47 : decode cX4_init 47 = .ok (.aload_n 0, 1) := by decide +kernel
theorem dX4_init_48 : decode cX4_init 48 = .ok (.sipush 256, 3) := by decide +kernel
theorem dX4_init_51 : decode cX4_init 51 = .ok (.newarray .int, 2) := by decide +kernel
theorem dX4_init_53 : decode cX4_init 53 = .ok (.putfield 27, 3) := by decide +kernel
theorem dX4_init_56 : decode cX4_init 56 = .ok (.aload_n 0, 1) := by decide +kernel
theorem dX4_init_57 : decode cX4_init 57 = .ok (.bipush 64, 2) := by decide +kernel
theorem dX4_init_59 : decode cX4_init 59 = .ok (.newarray .int, 2) := by decide +kernel
theorem dX4_init_61 : decode cX4_init 61 = .ok (.putfield 30, 3) := by decide +kernel
theorem dX4_init_64 : decode cX4_init 64 = .ok (.aload_n 0, 1) := by decide +kernel
theorem dX4_init_65 : decode cX4_init 65 = .ok (.sipush 1000, 3) := by decide +kernel
theorem dX4_init_68 : decode cX4_init 68 = .ok (.newarray .int, 2) := by decide +kernel
theorem dX4_init_70 : decode cX4_init 70 = .ok (.putfield 33, 3) := by decide +kernel
theorem dX4_init_73 : decode cX4_init 73 = .ok (.return_, 1) := by decide +kernel
theorem dX4_make_0 : decode cX4_make 0 = .ok (.aload_n 0, 1) := by decide +kernel
theorem dX4_make_1 : decode cX4_make 1 = .ok (.iload_n 1, 1) := by decide +kernel
theorem dX4_make_2 : decode cX4_make 2 = .ok (.putfield 36, 3) := by decide +kernel
theorem dX4_make_5 : decode cX4_make 5 = .ok (.aload_n 0, 1) := by decide +kernel
theorem dX4_make_6 : decode cX4_make 6 = .ok (.iconst 1, 1) := by decide +kernel
theorem dX4_make_7 : decode cX4_make 7 = .ok (.putfield 40, 3) := by decide +kernel
theorem dX4_make_10 : decode cX4_make 10 = .ok (.iconst 0, 1) := by decide +kernel
theorem dX4_make_11 : decode cX4_make 11 = .ok (.istore_n 2, 1) := by decide +kernel
theorem dX4_make_12 : decode cX4_make 12 = .ok (.iload_n 2, 1) := by decide +kernel
theorem dX4_make_13 : decode cX4_make 13 = .ok (.aload_n 0, 1) := by decide +kernel
theorem dX4_make_14 : decode cX4_make 14 = .ok (.getfield 9, 3) := by decide +kernel
theorem dX4_make_17 : decode cX4_make 17 = .ok (.arraylength, 1) := by decide +kernel
theorem dX4_make_18 : decode cX4_make 18 = .ok (.if_icmp .ge 16, 3) := by decide +kernel
theorem dX4_make_21 : decode cX4_make 21 = .ok (.aload_n 0, 1) := by decide +kernel
theorem dX4_make_22 : decode cX4_make 22 = .ok (.getfield 9, 3) := by decide +kernel
theorem dX4_make_25 : decode cX4_make 25 = .ok (.iload_n 2, 1) := by decide +kernel
theorem dX4_make_26 : decode cX4_make 26 = .ok (.iconst 0, 1) := by decide +kernel
theorem dX4_make_27 : decode cX4_make 27 = .ok (.iastore, 1) := by decide +kernel
theorem dX4_make_28 : decode cX4_make 28 = .ok (.iinc 2 1, 3) := by decide +kernel
theorem dX4_make_31 : decode cX4_make 31 = .ok (.goto (-19), 3) := by decide +kernel
theorem dX4_make_34 : decode cX4_make 34 = .ok (.iconst 0, 1) := by decide +kernel
theorem dX4_make_35 : decode cX4_make 35 = .ok (.istore_n 2, 1) := by decide +kernel
theorem dX4_make_36 : decode cX4_make 36 = .ok (.iload_n 2, 1) := by decide +kernel
theorem dX4_make_37 : decode cX4_make 37 = .ok (.sipush 1024, 3) := by decide +kernel
theorem dX4_make_40 : decode cX4_make 40 = .ok (.if_icmp .ge 16, 3) := by decide +kernel
theorem dX4_make_43 : decode cX4_make 43 = .ok (.aload_n 0, 1) := by decide +kernel
theorem dX4_make_44 : decode cX4_make 44 = .ok (.getfield 15, 3) := by decide +kernel
theorem dX4_make_47 : decode cX4_make 47 = .ok (.iload_n 2, 1) := by decide +kernel
theorem dX4_make_48 : decode cX4_make 48 = .ok (.iconst 0, 1) := by decide +kernel
theorem dX4_make_49 : decode cX4_make 49 = .ok (.iastore, 1) := by decide +kernel
theorem dX4_make_50 : decode cX4_make 50 = .ok (.iinc 2 1, 3) := by decide +kernel
theorem dX4_make_53 : decode cX4_make 53 = .ok (.goto (-17), 3) := by decide +kernel
theorem dX4_make_56 : decode cX4_make 56 = .ok (.aload_n 0, 1) := by decide +kernel
theorem dX4_make_57 : decode cX4_make 57 = .ok (.iconst 0, 1) := by decide +kernel
theorem dX4_make_58 : decode cX4_make 58 = .ok (.putfield 44, 3) := by decide +kernel
theorem dX4_make_61 : decode cX4_make 61 = .ok (.aload_n 0, 1) := by decide +kernel
theorem dX4_make_62 : decode cX4_make 62 = .ok (.iconst 0, 1) := by decide +kernel
theorem dX4_make_63 : decode cX4_make 63 = .ok (.putfield 47, 3) := by decide +kernel
theorem dX4_make_66 : decode cX4_make 66 = .ok (.aload_n 0, 1) := by decide +kernel
theorem dX4_make_67 : decode cX4_make 67 = .ok (.iconst 0, 1) := by decide +kernel
theorem dX4_make_68 : decode cX4_make 68 = .ok (.invokevirtual 50, 3) := by decide +kernel
theorem dX4_make_71 : decode cX4_make 71 = .ok (.aload_n 0, 1) := by decide +kernel
theorem dX4_make_72 : decode cX4_make 72 = .ok (.iconst 0, 1) := by decide +kernel
theorem dX4_make_73 : decode cX4_make 73 = .ok (.putfield 54, 3) := by decide +kernel
theorem dX4_make_76 : decode cX4_make 76 = .ok (.aload_n 0, 1) := by decide +kernel
theorem dX4_make_77 : decode cX4_make 77 = .ok (.iconst 0, 1) := by decide +kernel
theorem dX4_make_78 : decode cX4_make 78 = .ok (.putfield 57, 3) := by decide +kernel
theorem dX4_make_81 : decode cX4_make 81 = .ok (.return_, 1) := by decide +kernel
theorem dX4_copy_0 : decode cX4_copy 0 = .ok (.aload_n 0, 1) := by decide +kernel
theorem dX4_copy_1 : decode cX4_copy 1 = .ok (.aload_n 1, 1) := by decide +kernel
theorem dX4_copy_2 : decode cX4_copy 2 = .ok (.getfield 36, 3) := by decide +kernel
theorem dX4_copy_5 : decode cX4_copy 5 = .ok (.putfield 36, 3) := by decide +kernel
theorem dX4_copy_8 : decode cX4_copy 8 = .ok (.aload_n 0, 1) := by decide +kernel
theorem dX4_copy_9 : decode cX4_copy 9 = .ok (.iconst 1, 1) := by decide +kernel
theorem dX4_copy_10 : decode cX4_copy 10 = .ok (.putfield 40, 3) := by decide +kernel
theorem dX4_copy_13 : decode cX4_copy 13 = .ok (.iconst 0, 1) := by decide +kernel
theorem dX4_copy_14 : decode cX4_copy 14 = .ok (.istore_n 2, 1) := by decide +kernel
theorem dX4_copy_15 : decode cX4_copy 15 = .ok (.iload_n 2, 1) := by decide +kernel
theorem dX4_copy_16 : decode cX4_copy 16 = .ok (.aload_n 0, 1) := by decide +kernel
theorem dX4_copy_17 : decode cX4_copy 17 = .ok (.getfield 9, 3) := by decide +kernel
theorem dX4_copy_20 : decode cX4_copy 20 = .ok (.arraylength, 1) := by decide +kernel
theorem dX4_copy_21 : decode cX4_copy 21 = .ok (.if_icmp .ge 21, 3) := by decide +kernel
theorem dX4_copy_24 : decode cX4_copy 24 = .ok (.aload_n 0, 1) := by decide +kernel
theorem dX4_copy_25 : decode cX4_copy 25 = .ok (.getfield 9, 3) := by decide +kernel
theorem dX4_copy_28 : decode cX4_copy 28 = .ok (.iload_n 2, 1) := by decide +kernel
theorem dX4_copy_29 : decode cX4_copy 29 = .ok (.aload_n 1, 1) := by decide +kernel
theorem dX4_copy_30 : decode cX4_copy 30 = .ok (.getfield 9, 3) := by decide +kernel
theorem dX4_copy_33 : decode cX4_copy 33 = .ok (.iload_n 2, 1) := by decide +kernel
theorem dX4_copy_34 : decode cX4_copy 34 = .ok (.iaload, 1) := by decide +kernel
theorem dX4_copy_35 : decode cX4_copy 35 = .ok (.iastore, 1) := by decide +kernel
theorem dX4_copy_36 : decode cX4_copy 36 = .ok (.iinc 2 1, 3) := by decide +kernel
theorem dX4_copy_39 : decode cX4_copy 39 = .ok (.goto (-24), 3) := by decide +kernel
theorem dX4_copy_42 : decode cX4_copy 42 = .ok (.iconst 0, 1) := by decide +kernel
theorem dX4_copy_43 : decode cX4_copy 43 = .ok (.istore_n 2, 1) := by decide +kernel
theorem dX4_copy_44 : decode cX4_copy 44 = .ok (.iload_n 2, 1) := by decide +kernel
theorem dX4_copy_45 : decode cX4_copy 45 = .ok (.sipush 1024, 3) := by decide +kernel
theorem dX4_copy_48 : decode cX4_copy 48 = .ok (.if_icmp .ge 21, 3) := by decide +kernel
theorem dX4_copy_51 : decode cX4_copy 51 = .ok (.aload_n 0, 1) := by decide +kernel
theorem dX4_copy_52 : decode cX4_copy 52 = .ok (.getfield 15, 3) := by decide +kernel
theorem dX4_copy_55 : decode cX4_copy 55 = .ok (.iload_n 2, 1) := by decide +kernel
theorem dX4_copy_56 : decode cX4_copy 56 = .ok (.aload_n 1, 1) := by decide +kernel
theorem dX4_copy_57 : decode cX4_copy 57 = .ok (.getfield 15, 3) := by decide +kernel
theorem dX4_copy_60 : decode cX4_copy 60 = .ok (.iload_n 2, 1) := by decide +kernel
theorem dX4_copy_61 : decode cX4_copy 61 = .ok (.iaload, 1) := by decide +kernel
theorem dX4_copy_62 : decode cX4_copy 62 = .ok (.iastore, 1) := by decide +kernel
theorem dX4_copy_63 : decode cX4_copy 63 = .ok (.iinc 2 1, 3) := by decide +kernel
theorem dX4_copy_66 : decode cX4_copy 66 = .ok (.goto (-22), 3) := by decide +kernel
theorem dX4_copy_69 : decode cX4_copy 69 = .ok (.iconst 0, 1) := by decide +kernel
theorem dX4_copy_70 : decode cX4_copy 70 = .ok (.istore_n 2, 1) := by decide +kernel
theorem dX4_copy_71 : decode cX4_copy 71 = .ok (.iload_n 2, 1) := by decide +kernel
theorem dX4_copy_72 : decode cX4_copy 72 = .ok (.bipush 8, 2) := by decide +kernel
theorem dX4_copy_74 : decode cX4_copy 74 = .ok (.if_icmp .ge 21, 3) := by decide +kernel
theorem dX4_copy_77 : decode cX4_copy 77 = .ok (.aload_n 0, 1) := by decide +kernel
theorem dX4_copy_78 : decode cX4_copy 78 = .ok (.getfield 18, 3) := by decide +kernel
theorem dX4_copy_81 : decode cX4_copy 81 = .ok (.iload_n 2, 1) := by decide +kernel
theorem dX4_copy_82 : decode cX4_copy 82 = .ok (.aload_n 1, 1) := by decide +kernel
theorem dX4_copy_83 : decode cX4_copy 83 = .ok (.getfield 18, 3) := by decide +kernel
theorem dX4_copy_86 : decode cX4_copy 86 = .ok (.iload_n 2, 1) := by decide +kernel
theorem dX4_copy_87 : decode cX4_copy 87 = .ok (.iaload, 1) := by decide +kernel
theorem dX4_copy_88 : decode cX4_copy 88 = .ok (.iastore, 1) := by decide +kernel
theorem dX4_copy_89 : decode cX4_copy 89 = .ok (.iinc 2 1, 3) := by decide +kernel
theorem dX4_copy_92 : decode cX4_copy 92 = .ok (.goto (-21), 3) := by decide +kernel
theorem dX4_copy_95 : decode cX4_copy 95 = .ok (.iconst 0, 1) := by decide +kernel
theorem dX4_copy_96 : decode cX4_copy 96 = .ok (.istore_n 2, 1) := by decide +kernel
theorem dX4_copy_97 : decode cX4_copy 97 = .ok (.iload_n 2, 1) := by decide +kernel
theorem dX4_copy_98 : decode cX4_copy 98 = .ok (.bipush 9, 2) := by decide +kernel
theorem dX4_copy_100 : decode cX4_copy 100 = .ok (.if_icmp .ge 21, 3) := by decide +kernel
theorem dX4_copy_103 : decode cX4_copy 103 = .ok (.aload_n 0, 1) := by decide +kernel
theorem dX4_copy_104 : decode cX4_copy 104 = .ok (.getfield 21, 3) := by decide +kernel
theorem dX4_copy_107 : decode cX4_copy 107 = .ok (.iload_n 2, 1) := by decide +kernel
theorem dX4_copy_108 : decode cX4_copy 108 = .ok (.aload_n 1, 1) := by decide +kernel
theorem dX4_copy_109 : decode cX4_copy 109 = .ok (.getfield 21, 3) := by decide +kernel
theorem dX4_copy_112 : decode cX4_copy 112 = .ok (.iload_n 2, 1) := by decide +kernel
theorem dX4_copy_113 : decode cX4_copy 113 = .ok (.iaload, 1) := by decide +kernel
theorem dX4_copy_114 : decode cX4_copy 114 = .ok (.iastore, 1) := by decide +kernel
theorem dX4_copy_115 : decode cX4_copy 115 = .ok (.iinc 2 1, 3) := by decide +kernel
theorem dX4_copy_118 : decode cX4_copy 118 = .ok (.goto (-21), 3) := by decide +kernel
theorem dX4_copy_121 : decode cX4_copy 121 = .ok (.iconst 0, 1) := by decide +kernel
theorem dX4_copy_122 : decode cX4_copy 122 = .ok (.istore_n 2, 1) := by decide +kernel
theorem dX4_copy_123 : decode cX4_copy 123 = .ok (.iload_n 2, 1) := by decide +kernel
theorem dX4_copy_124 : decode cX4_copy 124 = .ok (.sipush 256, 3) := by decide +kernel
theorem dX4_copy_127 : decode cX4_copy 127 = .ok (.if_icmp .ge 33, 3) := by decide +kernel
theorem dX4_copy_130 : decode cX4_copy 130 = .ok (.aload_n 0, 1) := by decide +kernel
theorem dX4_copy_131 : decode cX4_copy 131 = .ok (.getfield 24, 3) := by decide +kernel
theorem dX4_copy_134 : decode cX4_copy 134 = .ok (.iload_n 2, 1) := by decide +kernel
theorem dX4_copy_135 : decode cX4_copy 135 = .ok (.aload_n 1, 1) := by decide +kernel
theorem dX4_copy_136 : decode cX4_copy 136 = .ok (.getfield 24, 3) := by decide +kernel
theorem dX4_copy_139 : decode cX4_copy 139 = .ok (.iload_n 2, 1) := by decide +kernel
theorem dX4_copy_140 : decode cX4_copy 140 = .ok (.iaload, 1) := by decide +kernel
theorem dX4_copy_141 : decode cX4_copy 141 = .ok (.iastore, 1) := by decide +kernel
theorem dX4_copy_142 : decode cX4_copy 142 = .ok (.aload_n 0, 1) := by decide +kernel
theorem dX4_copy_143 : decode cX4_copy 143 = .ok (.getfield 27, 3) := by decide +kernel
theorem dX4_copy_146 : decode cX4_copy 146 = .ok (.iload_n 2, 1) := by decide +kernel
theorem dX4_copy_147 : decode cX4_copy 147 = .ok (.aload_n 1, 1) := by decide +kernel
theorem dX4_copy_148 : decode cX4_copy 148 = .ok (.getfield 27, 3) := by decide +kernel
theorem dX4_copy_151 : decode cX4_copy 151 = .ok (.iload_n 2, 1) := by decide +kernel
theorem dX4_copy_152 : decode cX4_copy 152 = .ok (.iaload, 1) := by decide +kernel
theorem dX4_copy_153 : decode cX4_copy 153 = .ok (.iastore, 1) := by decide +kernel
theorem dX4_copy_154 : decode cX4_copy 154 = .ok (.iinc 2 1, 3) := by decide +kernel
theorem dX4_copy_157 : decode cX4_copy 157 = .ok (.goto (-34), 3) := by decide +kernel
theorem dX4_copy_160 : decode cX4_copy 160 = .ok (.iconst 0, 1) := by decide +kernel
theorem dX4_copy_161 : decode cX4_copy 161 = .ok (.istore_n 2, 1) := by decide +kernel
theorem dX4_copy_162 : decode cX4_copy 162 = .ok (.iload_n 2, 1) := by decide +kernel
theorem dX4_copy_163 : decode cX4_copy 163 = .ok (.bipush 64, 2) := by decide +kernel
theorem dX4_copy_165 : decode cX4_copy 165 = .ok (.if_icmp .ge 21, 3) := by decide +kernel
theorem dX4_copy_168 : decode cX4_copy 168 = .ok (.aload_n 0, 1) := by decide +kernel
theorem dX4_copy_169 : decode cX4_copy 169 = .ok (.getfield 30, 3) := by decide +kernel
theorem dX4_copy_172 : decode cX4_copy 172 = .ok (.iload_n 2, 1) := by decide +kernel
theorem dX4_copy_173 : decode cX4_copy 173 = .ok (.aload_n 1, 1) := by decide +kernel
theorem dX4_copy_174 : decode cX4_copy 174 = .ok (.getfield 30, 3) := by decide +kernel
theorem dX4_copy_177 : decode cX4_copy 177 = .ok (.iload_n 2, 1) := by decide +kernel
theorem dX4_copy_178 : decode cX4_copy 178 = .ok (.iaload, 1) := by decide +kernel
theorem dX4_copy_179 : decode cX4_copy 179 = .ok (.iastore, 1) := by decide +kernel
theorem dX4_copy_180 : decode cX4_copy 180 = .ok (.iinc 2 1, 3) := by decide +kernel
theorem dX4_copy_183 : decode cX4_copy 183 = .ok (.goto (-21), 3) := by decide +kernel
theorem dX4_copy_186 : decode cX4_copy 186 = .ok (.iconst 0, 1) := by decide +kernel
theorem dX4_copy_187 : decode cX4_copy 187 = .ok (.istore_n 2, 1) := by decide +kernel
theorem dX4_copy_188 : decode cX4_copy 188 = .ok (.iload_n 2, 1) := by decide +kernel
theorem dX4_copy_189 : decode cX4_copy 189 = .ok (.sipush 1000, 3) := by decide +kernel
theorem dX4_copy_192 : decode cX4_copy 192 = .ok (.if_icmp .ge 21, 3) := by decide +kernel
theorem dX4_copy_195 : decode cX4_copy 195 = .ok (.aload_n 0, 1) := by decide +kernel
theorem dX4_copy_196 : decode cX4_copy 196 = .ok (.getfield 33, 3) := by decide +kernel
theorem dX4_copy_199 : decode cX4_copy 199 = .ok (.iload_n 2, 1) := by decide +kernel
theorem dX4_copy_200 : decode cX4_copy 200 = .ok (.aload_n 1, 1) := by decide +kernel
theorem dX4_copy_201 : decode cX4_copy 201 = .ok (.getfield 33, 3) := by decide +kernel
theorem dX4_copy_204 : decode cX4_copy 204 = .ok (.iload_n 2, 1) := by decide +kernel
theorem dX4_copy_205 : decode cX4_copy 205 = .ok (.iaload, 1) := by decide +kernel
theorem dX4_copy_206 : decode cX4_copy 206 = .ok (.iastore, 1) := by decide +kernel
theorem dX4_copy_207 : decode cX4_copy 207 = .ok (.iinc 2 1, 3) := by decide +kernel
theorem dX4_copy_210 : decode cX4_copy 210 = .ok (.goto (-22), 3) := by decide +kernel
theorem dX4_copy_213 : decode cX4_copy 213 = .ok (.aload_n 0, 1) := by decide +kernel
theorem dX4_copy_214 : decode cX4_copy 214 = .ok (.aload_n 1, 1) := by decide +kernel
theorem dX4_copy_215 : decode cX4_copy 215 = .ok (.getfield 60, 3) := by decide +kernel
theorem dX4_copy_218 : decode cX4_copy 218 = .ok (.putfield 60, 3) := by decide +kernel
theorem dX4_copy_221 : decode cX4_copy 221 = .ok (.aload_n 0, 1) := by decide +kernel
theorem dX4_copy_222 : decode cX4_copy 222 = .ok (.aload_n 1, 1) := by decide +kernel
theorem dX4_copy_223 : decode cX4_copy 223 = .ok (.getfield 54, 3) := by decide +kernel
theorem dX4_copy_226 : decode cX4_copy 226 = .ok (.putfield 54, 3) := by decide +kernel
theorem dX4_copy_229 : decode cX4_copy 229 = .ok (.aload_n 0, 1) := by decide +kernel
theorem dX4_copy_230 : decode cX4_copy 230 = .ok (.aload_n 1, 1) := by decide +kernel
theorem dX4_copy_231 : decode cX4_copy 231 = .ok (.getfield 57, 3) := by decide +kernel
theorem dX4_copy_234 : decode cX4_copy 234 = .ok (.putfield 57, 3) := by decide +kernel
theorem dX4_copy_237 : decode cX4_copy 237 = .ok (.aload_n 0, 1) := by decide +kernel
theorem dX4_copy_238 : decode cX4_copy 238 = .ok (.aload_n 1, 1) := by decide +kernel
theorem dX4_copy_239 : decode cX4_copy 239 = .ok (.getfield 63, 3) := by decide +kernel
theorem dX4_copy_242 : decode cX4_copy 242 = .ok (.putfield 63, 3) := by decide +kernel
theorem dX4_copy_245 : decode cX4_copy 245 = .ok (.aload_n 0, 1) := by decide +kernel
theorem dX4_copy_246 : decode cX4_copy 246 = .ok (.aload_n 1, 1) := by decide +kernel
theorem dX4_copy_247 : decode cX4_copy 247 = .ok (.getfield 44, 3) := by decide +kernel
theorem dX4_copy_250 : decode cX4_copy 250 = .ok (.putfield 44, 3) := by decide +kernel
theorem dX4_copy_253 : decode cX4_copy 253 = .ok (.aload_n 0, 1) := by decide +kernel
theorem dX4_copy_254 : decode cX4_copy 254 = .ok (.aload_n 1, 1) := by decide +kernel
theorem dX4_copy_255 : decode cX4_copy 255 = .ok (.getfield 47, 3) := by decide +kernel
theorem dX4_copy_258 : decode cX4_copy 258 = .ok (.putfield 47, 3) := by decide +kernel
theorem dX4_copy_261 : decode cX4_copy 261 = .ok (.aload_n 0, 1) := by decide +kernel
theorem dX4_copy_262 : decode cX4_copy 262 = .ok (.aload_n 1, 1) := by decide +kernel
theorem dX4_copy_263 : decode cX4_copy 263 = .ok (.getfield 66, 3) := by decide +kernel
theorem dX4_copy_266 : decode cX4_copy 266 = .ok (.putfield 66, 3) := by decide +kernel
theorem dX4_copy_269 : decode cX4_copy 269 = .ok (.return_, 1) := by decide +kernel
theorem dX4_start_0 : decode cX4_start 0 = .ok (.iconst 0, 1) := by decide +kernel
theorem dX4_start_1 : decode cX4_start 1 = .ok (.istore_n 2, 1) := by decide +kernel
theorem dX4_start_2 : decode cX4_start 2 = .ok (.iload_n 2, 1) := by decide +kernel
theorem dX4_start_3 : decode cX4_start 3 = .ok (.bipush 8, 2) := by decide +kernel
theorem dX4_start_5 : decode cX4_start 5 = .ok (.if_icmp .ge 16, 3) := by decide +kernel
theorem dX4_start_8 : decode cX4_start 8 = .ok (.aload_n 0, 1) := by decide +kernel
theorem dX4_start_9 : decode cX4_start 9 = .ok (.getfield 18, 3) := by decide +kernel
theorem dX4_start_12 : decode cX4_start 12 = .ok (.iload_n 2, 1) := by decide +kernel
theorem dX4_start_13 : decode cX4_start 13 = .ok (.iconst 0, 1) := by decide +kernel
theorem dX4_start_14 : decode cX4_start 14 = .ok (.iastore, 1) := by decide +kernel
theorem dX4_start_15 : decode cX4_start 15 = .ok (.iinc 2 1, 3) := by decide +kernel
theorem dX4_start_18 : decode cX4_start 18 = .ok (.goto (-16), 3) := by decide +kernel
theorem dX4_start_21 : decode cX4_start 21 = .ok (.iconst 0, 1) := by decide +kernel
theorem dX4_start_22 : decode cX4_start 22 = .ok (.istore_n 2, 1) := by decide +kernel
theorem dX4_start_23 : decode cX4_start 23 = .ok (.iload_n 2, 1) := by decide +kernel
theorem dX4_start_24 : decode cX4_start 24 = .ok (.bipush 9, 2) := by decide +kernel
theorem dX4_start_26 : decode cX4_start 26 = .ok (.if_icmp .ge 16, 3) := by decide +kernel
theorem dX4_start_29 : decode cX4_start 29 = .ok (.aload_n 0, 1) := by decide +kernel
theorem dX4_start_30 : decode cX4_start 30 = .ok (.getfield 21, 3) := by decide +kernel
theorem dX4_start_33 : decode cX4_start 33 = .ok (.iload_n 2, 1) := by decide +kernel
theorem dX4_start_34 : decode cX4_start 34 = .ok (.iconst 0, 1) := by decide +kernel
theorem dX4_start_35 : decode cX4_start 35 = .ok (.iastore, 1) := by decide +kernel
theorem dX4_start_36 : decode cX4_start 36 = .ok (.iinc 2 1, 3) := by decide +kernel
theorem dX4_start_39 : decode cX4_start 39 = .ok (.goto (-16), 3) := by decide +kernel
theorem dX4_start_42 : decode cX4_start 42 = .ok (.aload_n 0, 1) := by decide +kernel
theorem dX4_start_43 : decode cX4_start 43 = .ok (.invokevirtual 69, 3) := by decide +kernel
theorem dX4_start_46 : decode cX4_start 46 = .ok (.aload_n 0, 1) := by decide +kernel
theorem dX4_start_47 : decode cX4_start 47 = .ok (.iconst 0, 1) := by decide +kernel
theorem dX4_start_48 : decode cX4_start 48 = .ok (.putfield 63, 3) := by decide +kernel
theorem dX4_start_51 : decode cX4_start 51 = .ok (.aload_n 0, 1) := by decide +kernel
theorem dX4_start_52 : decode cX4_start 52 = .ok (.iconst 1, 1) := by decide +kernel
theorem dX4_start_53 : decode cX4_start 53 = .ok (.putfield 54, 3) := by decide +kernel
theorem dX4_start_56 : decode cX4_start 56 = .ok (.aload_n 0, 1) := by decide +kernel
theorem dX4_start_57 : decode cX4_start 57 = .ok (.iload_n 1, 1) := by decide +kernel
theorem dX4_start_58 : decode cX4_start 58 = .ok (.putfield 60, 3) := by decide +kernel
theorem dX4_start_61 : decode cX4_start 61 = .ok (.aload_n 0, 1) := by decide +kernel
theorem dX4_start_62 : decode cX4_start 62 = .ok (.iconst 0, 1) := by decide +kernel
theorem dX4_start_63 : decode cX4_start 63 = .ok (.putfield 66, 3) := by decide +kernel
theorem dX4_start_66 : decode cX4_start 66 = .ok (.aload_n 0, 1) := by decide +kernel
theorem dX4_start_67 : decode cX4_start 67 = .ok (.iconst 1, 1) := by decide +kernel
theorem dX4_start_68 : decode cX4_start 68 = .ok (.putfield 57, 3) := by decide +kernel
theorem dX4_start_71 : decode cX4_start 71 = .ok (.return_, 1) := by decide +kernel
theorem dX4_forget_0 : decode cX4_forget 0 = .ok (.iconst 0, 1) := by decide +kernel
theorem dX4_forget_1 : decode cX4_forget 1 = .ok (.istore_n 1, 1) := by decide +kernel
theorem dX4_forget_2 : decode cX4_forget 2 = .ok (.iload_n 1, 1) := by decide +kernel
theorem dX4_forget_3 : decode cX4_forget 3 = .ok (.sipush 256, 3) := by decide +kernel
theorem dX4_forget_6 : decode cX4_forget 6 = .ok (.if_icmp .ge 16, 3) := by decide +kernel
theorem dX4_forget_9 : decode cX4_forget 9 = .ok (.aload_n 0, 1) := by decide +kernel
theorem dX4_forget_10 : decode cX4_forget 10 = .ok (.getfield 24, 3) := by decide +kernel
theorem dX4_forget_13 : decode cX4_forget 13 = .ok (.iload_n 1, 1) := by decide +kernel
theorem dX4_forget_14 : decode cX4_forget 14 = .ok (.iconst (-1), 1) := by decide +kernel
theorem dX4_forget_15 : decode cX4_forget 15 = .ok (.iastore, 1) := by decide +kernel
theorem dX4_forget_16 : decode cX4_forget 16 = .ok (.iinc 1 1, 3) := by decide +kernel
theorem dX4_forget_19 : decode cX4_forget 19 = .ok (.goto (-17), 3) := by decide +kernel
theorem dX4_forget_22 : decode cX4_forget 22 = .ok (.return_, 1) := by decide +kernel
theorem dX4_isMemory_0 : decode cX4_isMemory 0 = .ok (.iload_n 1, 1) := by decide +kernel
theorem dX4_isMemory_1 : decode cX4_isMemory 1 = .ok (.bipush 64, 2) := by decide +kernel
theorem dX4_isMemory_3 : decode cX4_isMemory 3 = .ok (.aload_n 0, 1) := by decide +kernel
theorem dX4_isMemory_4 : decode cX4_isMemory 4 = .ok (.getfield 36, 3) := by decide +kernel
theorem dX4_isMemory_7 : decode cX4_isMemory 7 = .ok (.imul, 1) := by decide +kernel
theorem dX4_isMemory_8 : decode cX4_isMemory 8 = .ok (.invokestatic 72, 3) := by decide +kernel
theorem dX4_isMemory_11 : decode cX4_isMemory 11 = .ok (.ireturn, 1) := by decide +kernel
theorem dX4_hasStatus_0 : decode cX4_hasStatus 0 = .ok (.aload_n 0, 1) := by decide +kernel
theorem dX4_hasStatus_1 : decode cX4_hasStatus 1 = .ok (.getfield 21, 3) := by decide +kernel
theorem dX4_hasStatus_4 : decode cX4_hasStatus 4 = .ok (.iconst 0, 1) := by decide +kernel
theorem dX4_hasStatus_5 : decode cX4_hasStatus 5 = .ok (.iaload, 1) := by decide +kernel
theorem dX4_hasStatus_6 : decode cX4_hasStatus 6 = .ok (.iload_n 1, 1) := by decide +kernel
theorem dX4_hasStatus_7 : decode cX4_hasStatus 7 = .ok (.ishr, 1) := by decide +kernel
theorem dX4_hasStatus_8 : decode cX4_hasStatus 8 = .ok (.iconst 1, 1) := by decide +kernel
theorem dX4_hasStatus_9 : decode cX4_hasStatus 9 = .ok (.iand, 1) := by decide +kernel
theorem dX4_hasStatus_10 : decode cX4_hasStatus 10 = .ok (.iconst 1, 1) := by decide +kernel
theorem dX4_hasStatus_11 : decode cX4_hasStatus 11 = .ok (.if_icmp .ne 7, 3) := by decide +kernel
theorem dX4_hasStatus_14 : decode cX4_hasStatus 14 = .ok (.iconst 1, 1) := by decide +kernel
theorem dX4_hasStatus_15 : decode cX4_hasStatus 15 = .ok (.goto 4, 3) := by decide +kernel
theorem dX4_hasStatus_18 : decode cX4_hasStatus 18 = .ok (.iconst 0, 1) := by decide +kernel
theorem dX4_hasStatus_19 : decode cX4_hasStatus 19 = .ok (.ireturn, 1) := by decide +kernel
theorem dX4_isTimeUp_0 : decode cX4_isTimeUp 0 = .ok (.aload_n 0, 1) := by decide +kernel
theorem dX4_isTimeUp_1 : decode cX4_isTimeUp 1 = .ok (.getfield 21, 3) := by decide +kernel
theorem dX4_isTimeUp_4 : decode cX4_isTimeUp 4 = .ok (.bipush 6, 2) := by decide +kernel
theorem dX4_isTimeUp_6 : decode cX4_isTimeUp 6 = .ok (.iaload, 1) := by decide +kernel
theorem dX4_isTimeUp_7 : decode cX4_isTimeUp 7 = .ok (.ifCond .eq 25, 3) := by decide +kernel
theorem dX4_isTimeUp_10 : decode cX4_isTimeUp 10 = .ok (.aload_n 0, 1) := by decide +kernel
theorem dX4_isTimeUp_11 : decode cX4_isTimeUp 11 = .ok (.getfield 21, 3) := by decide +kernel
theorem dX4_isTimeUp_14 : decode cX4_isTimeUp 14 = .ok (.bipush 8, 2) := by decide +kernel
theorem dX4_isTimeUp_16 : decode cX4_isTimeUp 16 = .ok (.iaload, 1) := by decide +kernel
theorem dX4_isTimeUp_17 : decode cX4_isTimeUp 17 = .ok (.aload_n 0, 1) := by decide +kernel
theorem dX4_isTimeUp_18 : decode cX4_isTimeUp 18 = .ok (.getfield 21, 3) := by decide +kernel
theorem dX4_isTimeUp_21 : decode cX4_isTimeUp 21 = .ok (.bipush 6, 2) := by decide +kernel
theorem dX4_isTimeUp_23 : decode cX4_isTimeUp 23 = .ok (.iaload, 1) := by decide +kernel
theorem dX4_isTimeUp_24 : decode cX4_isTimeUp 24 = .ok (.isub, 1) := by decide +kernel
theorem dX4_isTimeUp_25 : decode cX4_isTimeUp 25 = .ok (.ifCond .lt 7, 3) := by decide +kernel
theorem dX4_isTimeUp_28 : decode cX4_isTimeUp 28 = .ok (.iconst 1, 1) := by decide +kernel
theorem dX4_isTimeUp_29 : decode cX4_isTimeUp 29 = .ok (.goto 4, 3) := by decide +kernel
theorem dX4_isTimeUp_32 : decode cX4_isTimeUp 32 = .ok (.iconst 0, 1) := by decide +kernel
theorem dX4_isTimeUp_33 : decode cX4_isTimeUp 33 = .ok (.ireturn, 1) := by decide +kernel
theorem dX4_step_0 : decode cX4_step 0 = .ok (.aload_n 0, 1) := by decide +kernel
theorem dX4_step_1 : decode cX4_step 1 = .ok (.iconst 0, 1) := by decide +kernel
theorem dX4_step_2 : decode cX4_step 2 = .ok (.putfield 76, 3) := by decide +kernel
theorem dX4_step_5 : decode cX4_step 5 = .ok (.aload_n 0, 1) := by decide +kernel
theorem dX4_step_6 : decode cX4_step 6 = .ok (.iconst 0, 1) := by decide +kernel
theorem dX4_step_7 : decode cX4_step 7 = .ok (.invokevirtual 79, 3) := by decide +kernel
theorem dX4_step_10 : decode cX4_step 10 = .ok (.ifCond .eq 29, 3) := by decide +kernel
theorem dX4_step_13 : decode cX4_step 13 = .ok (.aload_n 0, 1) := by decide +kernel
theorem dX4_step_14 : decode cX4_step 14 = .ok (.bipush 8, 2) := by decide +kernel
theorem dX4_step_16 : decode cX4_step 16 = .ok (.invokevirtual 79, 3) := by decide +kernel
theorem dX4_step_19 : decode cX4_step 19 = .ok (.ifCond .eq 20, 3) := by decide +kernel
theorem dX4_step_22 : decode cX4_step 22 = .ok (.aload_n 0, 1) := by decide +kernel
theorem dX4_step_23 : decode cX4_step 23 = .ok (.invokevirtual 83, 3) := by decide +kernel
theorem dX4_step_26 : decode cX4_step 26 = .ok (.ifCond .eq 13, 3) := by decide +kernel
theorem dX4_step_29 : decode cX4_step 29 = .ok (.aload_n 0, 1) := by decide +kernel
theorem dX4_step_30 : decode cX4_step 30 = .ok (.bipush 16, 2) := by decide +kernel
theorem dX4_step_32 : decode cX4_step 32 = .ok (.iconst 0, 1) := by decide +kernel
theorem dX4_step_33 : decode cX4_step 33 = .ok (.invokevirtual 87, 3) := by decide +kernel
theorem dX4_step_36 : decode cX4_step 36 = .ok (.goto 65, 3) := by decide +kernel
theorem dX4_step_39 : decode cX4_step 39 = .ok (.aload_n 0, 1) := by decide +kernel
theorem dX4_step_40 : decode cX4_step 40 = .ok (.iconst 0, 1) := by decide +kernel
theorem dX4_step_41 : decode cX4_step 41 = .ok (.invokevirtual 79, 3) := by decide +kernel
theorem dX4_step_44 : decode cX4_step 44 = .ok (.ifCond .eq 29, 3) := by decide +kernel
theorem dX4_step_47 : decode cX4_step 47 = .ok (.aload_n 0, 1) := by decide +kernel
theorem dX4_step_48 : decode cX4_step 48 = .ok (.bipush 9, 2) := by decide +kernel
theorem dX4_step_50 : decode cX4_step 50 = .ok (.invokevirtual 79, 3) := by decide +kernel
theorem dX4_step_53 : decode cX4_step 53 = .ok (.ifCond .eq 20, 3) := by decide +kernel
theorem dX4_step_56 : decode cX4_step 56 = .ok (.aload_n 0, 1) := by decide +kernel
theorem dX4_step_57 : decode cX4_step 57 = .ok (.getfield 44, 3) := by decide +kernel
theorem dX4_step_60 : decode cX4_step 60 = .ok (.ifCond .le 13, 3) := by decide +kernel
theorem dX4_step_63 : decode cX4_step 63 = .ok (.aload_n 0, 1) := by decide +kernel
theorem dX4_step_64 : decode cX4_step 64 = .ok (.bipush 17, 2) := by decide +kernel
theorem dX4_step_66 : decode cX4_step 66 = .ok (.iconst 0, 1) := by decide +kernel
theorem dX4_step_67 : decode cX4_step 67 = .ok (.invokevirtual 87, 3) := by decide +kernel
theorem dX4_step_70 : decode cX4_step 70 = .ok (.goto 31, 3) := by decide +kernel
theorem dX4_step_73 : decode cX4_step 73 = .ok (.aload_n 0, 1) := by decide +kernel
theorem dX4_step_74 : decode cX4_step 74 = .ok (.aload_n 0, 1) := by decide +kernel
theorem dX4_step_75 : decode cX4_step 75 = .ok (.getfield 60, 3) := by decide +kernel
theorem dX4_step_78 : decode cX4_step 78 = .ok (.bipush 11, 2) := by decide +kernel
theorem dX4_step_80 : decode cX4_step 80 = .ok (.invokevirtual 91, 3) := by decide +kernel
theorem dX4_step_83 : decode cX4_step 83 = .ok (.istore_n 1, 1) := by decide +kernel
theorem dX4_step_84 : decode cX4_step 84 = .ok (.aload_n 0, 1) := by decide +kernel
theorem dX4_step_85 : decode cX4_step 85 = .ok (.getfield 76, 3) := by decide +kernel
theorem dX4_step_88 : decode cX4_step 88 = .ok (.ifCond .ne 13, 3) := by decide +kernel
theorem dX4_step_91 : decode cX4_step 91 = .ok (.aload_n 0, 1) := by decide +kernel
theorem dX4_step_92 : decode cX4_step 92 = .ok (.aload_n 0, 1) := by decide +kernel
theorem dX4_step_93 : decode cX4_step 93 = .ok (.getfield 9, 3) := by decide +kernel
theorem dX4_step_96 : decode cX4_step 96 = .ok (.iload_n 1, 1) := by decide +kernel
theorem dX4_step_97 : decode cX4_step 97 = .ok (.iaload, 1) := by decide +kernel
theorem dX4_step_98 : decode cX4_step 98 = .ok (.invokevirtual 95, 3) := by decide +kernel
theorem dX4_step_101 : decode cX4_step 101 = .ok (.aload_n 0, 1) := by decide +kernel
theorem dX4_step_102 : decode cX4_step 102 = .ok (.getfield 76, 3) := by decide +kernel
theorem dX4_step_105 : decode cX4_step 105 = .ok (.ifCond .ne 4, 3) := by decide +kernel
theorem dX4_step_108 : decode cX4_step 108 = .ok (.return_, 1) := by decide +kernel
theorem dX4_step_109 : decode cX4_step 109 = .ok (.aload_n 0, 1) := by decide +kernel
theorem dX4_step_110 : decode cX4_step 110 = .ok (.getfield 21, 3) := by decide +kernel
theorem dX4_step_113 : decode cX4_step 113 = .ok (.iconst 1, 1) := by decide +kernel
theorem dX4_step_114 : decode cX4_step 114 = .ok (.aload_n 0, 1) := by decide +kernel
theorem dX4_step_115 : decode cX4_step 115 = .ok (.getfield 76, 3) := by decide +kernel
theorem dX4_step_118 : decode cX4_step 118 = .ok (.iastore, 1) := by decide +kernel
theorem dX4_step_119 : decode cX4_step 119 = .ok (.aload_n 0, 1) := by decide +kernel
theorem dX4_step_120 : decode cX4_step 120 = .ok (.getfield 21, 3) := by decide +kernel
theorem dX4_step_123 : decode cX4_step 123 = .ok (.iconst 2, 1) := by decide +kernel
theorem dX4_step_124 : decode cX4_step 124 = .ok (.aload_n 0, 1) := by decide +kernel
theorem dX4_step_125 : decode cX4_step 125 = .ok (.getfield 60, 3) := by decide +kernel
theorem dX4_step_128 : decode cX4_step 128 = .ok (.iastore, 1) := by decide +kernel
theorem dX4_step_129 : decode cX4_step 129 = .ok (.aload_n 0, 1) := by decide +kernel
theorem dX4_step_130 : decode cX4_step 130 = .ok (.getfield 21, 3) := by decide +kernel
theorem dX4_step_133 : decode cX4_step 133 = .ok (.iconst 3, 1) := by decide +kernel
theorem dX4_step_134 : decode cX4_step 134 = .ok (.aload_n 0, 1) := by decide +kernel
theorem dX4_step_135 : decode cX4_step 135 = .ok (.getfield 98, 3) := by decide +kernel
theorem dX4_step_138 : decode cX4_step 138 = .ok (.iastore, 1) := by decide +kernel
theorem dX4_step_139 : decode cX4_step 139 = .ok (.aload_n 0, 1) := by decide +kernel
theorem dX4_step_140 : decode cX4_step 140 = .ok (.getfield 21, 3) := by decide +kernel
theorem dX4_step_143 : decode cX4_step 143 = .ok (.iconst 0, 1) := by decide +kernel
theorem dX4_step_144 : decode cX4_step 144 = .ok (.aload_n 0, 1) := by decide +kernel
theorem dX4_step_145 : decode cX4_step 145 = .ok (.getfield 21, 3) := by decide +kernel
theorem dX4_step_148 : decode cX4_step 148 = .ok (.iconst 0, 1) := by decide +kernel
theorem dX4_step_149 : decode cX4_step 149 = .ok (.iaload, 1) := by decide +kernel
theorem dX4_step_150 : decode cX4_step 150 = .ok (.bipush (-8), 2) := by decide +kernel
theorem dX4_step_152 : decode cX4_step 152 = .ok (.iand, 1) := by decide +kernel
theorem dX4_step_153 : decode cX4_step 153 = .ok (.aload_n 0, 1) := by decide +kernel
theorem dX4_step_154 : decode cX4_step 154 = .ok (.getfield 21, 3) := by decide +kernel
theorem dX4_step_157 : decode cX4_step 157 = .ok (.iconst 0, 1) := by decide +kernel
theorem dX4_step_158 : decode cX4_step 158 = .ok (.iaload, 1) := by decide +kernel
theorem dX4_step_159 : decode cX4_step 159 = .ok (.iconst 1, 1) := by decide +kernel
theorem dX4_step_160 : decode cX4_step 160 = .ok (.iand, 1) := by decide +kernel
theorem dX4_step_161 : decode cX4_step 161 = .ok (.iconst 1, 1) := by decide +kernel
theorem dX4_step_162 : decode cX4_step 162 = .ok (.ishl, 1) := by decide +kernel
theorem dX4_step_163 : decode cX4_step 163 = .ok (.ior, 1) := by decide +kernel
theorem dX4_step_164 : decode cX4_step 164 = .ok (.aload_n 0, 1) := by decide +kernel
theorem dX4_step_165 : decode cX4_step 165 = .ok (.getfield 54, 3) := by decide +kernel
theorem dX4_step_168 : decode cX4_step 168 = .ok (.iconst 2, 1) := by decide +kernel
theorem dX4_step_169 : decode cX4_step 169 = .ok (.ishl, 1) := by decide +kernel
theorem dX4_step_170 : decode cX4_step 170 = .ok (.ior, 1) := by decide +kernel
theorem dX4_step_171 : decode cX4_step 171 = .ok (.iastore, 1) := by decide +kernel
theorem dX4_step_172 : decode cX4_step 172 = .ok (.aload_n 0, 1) := by decide +kernel
theorem dX4_step_173 : decode cX4_step 173 = .ok (.iconst 1, 1) := by decide +kernel
theorem dX4_step_174 : decode cX4_step 174 = .ok (.putfield 54, 3) := by decide +kernel
theorem dX4_step_177 : decode cX4_step 177 = .ok (.aload_n 0, 1) := by decide +kernel
theorem dX4_step_178 : decode cX4_step 178 = .ok (.aload_n 0, 1) := by decide +kernel
theorem dX4_step_179 : decode cX4_step 179 = .ok (.getfield 21, 3) := by decide +kernel
theorem dX4_step_182 : decode cX4_step 182 = .ok (.iconst 4, 1) := by decide +kernel
theorem dX4_step_183 : decode cX4_step 183 = .ok (.iaload, 1) := by decide +kernel
theorem dX4_step_184 : decode cX4_step 184 = .ok (.putfield 60, 3) := by decide +kernel
theorem dX4_step_187 : decode cX4_step 187 = .ok (.aload_n 0, 1) := by decide +kernel
theorem dX4_step_188 : decode cX4_step 188 = .ok (.dup, 1) := by decide +kernel
theorem dX4_step_189 : decode cX4_step 189 = .ok (.getfield 66, 3) := by decide +kernel
theorem dX4_step_192 : decode cX4_step 192 = .ok (.iconst 1, 1) := by decide +kernel
theorem dX4_step_193 : decode cX4_step 193 = .ok (.iadd, 1) := by decide +kernel
theorem dX4_step_194 : decode cX4_step 194 = .ok (.putfield 66, 3) := by decide +kernel
theorem dX4_step_197 : decode cX4_step 197 = .ok (.return_, 1) := by decide +kernel
theorem dX4_fail_0 : decode cX4_fail 0 = .ok (.aload_n 0, 1) := by decide +kernel
theorem dX4_fail_1 : decode cX4_fail 1 = .ok (.iload_n 1, 1) := by decide +kernel
theorem dX4_fail_2 : decode cX4_fail 2 = .ok (.putfield 76, 3) := by decide +kernel
theorem dX4_fail_5 : decode cX4_fail 5 = .ok (.aload_n 0, 1) := by decide +kernel
theorem dX4_fail_6 : decode cX4_fail 6 = .ok (.iload_n 2, 1) := by decide +kernel
theorem dX4_fail_7 : decode cX4_fail 7 = .ok (.putfield 98, 3) := by decide +kernel
theorem dX4_fail_10 : decode cX4_fail 10 = .ok (.return_, 1) := by decide +kernel
theorem dX4_reach_0 : decode cX4_reach 0 = .ok (.aload_n 0, 1) := by decide +kernel
theorem dX4_reach_1 : decode cX4_reach 1 = .ok (.getfield 21, 3) := by decide +kernel
theorem dX4_reach_4 : decode cX4_reach 4 = .ok (.iconst 5, 1) := by decide +kernel
theorem dX4_reach_5 : decode cX4_reach 5 = .ok (.iaload, 1) := by decide +kernel
theorem dX4_reach_6 : decode cX4_reach 6 = .ok (.ifCond .lt 21, 3) := by decide +kernel
theorem dX4_reach_9 : decode cX4_reach 9 = .ok (.aload_n 0, 1) := by decide +kernel
theorem dX4_reach_10 : decode cX4_reach 10 = .ok (.iload_n 1, 1) := by decide +kernel
theorem dX4_reach_11 : decode cX4_reach 11 = .ok (.invokevirtual 101, 3) := by decide +kernel
theorem dX4_reach_14 : decode cX4_reach 14 = .ok (.ifCond .eq 5, 3) := by decide +kernel
theorem dX4_reach_17 : decode cX4_reach 17 = .ok (.iload_n 1, 1) := by decide +kernel
theorem dX4_reach_18 : decode cX4_reach 18 = .ok (.ireturn, 1) := by decide +kernel
theorem dX4_reach_19 : decode cX4_reach 19 = .ok (.aload_n 0, 1) := by decide +kernel
theorem dX4_reach_20 : decode cX4_reach 20 = .ok (.iconst 5, 1) := by decide +kernel
theorem dX4_reach_21 : decode cX4_reach 21 = .ok (.iload_n 1, 1) := by decide +kernel
theorem dX4_reach_22 : decode cX4_reach 22 = .ok (.invokevirtual 87, 3) := by decide +kernel
theorem dX4_reach_25 : decode cX4_reach 25 = .ok (.iconst 0, 1) := by decide +kernel
theorem dX4_reach_26 : decode cX4_reach 26 = .ok (.ireturn, 1) := by decide +kernel
theorem dX4_reach_27 : decode cX4_reach 27 = .ok (.iload_n 1, 1) := by decide +kernel
theorem dX4_reach_28 : decode cX4_reach 28 = .ok (.sipush 16384, 3) := by decide +kernel
theorem dX4_reach_31 : decode cX4_reach 31 = .ok (.invokestatic 72, 3) := by decide +kernel
theorem dX4_reach_34 : decode cX4_reach 34 = .ok (.ifCond .ne 11, 3) := by decide +kernel
theorem dX4_reach_37 : decode cX4_reach 37 = .ok (.aload_n 0, 1) := by decide +kernel
theorem dX4_reach_38 : decode cX4_reach 38 = .ok (.iload_n 2, 1) := by decide +kernel
theorem dX4_reach_39 : decode cX4_reach 39 = .ok (.iload_n 1, 1) := by decide +kernel
theorem dX4_reach_40 : decode cX4_reach 40 = .ok (.invokevirtual 87, 3) := by decide +kernel
theorem dX4_reach_43 : decode cX4_reach 43 = .ok (.iconst 0, 1) := by decide +kernel
theorem dX4_reach_44 : decode cX4_reach 44 = .ok (.ireturn, 1) := by decide +kernel
theorem dX4_reach_45 : decode cX4_reach 45 = .ok (.iload_n 1, 1) := by decide +kernel
theorem dX4_reach_46 : decode cX4_reach 46 = .ok (.bipush 64, 2) := by decide +kernel
theorem dX4_reach_48 : decode cX4_reach 48 = .ok (.idiv, 1) := by decide +kernel
theorem dX4_reach_49 : decode cX4_reach 49 = .ok (.istore_n 3, 1) := by decide +kernel
theorem dX4_reach_50 : decode cX4_reach 50 = .ok (.aload_n 0, 1) := by decide +kernel
theorem dX4_reach_51 : decode cX4_reach 51 = .ok (.getfield 24, 3) := by decide +kernel
theorem dX4_reach_54 : decode cX4_reach 54 = .ok (.iload_n 3, 1) := by decide +kernel
theorem dX4_reach_55 : decode cX4_reach 55 = .ok (.iaload, 1) := by decide +kernel
theorem dX4_reach_56 : decode cX4_reach 56 = .ok (.ifCond .ge 10, 3) := by decide +kernel
theorem dX4_reach_59 : decode cX4_reach 59 = .ok (.aload_n 0, 1) := by decide +kernel
theorem dX4_reach_60 : decode cX4_reach 60 = .ok (.iload_n 3, 1) := by decide +kernel
theorem dX4_reach_61 : decode cX4_reach 61 = .ok (.iload_n 1, 1) := by decide +kernel
theorem dX4_reach_62 : decode cX4_reach 62 = .ok (.iload_n 2, 1) := by decide +kernel
theorem dX4_reach_63 : decode cX4_reach 63 = .ok (.invokevirtual 104, 3) := by decide +kernel
theorem dX4_reach_66 : decode cX4_reach 66 = .ok (.aload_n 0, 1) := by decide +kernel
theorem dX4_reach_67 : decode cX4_reach 67 = .ok (.getfield 76, 3) := by decide +kernel
theorem dX4_reach_70 : decode cX4_reach 70 = .ok (.ifCond .le 5, 3) := by decide +kernel
theorem dX4_reach_73 : decode cX4_reach 73 = .ok (.iconst 0, 1) := by decide +kernel
theorem dX4_reach_74 : decode cX4_reach 74 = .ok (.ireturn, 1) := by decide +kernel
theorem dX4_reach_75 : decode cX4_reach 75 = .ok (.aload_n 0, 1) := by decide +kernel
theorem dX4_reach_76 : decode cX4_reach 76 = .ok (.getfield 54, 3) := by decide +kernel
theorem dX4_reach_79 : decode cX4_reach 79 = .ok (.ifCond .ne 14, 3) := by decide +kernel
theorem dX4_reach_82 : decode cX4_reach 82 = .ok (.aload_n 0, 1) := by decide +kernel
theorem dX4_reach_83 : decode cX4_reach 83 = .ok (.getfield 27, 3) := by decide +kernel
theorem dX4_reach_86 : decode cX4_reach 86 = .ok (.iload_n 3, 1) := by decide +kernel
theorem dX4_reach_87 : decode cX4_reach 87 = .ok (.iaload, 1) := by decide +kernel
theorem dX4_reach_88 : decode cX4_reach 88 = .ok (.iconst 2, 1) := by decide +kernel
theorem dX4_reach_89 : decode cX4_reach 89 = .ok (.iand, 1) := by decide +kernel
theorem dX4_reach_90 : decode cX4_reach 90 = .ok (.ifCond .eq 20, 3) := by decide +kernel
theorem dX4_reach_93 : decode cX4_reach 93 = .ok (.iload_n 2, 1) := by decide +kernel
theorem dX4_reach_94 : decode cX4_reach 94 = .ok (.bipush 13, 2) := by decide +kernel
theorem dX4_reach_96 : decode cX4_reach 96 = .ok (.if_icmp .ne 22, 3) := by decide +kernel
theorem dX4_reach_99 : decode cX4_reach 99 = .ok (.aload_n 0, 1) := by decide +kernel
theorem dX4_reach_100 : decode cX4_reach 100 = .ok (.getfield 27, 3) := by decide +kernel
theorem dX4_reach_103 : decode cX4_reach 103 = .ok (.iload_n 3, 1) := by decide +kernel
theorem dX4_reach_104 : decode cX4_reach 104 = .ok (.iaload, 1) := by decide +kernel
theorem dX4_reach_105 : decode cX4_reach 105 = .ok (.iconst 1, 1) := by decide +kernel
theorem dX4_reach_106 : decode cX4_reach 106 = .ok (.iand, 1) := by decide +kernel
theorem dX4_reach_107 : decode cX4_reach 107 = .ok (.ifCond .ne 11, 3) := by decide +kernel
theorem dX4_reach_110 : decode cX4_reach 110 = .ok (.aload_n 0, 1) := by decide +kernel
theorem dX4_reach_111 : decode cX4_reach 111 = .ok (.iload_n 2, 1) := by decide +kernel
theorem dX4_reach_112 : decode cX4_reach 112 = .ok (.iload_n 1, 1) := by decide +kernel
theorem dX4_reach_113 : decode cX4_reach 113 = .ok (.invokevirtual 87, 3) := by decide +kernel
theorem dX4_reach_116 : decode cX4_reach 116 = .ok (.iconst 0, 1) := by decide +kernel
theorem dX4_reach_117 : decode cX4_reach 117 = .ok (.ireturn, 1) := by decide +kernel
theorem dX4_reach_118 : decode cX4_reach 118 = .ok (.iload_n 2, 1) := by decide +kernel
theorem dX4_reach_119 : decode cX4_reach 119 = .ok (.bipush 13, 2) := by decide +kernel
theorem dX4_reach_121 : decode cX4_reach 121 = .ok (.if_icmp .ne 39, 3) := by decide +kernel
theorem dX4_reach_124 : decode cX4_reach 124 = .ok (.aload_n 0, 1) := by decide +kernel
theorem dX4_reach_125 : decode cX4_reach 125 = .ok (.getfield 27, 3) := by decide +kernel
theorem dX4_reach_128 : decode cX4_reach 128 = .ok (.iload_n 3, 1) := by decide +kernel
theorem dX4_reach_129 : decode cX4_reach 129 = .ok (.iaload, 1) := by decide +kernel
theorem dX4_reach_130 : decode cX4_reach 130 = .ok (.iconst 4, 1) := by decide +kernel
theorem dX4_reach_131 : decode cX4_reach 131 = .ok (.iand, 1) := by decide +kernel
theorem dX4_reach_132 : decode cX4_reach 132 = .ok (.ifCond .ne 28, 3) := by decide +kernel
theorem dX4_reach_135 : decode cX4_reach 135 = .ok (.aload_n 0, 1) := by decide +kernel
theorem dX4_reach_136 : decode cX4_reach 136 = .ok (.getfield 9, 3) := by decide +kernel
theorem dX4_reach_139 : decode cX4_reach 139 = .ok (.aload_n 0, 1) := by decide +kernel
theorem dX4_reach_140 : decode cX4_reach 140 = .ok (.iload_n 3, 1) := by decide +kernel
theorem dX4_reach_141 : decode cX4_reach 141 = .ok (.invokevirtual 108, 3) := by decide +kernel
theorem dX4_reach_144 : decode cX4_reach 144 = .ok (.dup2, 1) := by decide +kernel
theorem dX4_reach_145 : decode cX4_reach 145 = .ok (.iaload, 1) := by decide +kernel
theorem dX4_reach_146 : decode cX4_reach 146 = .ok (.bipush 16, 2) := by decide +kernel
theorem dX4_reach_148 : decode cX4_reach 148 = .ok (.ior, 1) := by decide +kernel
theorem dX4_reach_149 : decode cX4_reach 149 = .ok (.iastore, 1) := by decide +kernel
theorem dX4_reach_150 : decode cX4_reach 150 = .ok (.aload_n 0, 1) := by decide +kernel
theorem dX4_reach_151 : decode cX4_reach 151 = .ok (.getfield 27, 3) := by decide +kernel
theorem dX4_reach_154 : decode cX4_reach 154 = .ok (.iload_n 3, 1) := by decide +kernel
theorem dX4_reach_155 : decode cX4_reach 155 = .ok (.dup2, 1) := by decide +kernel
theorem dX4_reach_156 : decode cX4_reach 156 = .ok (.iaload, 1) := by decide +kernel
theorem dX4_reach_157 : decode cX4_reach 157 = .ok (.iconst 4, 1) := by decide +kernel
theorem dX4_reach_158 : decode cX4_reach 158 = .ok (.ior, 1) := by decide +kernel
theorem dX4_reach_159 : decode cX4_reach 159 = .ok (.iastore, 1) := by decide +kernel
theorem dX4_reach_160 : decode cX4_reach 160 = .ok (.bipush 64, 2) := by decide +kernel
theorem dX4_reach_162 : decode cX4_reach 162 = .ok (.aload_n 0, 1) := by decide +kernel
theorem dX4_reach_163 : decode cX4_reach 163 = .ok (.getfield 24, 3) := by decide +kernel
theorem dX4_reach_166 : decode cX4_reach 166 = .ok (.iload_n 3, 1) := by decide +kernel
theorem dX4_reach_167 : decode cX4_reach 167 = .ok (.iaload, 1) := by decide +kernel
theorem dX4_reach_168 : decode cX4_reach 168 = .ok (.imul, 1) := by decide +kernel
theorem dX4_reach_169 : decode cX4_reach 169 = .ok (.iload_n 1, 1) := by decide +kernel
theorem dX4_reach_170 : decode cX4_reach 170 = .ok (.bipush 63, 2) := by decide +kernel
theorem dX4_reach_172 : decode cX4_reach 172 = .ok (.iand, 1) := by decide +kernel
theorem dX4_reach_173 : decode cX4_reach 173 = .ok (.iadd, 1) := by decide +kernel
theorem dX4_reach_174 : decode cX4_reach 174 = .ok (.ireturn, 1) := by decide +kernel
theorem dX4_tableWord_0 : decode cX4_tableWord 0 = .ok (.bipush 64, 2) := by decide +kernel
theorem dX4_tableWord_2 : decode cX4_tableWord 2 = .ok (.aload_n 0, 1) := by decide +kernel
theorem dX4_tableWord_3 : decode cX4_tableWord 3 = .ok (.getfield 21, 3) := by decide +kernel
theorem dX4_tableWord_6 : decode cX4_tableWord 6 = .ok (.iconst 5, 1) := by decide +kernel
theorem dX4_tableWord_7 : decode cX4_tableWord 7 = .ok (.iaload, 1) := by decide +kernel
theorem dX4_tableWord_8 : decode cX4_tableWord 8 = .ok (.bipush 63, 2) := by decide +kernel
theorem dX4_tableWord_10 : decode cX4_tableWord 10 = .ok (.iand, 1) := by decide +kernel
theorem dX4_tableWord_11 : decode cX4_tableWord 11 = .ok (.imul, 1) := by decide +kernel
theorem dX4_tableWord_12 : decode cX4_tableWord 12 = .ok (.iload_n 1, 1) := by decide +kernel
theorem dX4_tableWord_13 : decode cX4_tableWord 13 = .ok (.iadd, 1) := by decide +kernel
theorem dX4_tableWord_14 : decode cX4_tableWord 14 = .ok (.ireturn, 1) := by decide +kernel
theorem dX4_fill_0 : decode cX4_fill 0 = .ok (.aload_n 0, 1) := by decide +kernel
theorem dX4_fill_1 : decode cX4_fill 1 = .ok (.iload_n 1, 1) := by decide +kernel
theorem dX4_fill_2 : decode cX4_fill 2 = .ok (.invokevirtual 108, 3) := by decide +kernel
theorem dX4_fill_5 : decode cX4_fill 5 = .ok (.istore 4, 2) := by decide +kernel
theorem dX4_fill_7 : decode cX4_fill 7 = .ok (.aload_n 0, 1) := by decide +kernel
theorem dX4_fill_8 : decode cX4_fill 8 = .ok (.iload 4, 2) := by decide +kernel
theorem dX4_fill_10 : decode cX4_fill 10 = .ok (.invokevirtual 101, 3) := by decide +kernel
theorem dX4_fill_13 : decode cX4_fill 13 = .ok (.ifCond .ne 10, 3) := by decide +kernel
theorem dX4_fill_16 : decode cX4_fill 16 = .ok (.aload_n 0, 1) := by decide +kernel
theorem dX4_fill_17 : decode cX4_fill 17 = .ok (.iconst 5, 1) := by decide +kernel
theorem dX4_fill_18 : decode cX4_fill 18 = .ok (.iload_n 2, 1) := by decide +kernel
theorem dX4_fill_19 : decode cX4_fill 19 = .ok (.invokevirtual 87, 3) := by decide +kernel
theorem dX4_fill_22 : decode cX4_fill 22 = .ok (.return_, 1) := by decide +kernel
theorem dX4_fill_23 : decode cX4_fill 23 = .ok (.aload_n 0, 1) := by decide +kernel
theorem dX4_fill_24 : decode cX4_fill 24 = .ok (.getfield 9, 3) := by decide +kernel
theorem dX4_fill_27 : decode cX4_fill 27 = .ok (.iload 4, 2) := by decide +kernel
theorem dX4_fill_29 : decode cX4_fill 29 = .ok (.iaload, 1) := by decide +kernel
theorem dX4_fill_30 : decode cX4_fill 30 = .ok (.istore 5, 2) := by decide +kernel
theorem dX4_fill_32 : decode cX4_fill 32 = .ok (.iload 5, 2) := by decide +kernel
theorem dX4_fill_34 : decode cX4_fill 34 = .ok (.bipush 8, 2) := by decide +kernel
theorem dX4_fill_36 : decode cX4_fill 36 = .ok (.ishr, 1) := by decide +kernel
theorem dX4_fill_37 : decode cX4_fill 37 = .ok (.bipush 63, 2) := by decide +kernel
theorem dX4_fill_39 : decode cX4_fill 39 = .ok (.iand, 1) := by decide +kernel
theorem dX4_fill_40 : decode cX4_fill 40 = .ok (.istore 6, 2) := by decide +kernel
theorem dX4_fill_42 : decode cX4_fill 42 = .ok (.iload 5, 2) := by decide +kernel
theorem dX4_fill_44 : decode cX4_fill 44 = .ok (.iconst 1, 1) := by decide +kernel
theorem dX4_fill_45 : decode cX4_fill 45 = .ok (.iand, 1) := by decide +kernel
theorem dX4_fill_46 : decode cX4_fill 46 = .ok (.ifCond .eq 12, 3) := by decide +kernel
theorem dX4_fill_49 : decode cX4_fill 49 = .ok (.iload 6, 2) := by decide +kernel
theorem dX4_fill_51 : decode cX4_fill 51 = .ok (.aload_n 0, 1) := by decide +kernel
theorem dX4_fill_52 : decode cX4_fill 52 = .ok (.getfield 36, 3) := by decide +kernel
theorem dX4_fill_55 : decode cX4_fill 55 = .ok (.if_icmp .lt 10, 3) := by decide +kernel
theorem dX4_fill_58 : decode cX4_fill 58 = .ok (.aload_n 0, 1) := by decide +kernel
theorem dX4_fill_59 : decode cX4_fill 59 = .ok (.iload_n 3, 1) := by decide +kernel
theorem dX4_fill_60 : decode cX4_fill 60 = .ok (.iload_n 2, 1) := by decide +kernel
theorem dX4_fill_61 : decode cX4_fill 61 = .ok (.invokevirtual 87, 3) := by decide +kernel
theorem dX4_fill_64 : decode cX4_fill 64 = .ok (.return_, 1) := by decide +kernel
theorem dX4_fill_65 : decode cX4_fill 65 = .ok (.aload_n 0, 1) := by decide +kernel
theorem dX4_fill_66 : decode cX4_fill 66 = .ok (.getfield 9, 3) := by decide +kernel
theorem dX4_fill_69 : decode cX4_fill 69 = .ok (.iload 4, 2) := by decide +kernel
theorem dX4_fill_71 : decode cX4_fill 71 = .ok (.iload 5, 2) := by decide +kernel
theorem dX4_fill_73 : decode cX4_fill 73 = .ok (.bipush 8, 2) := by decide +kernel
theorem dX4_fill_75 : decode cX4_fill 75 = .ok (.ior, 1) := by decide +kernel
theorem dX4_fill_76 : decode cX4_fill 76 = .ok (.iastore, 1) := by decide +kernel
theorem dX4_fill_77 : decode cX4_fill 77 = .ok (.aload_n 0, 1) := by decide +kernel
theorem dX4_fill_78 : decode cX4_fill 78 = .ok (.getfield 24, 3) := by decide +kernel
theorem dX4_fill_81 : decode cX4_fill 81 = .ok (.iload_n 1, 1) := by decide +kernel
theorem dX4_fill_82 : decode cX4_fill 82 = .ok (.iload 6, 2) := by decide +kernel
theorem dX4_fill_84 : decode cX4_fill 84 = .ok (.iastore, 1) := by decide +kernel
theorem dX4_fill_85 : decode cX4_fill 85 = .ok (.aload_n 0, 1) := by decide +kernel
theorem dX4_fill_86 : decode cX4_fill 86 = .ok (.getfield 27, 3) := by decide +kernel
theorem dX4_fill_89 : decode cX4_fill 89 = .ok (.iload_n 1, 1) := by decide +kernel
theorem dX4_fill_90 : decode cX4_fill 90 = .ok (.iload 5, 2) := by decide +kernel
theorem dX4_fill_92 : decode cX4_fill 92 = .ok (.iconst 1, 1) := by decide +kernel
theorem dX4_fill_93 : decode cX4_fill 93 = .ok (.ishr, 1) := by decide +kernel
theorem dX4_fill_94 : decode cX4_fill 94 = .ok (.iconst 3, 1) := by decide +kernel
theorem dX4_fill_95 : decode cX4_fill 95 = .ok (.iand, 1) := by decide +kernel
theorem dX4_fill_96 : decode cX4_fill 96 = .ok (.iload 5, 2) := by decide +kernel
theorem dX4_fill_98 : decode cX4_fill 98 = .ok (.iconst 2, 1) := by decide +kernel
theorem dX4_fill_99 : decode cX4_fill 99 = .ok (.ishr, 1) := by decide +kernel
theorem dX4_fill_100 : decode cX4_fill 100 = .ok (.iconst 4, 1) := by decide +kernel
theorem dX4_fill_101 : decode cX4_fill 101 = .ok (.iand, 1) := by decide +kernel
theorem dX4_fill_102 : decode cX4_fill 102 = .ok (.ior, 1) := by decide +kernel
theorem dX4_fill_103 : decode cX4_fill 103 = .ok (.iastore, 1) := by decide +kernel
theorem dX4_fill_104 : decode cX4_fill 104 = .ok (.return_, 1) := by decide +kernel
theorem dX4_work_0 : decode cX4_work 0 = .ok (.iload_n 1, 1) := by decide +kernel
theorem dX4_work_1 : decode cX4_work 1 = .ok (.bipush 26, 2) := by decide +kernel
theorem dX4_work_3 : decode cX4_work 3 = .ok (.iushr, 1) := by decide +kernel
theorem dX4_work_4 : decode cX4_work 4 = .ok (.istore_n 2, 1) := by decide +kernel
theorem dX4_work_5 : decode cX4_work 5 = .ok (.iload_n 1, 1) := by decide +kernel
theorem dX4_work_6 : decode cX4_work 6 = .ok (.bipush 23, 2) := by decide +kernel
theorem dX4_work_8 : decode cX4_work 8 = .ok (.ishr, 1) := by decide +kernel
theorem dX4_work_9 : decode cX4_work 9 = .ok (.bipush 7, 2) := by decide +kernel
theorem dX4_work_11 : decode cX4_work 11 = .ok (.iand, 1) := by decide +kernel
theorem dX4_work_12 : decode cX4_work 12 = .ok (.istore_n 3, 1) := by decide +kernel
theorem dX4_work_13 : decode cX4_work 13 = .ok (.aload_n 0, 1) := by decide +kernel
theorem dX4_work_14 : decode cX4_work 14 = .ok (.getfield 18, 3) := by decide +kernel
theorem dX4_work_17 : decode cX4_work 17 = .ok (.iload_n 1, 1) := by decide +kernel
theorem dX4_work_18 : decode cX4_work 18 = .ok (.bipush 20, 2) := by decide +kernel
theorem dX4_work_20 : decode cX4_work 20 = .ok (.ishr, 1) := by decide +kernel
theorem dX4_work_21 : decode cX4_work 21 = .ok (.bipush 7, 2) := by decide +kernel
theorem dX4_work_23 : decode cX4_work 23 = .ok (.iand, 1) := by decide +kernel
theorem dX4_work_24 : decode cX4_work 24 = .ok (.iaload, 1) := by decide +kernel
theorem dX4_work_25 : decode cX4_work 25 = .ok (.istore 4, 2) := by decide +kernel
theorem dX4_work_27 : decode cX4_work 27 = .ok (.aload_n 0, 1) := by decide +kernel
theorem dX4_work_28 : decode cX4_work 28 = .ok (.getfield 18, 3) := by decide +kernel
theorem dX4_work_31 : decode cX4_work 31 = .ok (.iload_n 1, 1) := by decide +kernel
theorem dX4_work_32 : decode cX4_work 32 = .ok (.bipush 17, 2) := by decide +kernel
theorem dX4_work_34 : decode cX4_work 34 = .ok (.ishr, 1) := by decide +kernel
theorem dX4_work_35 : decode cX4_work 35 = .ok (.bipush 7, 2) := by decide +kernel
theorem dX4_work_37 : decode cX4_work 37 = .ok (.iand, 1) := by decide +kernel
theorem dX4_work_38 : decode cX4_work 38 = .ok (.iaload, 1) := by decide +kernel
theorem dX4_work_39 : decode cX4_work 39 = .ok (.istore 5, 2) := by decide +kernel
theorem dX4_work_41 : decode cX4_work 41 = .ok (.iload_n 1, 1) := by decide +kernel
theorem dX4_work_42 : decode cX4_work 42 = .ok (.bipush 15, 2) := by decide +kernel
theorem dX4_work_44 : decode cX4_work 44 = .ok (.ishl, 1) := by decide +kernel
theorem dX4_work_45 : decode cX4_work 45 = .ok (.bipush 15, 2) := by decide +kernel
theorem dX4_work_47 : decode cX4_work 47 = .ok (.ishr, 1) := by decide +kernel
theorem dX4_work_48 : decode cX4_work 48 = .ok (.istore 6, 2) := by decide +kernel
theorem dX4_work_50 : decode cX4_work 50 = .ok (.aload_n 0, 1) := by decide +kernel
theorem dX4_work_51 : decode cX4_work 51 = .ok (.getfield 60, 3) := by decide +kernel
theorem dX4_work_54 : decode cX4_work 54 = .ok (.iconst 1, 1) := by decide +kernel
theorem dX4_work_55 : decode cX4_work 55 = .ok (.iadd, 1) := by decide +kernel
theorem dX4_work_56 : decode cX4_work 56 = .ok (.istore 7, 2) := by decide +kernel
theorem dX4_work_58 : decode cX4_work 58 = .ok (.aload_n 0, 1) := by decide +kernel
theorem dX4_work_59 : decode cX4_work 59 = .ok (.getfield 54, 3) := by decide +kernel
theorem dX4_work_62 : decode cX4_work 62 = .ok (.ifCond .ne 37, 3) := by decide +kernel
theorem dX4_work_65 : decode cX4_work 65 = .ok (.iload_n 2, 1) := by decide +kernel
theorem dX4_work_66 : decode cX4_work 66 = .ok (.bipush 20, 2) := by decide +kernel
theorem dX4_work_68 : decode cX4_work 68 = .ok (.if_icmp .le 9, 3) := by decide +kernel
theorem dX4_work_71 : decode cX4_work 71 = .ok (.iload_n 2, 1) := by decide +kernel
theorem dX4_work_72 : decode cX4_work 72 = .ok (.bipush 30, 2) := by decide +kernel
theorem dX4_work_74 : decode cX4_work 74 = .ok (.if_icmp .lt 18, 3) := by decide +kernel
theorem dX4_work_77 : decode cX4_work 77 = .ok (.iload_n 2, 1) := by decide +kernel
theorem dX4_work_78 : decode cX4_work 78 = .ok (.bipush 20, 2) := by decide +kernel
theorem dX4_work_80 : decode cX4_work 80 = .ok (.if_icmp .ne 19, 3) := by decide +kernel
theorem dX4_work_83 : decode cX4_work 83 = .ok (.aload_n 0, 1) := by decide +kernel
theorem dX4_work_84 : decode cX4_work 84 = .ok (.bipush 10, 2) := by decide +kernel
theorem dX4_work_86 : decode cX4_work 86 = .ok (.invokevirtual 79, 3) := by decide +kernel
theorem dX4_work_89 : decode cX4_work 89 = .ok (.ifCond .ne 10, 3) := by decide +kernel
theorem dX4_work_92 : decode cX4_work 92 = .ok (.aload_n 0, 1) := by decide +kernel
theorem dX4_work_93 : decode cX4_work 93 = .ok (.iconst 3, 1) := by decide +kernel
theorem dX4_work_94 : decode cX4_work 94 = .ok (.iload_n 1, 1) := by decide +kernel
theorem dX4_work_95 : decode cX4_work 95 = .ok (.invokevirtual 87, 3) := by decide +kernel
theorem dX4_work_98 : decode cX4_work 98 = .ok (.return_, 1) := by decide +kernel
theorem dX4_work_99 : decode cX4_work 99 = .ok (.iload_n 2, 1) := by decide +kernel
theorem dX4_work_100 : decode cX4_work 100 = .ok (.bipush 29, 2) := by decide +kernel
theorem dX4_work_102 : decode cX4_work 102 = .ok (.if_icmp .gt 39, 3) := by decide +kernel
theorem dX4_work_105 : decode cX4_work 105 = .ok (.iload_n 2, 1) := by decide +kernel
theorem dX4_work_106 : decode cX4_work 106 = .ok (.bipush 21, 2) := by decide +kernel
theorem dX4_work_108 : decode cX4_work 108 = .ok (.if_icmp .ne 15, 3) := by decide +kernel
theorem dX4_work_111 : decode cX4_work 111 = .ok (.iload 6, 2) := by decide +kernel
theorem dX4_work_113 : decode cX4_work 113 = .ok (.ifCond .lt 28, 3) := by decide +kernel
theorem dX4_work_116 : decode cX4_work 116 = .ok (.iload 6, 2) := by decide +kernel
theorem dX4_work_118 : decode cX4_work 118 = .ok (.bipush 9, 2) := by decide +kernel
theorem dX4_work_120 : decode cX4_work 120 = .ok (.if_icmp .gt 21, 3) := by decide +kernel
theorem dX4_work_123 : decode cX4_work 123 = .ok (.iload_n 2, 1) := by decide +kernel
theorem dX4_work_124 : decode cX4_work 124 = .ok (.bipush 22, 2) := by decide +kernel
theorem dX4_work_126 : decode cX4_work 126 = .ok (.if_icmp .ne 22, 3) := by decide +kernel
theorem dX4_work_129 : decode cX4_work 129 = .ok (.iload 6, 2) := by decide +kernel
theorem dX4_work_131 : decode cX4_work 131 = .ok (.ifCond .lt 10, 3) := by decide +kernel
theorem dX4_work_134 : decode cX4_work 134 = .ok (.iload 6, 2) := by decide +kernel
theorem dX4_work_136 : decode cX4_work 136 = .ok (.bipush 8, 2) := by decide +kernel
theorem dX4_work_138 : decode cX4_work 138 = .ok (.if_icmp .le 10, 3) := by decide +kernel
theorem dX4_work_141 : decode cX4_work 141 = .ok (.aload_n 0, 1) := by decide +kernel
theorem dX4_work_142 : decode cX4_work 142 = .ok (.iconst 2, 1) := by decide +kernel
theorem dX4_work_143 : decode cX4_work 143 = .ok (.iload_n 1, 1) := by decide +kernel
theorem dX4_work_144 : decode cX4_work 144 = .ok (.invokevirtual 87, 3) := by decide +kernel
theorem dX4_work_147 : decode cX4_work 147 = .ok (.return_, 1) := by decide +kernel
theorem dX4_work_148 : decode cX4_work 148 = .ok (.iload_n 2, 1) := by decide +kernel
theorem dX4_work_149 : decode cX4_work 149 = .ok (.bipush 11, 2) := by decide +kernel
theorem dX4_work_151 : decode cX4_work 151 = .ok (.if_icmp .ge 22, 3) := by decide +kernel
theorem dX4_work_154 : decode cX4_work 154 = .ok (.aload_n 0, 1) := by decide +kernel
theorem dX4_work_155 : decode cX4_work 155 = .ok (.getfield 18, 3) := by decide +kernel
theorem dX4_work_158 : decode cX4_work 158 = .ok (.iload_n 3, 1) := by decide +kernel
theorem dX4_work_159 : decode cX4_work 159 = .ok (.iload_n 2, 1) := by decide +kernel
theorem dX4_work_160 : decode cX4_work 160 = .ok (.iload 4, 2) := by decide +kernel
theorem dX4_work_162 : decode cX4_work 162 = .ok (.iload 5, 2) := by decide +kernel
theorem dX4_work_164 : decode cX4_work 164 = .ok (.iload 6, 2) := by decide +kernel
theorem dX4_work_166 : decode cX4_work 166 = .ok (.invokestatic 112, 3) := by decide +kernel
theorem dX4_work_169 : decode cX4_work 169 = .ok (.iastore, 1) := by decide +kernel
theorem dX4_work_170 : decode cX4_work 170 = .ok (.goto 161, 3) := by decide +kernel
theorem dX4_work_173 : decode cX4_work 173 = .ok (.iload_n 2, 1) := by decide +kernel
theorem dX4_work_174 : decode cX4_work 174 = .ok (.bipush 14, 2) := by decide +kernel
theorem dX4_work_176 : decode cX4_work 176 = .ok (.if_icmp .ge 19, 3) := by decide +kernel
theorem dX4_work_179 : decode cX4_work 179 = .ok (.aload_n 0, 1) := by decide +kernel
theorem dX4_work_180 : decode cX4_work 180 = .ok (.iload_n 2, 1) := by decide +kernel
theorem dX4_work_181 : decode cX4_work 181 = .ok (.iload_n 3, 1) := by decide +kernel
theorem dX4_work_182 : decode cX4_work 182 = .ok (.iload 4, 2) := by decide +kernel
theorem dX4_work_184 : decode cX4_work 184 = .ok (.iload 6, 2) := by decide +kernel
theorem dX4_work_186 : decode cX4_work 186 = .ok (.iadd, 1) := by decide +kernel
theorem dX4_work_187 : decode cX4_work 187 = .ok (.iload 5, 2) := by decide +kernel
theorem dX4_work_189 : decode cX4_work 189 = .ok (.invokevirtual 116, 3) := by decide +kernel
theorem dX4_work_192 : decode cX4_work 192 = .ok (.goto 139, 3) := by decide +kernel
theorem dX4_work_195 : decode cX4_work 195 = .ok (.iload_n 2, 1) := by decide +kernel
theorem dX4_work_196 : decode cX4_work 196 = .ok (.bipush 17, 2) := by decide +kernel
theorem dX4_work_198 : decode cX4_work 198 = .ok (.if_icmp .ge 31, 3) := by decide +kernel
theorem dX4_work_201 : decode cX4_work 201 = .ok (.iload_n 2, 1) := by decide +kernel
theorem dX4_work_202 : decode cX4_work 202 = .ok (.iload 4, 2) := by decide +kernel
theorem dX4_work_204 : decode cX4_work 204 = .ok (.iload 5, 2) := by decide +kernel
theorem dX4_work_206 : decode cX4_work 206 = .ok (.invokestatic 120, 3) := by decide +kernel
theorem dX4_work_209 : decode cX4_work 209 = .ok (.ifCond .eq 13, 3) := by decide +kernel
theorem dX4_work_212 : decode cX4_work 212 = .ok (.aload_n 0, 1) := by decide +kernel
theorem dX4_work_213 : decode cX4_work 213 = .ok (.getfield 60, 3) := by decide +kernel
theorem dX4_work_216 : decode cX4_work 216 = .ok (.iload 6, 2) := by decide +kernel
theorem dX4_work_218 : decode cX4_work 218 = .ok (.iadd, 1) := by decide +kernel
theorem dX4_work_219 : decode cX4_work 219 = .ok (.goto 5, 3) := by decide +kernel
theorem dX4_work_222 : decode cX4_work 222 = .ok (.iload 7, 2) := by decide +kernel
theorem dX4_work_224 : decode cX4_work 224 = .ok (.istore 7, 2) := by decide +kernel
theorem dX4_work_226 : decode cX4_work 226 = .ok (.goto 105, 3) := by decide +kernel
theorem dX4_work_229 : decode cX4_work 229 = .ok (.iload_n 2, 1) := by decide +kernel
theorem dX4_work_230 : decode cX4_work 230 = .ok (.bipush 19, 2) := by decide +kernel
theorem dX4_work_232 : decode cX4_work 232 = .ok (.if_icmp .ge 41, 3) := by decide +kernel
theorem dX4_work_235 : decode cX4_work 235 = .ok (.aload_n 0, 1) := by decide +kernel
theorem dX4_work_236 : decode cX4_work 236 = .ok (.getfield 18, 3) := by decide +kernel
theorem dX4_work_239 : decode cX4_work 239 = .ok (.iload_n 3, 1) := by decide +kernel
theorem dX4_work_240 : decode cX4_work 240 = .ok (.aload_n 0, 1) := by decide +kernel
theorem dX4_work_241 : decode cX4_work 241 = .ok (.getfield 60, 3) := by decide +kernel
theorem dX4_work_244 : decode cX4_work 244 = .ok (.iconst 1, 1) := by decide +kernel
theorem dX4_work_245 : decode cX4_work 245 = .ok (.iadd, 1) := by decide +kernel
theorem dX4_work_246 : decode cX4_work 246 = .ok (.iastore, 1) := by decide +kernel
theorem dX4_work_247 : decode cX4_work 247 = .ok (.iload_n 2, 1) := by decide +kernel
theorem dX4_work_248 : decode cX4_work 248 = .ok (.bipush 17, 2) := by decide +kernel
theorem dX4_work_250 : decode cX4_work 250 = .ok (.if_icmp .ne 13, 3) := by decide +kernel
theorem dX4_work_253 : decode cX4_work 253 = .ok (.aload_n 0, 1) := by decide +kernel
theorem dX4_work_254 : decode cX4_work 254 = .ok (.getfield 60, 3) := by decide +kernel
theorem dX4_work_257 : decode cX4_work 257 = .ok (.iload 6, 2) := by decide +kernel
theorem dX4_work_259 : decode cX4_work 259 = .ok (.iadd, 1) := by decide +kernel
theorem dX4_work_260 : decode cX4_work 260 = .ok (.goto 8, 3) := by decide +kernel
theorem dX4_work_263 : decode cX4_work 263 = .ok (.iload 4, 2) := by decide +kernel
theorem dX4_work_265 : decode cX4_work 265 = .ok (.iload 6, 2) := by decide +kernel
theorem dX4_work_267 : decode cX4_work 267 = .ok (.iadd, 1) := by decide +kernel
theorem dX4_work_268 : decode cX4_work 268 = .ok (.istore 7, 2) := by decide +kernel
theorem dX4_work_270 : decode cX4_work 270 = .ok (.goto 61, 3) := by decide +kernel
theorem dX4_work_273 : decode cX4_work 273 = .ok (.iload_n 2, 1) := by decide +kernel
theorem dX4_work_274 : decode cX4_work 274 = .ok (.bipush 19, 2) := by decide +kernel
theorem dX4_work_276 : decode cX4_work 276 = .ok (.if_icmp .ne 19, 3) := by decide +kernel
theorem dX4_work_279 : decode cX4_work 279 = .ok (.aload_n 0, 1) := by decide +kernel
theorem dX4_work_280 : decode cX4_work 280 = .ok (.bipush 8, 2) := by decide +kernel
theorem dX4_work_282 : decode cX4_work 282 = .ok (.aload_n 0, 1) := by decide +kernel
theorem dX4_work_283 : decode cX4_work 283 = .ok (.getfield 54, 3) := by decide +kernel
theorem dX4_work_286 : decode cX4_work 286 = .ok (.iadd, 1) := by decide +kernel
theorem dX4_work_287 : decode cX4_work 287 = .ok (.iload 6, 2) := by decide +kernel
theorem dX4_work_289 : decode cX4_work 289 = .ok (.invokevirtual 87, 3) := by decide +kernel
theorem dX4_work_292 : decode cX4_work 292 = .ok (.goto 39, 3) := by decide +kernel
theorem dX4_work_295 : decode cX4_work 295 = .ok (.iload_n 2, 1) := by decide +kernel
theorem dX4_work_296 : decode cX4_work 296 = .ok (.bipush 20, 2) := by decide +kernel
theorem dX4_work_298 : decode cX4_work 298 = .ok (.if_icmp .ne 19, 3) := by decide +kernel
theorem dX4_work_301 : decode cX4_work 301 = .ok (.aload_n 0, 1) := by decide +kernel
theorem dX4_work_302 : decode cX4_work 302 = .ok (.getfield 18, 3) := by decide +kernel
theorem dX4_work_305 : decode cX4_work 305 = .ok (.iload_n 3, 1) := by decide +kernel
theorem dX4_work_306 : decode cX4_work 306 = .ok (.aload_n 0, 1) := by decide +kernel
theorem dX4_work_307 : decode cX4_work 307 = .ok (.getfield 21, 3) := by decide +kernel
theorem dX4_work_310 : decode cX4_work 310 = .ok (.bipush 8, 2) := by decide +kernel
theorem dX4_work_312 : decode cX4_work 312 = .ok (.iaload, 1) := by decide +kernel
theorem dX4_work_313 : decode cX4_work 313 = .ok (.iastore, 1) := by decide +kernel
theorem dX4_work_314 : decode cX4_work 314 = .ok (.goto 17, 3) := by decide +kernel
theorem dX4_work_317 : decode cX4_work 317 = .ok (.iload_n 2, 1) := by decide +kernel
theorem dX4_work_318 : decode cX4_work 318 = .ok (.bipush 23, 2) := by decide +kernel
theorem dX4_work_320 : decode cX4_work 320 = .ok (.if_icmp .ne 11, 3) := by decide +kernel
theorem dX4_work_323 : decode cX4_work 323 = .ok (.aload_n 0, 1) := by decide +kernel
theorem dX4_work_324 : decode cX4_work 324 = .ok (.getfield 21, 3) := by decide +kernel
theorem dX4_work_327 : decode cX4_work 327 = .ok (.iconst 2, 1) := by decide +kernel
theorem dX4_work_328 : decode cX4_work 328 = .ok (.iaload, 1) := by decide +kernel
theorem dX4_work_329 : decode cX4_work 329 = .ok (.istore 7, 2) := by decide +kernel
theorem dX4_work_331 : decode cX4_work 331 = .ok (.aload_n 0, 1) := by decide +kernel
theorem dX4_work_332 : decode cX4_work 332 = .ok (.getfield 76, 3) := by decide +kernel
theorem dX4_work_335 : decode cX4_work 335 = .ok (.ifCond .le 4, 3) := by decide +kernel
theorem dX4_work_338 : decode cX4_work 338 = .ok (.return_, 1) := by decide +kernel
theorem dX4_work_339 : decode cX4_work 339 = .ok (.iload_n 2, 1) := by decide +kernel
theorem dX4_work_340 : decode cX4_work 340 = .ok (.bipush 26, 2) := by decide +kernel
theorem dX4_work_342 : decode cX4_work 342 = .ok (.if_icmp .ne 31, 3) := by decide +kernel
theorem dX4_work_345 : decode cX4_work 345 = .ok (.aload_n 0, 1) := by decide +kernel
theorem dX4_work_346 : decode cX4_work 346 = .ok (.invokevirtual 83, 3) := by decide +kernel
theorem dX4_work_349 : decode cX4_work 349 = .ok (.ifCond .ne 24, 3) := by decide +kernel
theorem dX4_work_352 : decode cX4_work 352 = .ok (.aload_n 0, 1) := by decide +kernel
theorem dX4_work_353 : decode cX4_work 353 = .ok (.getfield 44, 3) := by decide +kernel
theorem dX4_work_356 : decode cX4_work 356 = .ok (.ifCond .ne 17, 3) := by decide +kernel
theorem dX4_work_359 : decode cX4_work 359 = .ok (.aload_n 0, 1) := by decide +kernel
theorem dX4_work_360 : decode cX4_work 360 = .ok (.getfield 21, 3) := by decide +kernel
theorem dX4_work_363 : decode cX4_work 363 = .ok (.bipush 6, 2) := by decide +kernel
theorem dX4_work_365 : decode cX4_work 365 = .ok (.iaload, 1) := by decide +kernel
theorem dX4_work_366 : decode cX4_work 366 = .ok (.ifCond .eq 7, 3) := by decide +kernel
theorem dX4_work_369 : decode cX4_work 369 = .ok (.iconst 1, 1) := by decide +kernel
theorem dX4_work_370 : decode cX4_work 370 = .ok (.goto 4, 3) := by decide +kernel
theorem dX4_work_373 : decode cX4_work 373 = .ok (.iconst 0, 1) := by decide +kernel
theorem dX4_work_374 : decode cX4_work 374 = .ok (.istore 8, 2) := by decide +kernel
theorem dX4_work_376 : decode cX4_work 376 = .ok (.iload_n 2, 1) := by decide +kernel
theorem dX4_work_377 : decode cX4_work 377 = .ok (.bipush 20, 2) := by decide +kernel
theorem dX4_work_379 : decode cX4_work 379 = .ok (.if_icmp .le 13, 3) := by decide +kernel
theorem dX4_work_382 : decode cX4_work 382 = .ok (.aload_n 0, 1) := by decide +kernel
theorem dX4_work_383 : decode cX4_work 383 = .ok (.iload_n 2, 1) := by decide +kernel
theorem dX4_work_384 : decode cX4_work 384 = .ok (.iload_n 3, 1) := by decide +kernel
theorem dX4_work_385 : decode cX4_work 385 = .ok (.iload 4, 2) := by decide +kernel
theorem dX4_work_387 : decode cX4_work 387 = .ok (.iload 6, 2) := by decide +kernel
theorem dX4_work_389 : decode cX4_work 389 = .ok (.invokevirtual 124, 3) := by decide +kernel
theorem dX4_work_392 : decode cX4_work 392 = .ok (.aload_n 0, 1) := by decide +kernel
theorem dX4_work_393 : decode cX4_work 393 = .ok (.getfield 21, 3) := by decide +kernel
theorem dX4_work_396 : decode cX4_work 396 = .ok (.bipush 8, 2) := by decide +kernel
theorem dX4_work_398 : decode cX4_work 398 = .ok (.iload 8, 2) := by decide +kernel
theorem dX4_work_400 : decode cX4_work 400 = .ok (.ifCond .eq 13, 3) := by decide +kernel
theorem dX4_work_403 : decode cX4_work 403 = .ok (.aload_n 0, 1) := by decide +kernel
theorem dX4_work_404 : decode cX4_work 404 = .ok (.getfield 21, 3) := by decide +kernel
theorem dX4_work_407 : decode cX4_work 407 = .ok (.bipush 6, 2) := by decide +kernel
theorem dX4_work_409 : decode cX4_work 409 = .ok (.iaload, 1) := by decide +kernel
theorem dX4_work_410 : decode cX4_work 410 = .ok (.goto 12, 3) := by decide +kernel
theorem dX4_work_413 : decode cX4_work 413 = .ok (.aload_n 0, 1) := by decide +kernel
theorem dX4_work_414 : decode cX4_work 414 = .ok (.getfield 21, 3) := by decide +kernel
theorem dX4_work_417 : decode cX4_work 417 = .ok (.bipush 8, 2) := by decide +kernel
theorem dX4_work_419 : decode cX4_work 419 = .ok (.iaload, 1) := by decide +kernel
theorem dX4_work_420 : decode cX4_work 420 = .ok (.iconst 1, 1) := by decide +kernel
theorem dX4_work_421 : decode cX4_work 421 = .ok (.iadd, 1) := by decide +kernel
theorem dX4_work_422 : decode cX4_work 422 = .ok (.iastore, 1) := by decide +kernel
theorem dX4_work_423 : decode cX4_work 423 = .ok (.aload_n 0, 1) := by decide +kernel
theorem dX4_work_424 : decode cX4_work 424 = .ok (.iload 7, 2) := by decide +kernel
theorem dX4_work_426 : decode cX4_work 426 = .ok (.putfield 60, 3) := by decide +kernel
theorem dX4_work_429 : decode cX4_work 429 = .ok (.return_, 1) := by decide +kernel
theorem dX4_made_0 : decode cX4_made 0 = .ok (.iload_n 0, 1) := by decide +kernel
theorem dX4_made_1 : decode cX4_made 1 = .ok (.tableswitch 108 0 9 #[55, 59, 63, 67, 71, 75, 79, 90, 97, 104], 55) := by decide +kernel
theorem dX4_made_56 : decode cX4_made 56 = .ok (.iload_n 1, 1) := by decide +kernel
theorem dX4_made_57 : decode cX4_made 57 = .ok (.iload_n 2, 1) := by decide +kernel
theorem dX4_made_58 : decode cX4_made 58 = .ok (.iadd, 1) := by decide +kernel
theorem dX4_made_59 : decode cX4_made 59 = .ok (.ireturn, 1) := by decide +kernel
theorem dX4_made_60 : decode cX4_made 60 = .ok (.iload_n 1, 1) := by decide +kernel
theorem dX4_made_61 : decode cX4_made 61 = .ok (.iload_n 2, 1) := by decide +kernel
theorem dX4_made_62 : decode cX4_made 62 = .ok (.isub, 1) := by decide +kernel
theorem dX4_made_63 : decode cX4_made 63 = .ok (.ireturn, 1) := by decide +kernel
theorem dX4_made_64 : decode cX4_made 64 = .ok (.iload_n 1, 1) := by decide +kernel
theorem dX4_made_65 : decode cX4_made 65 = .ok (.iload_n 2, 1) := by decide +kernel
theorem dX4_made_66 : decode cX4_made 66 = .ok (.iand, 1) := by decide +kernel
theorem dX4_made_67 : decode cX4_made 67 = .ok (.ireturn, 1) := by decide +kernel
theorem dX4_made_68 : decode cX4_made 68 = .ok (.iload_n 1, 1) := by decide +kernel
theorem dX4_made_69 : decode cX4_made 69 = .ok (.iload_n 2, 1) := by decide +kernel
theorem dX4_made_70 : decode cX4_made 70 = .ok (.ior, 1) := by decide +kernel
theorem dX4_made_71 : decode cX4_made 71 = .ok (.ireturn, 1) := by decide +kernel
theorem dX4_made_72 : decode cX4_made 72 = .ok (.iload_n 1, 1) := by decide +kernel
theorem dX4_made_73 : decode cX4_made 73 = .ok (.iload_n 2, 1) := by decide +kernel
theorem dX4_made_74 : decode cX4_made 74 = .ok (.ixor, 1) := by decide +kernel
theorem dX4_made_75 : decode cX4_made 75 = .ok (.ireturn, 1) := by decide +kernel
theorem dX4_made_76 : decode cX4_made 76 = .ok (.iload_n 1, 1) := by decide +kernel
theorem dX4_made_77 : decode cX4_made 77 = .ok (.iload_n 2, 1) := by decide +kernel
theorem dX4_made_78 : decode cX4_made 78 = .ok (.imul, 1) := by decide +kernel
theorem dX4_made_79 : decode cX4_made 79 = .ok (.ireturn, 1) := by decide +kernel
theorem dX4_made_80 : decode cX4_made 80 = .ok (.iload_n 1, 1) := by decide +kernel
theorem dX4_made_81 : decode cX4_made 81 = .ok (.iload_n 2, 1) := by decide +kernel
theorem dX4_made_82 : decode cX4_made 82 = .ok (.if_icmp .ge 7, 3) := by decide +kernel
theorem dX4_made_85 : decode cX4_made 85 = .ok (.iconst 1, 1) := by decide +kernel
theorem dX4_made_86 : decode cX4_made 86 = .ok (.goto 4, 3) := by decide +kernel
theorem dX4_made_89 : decode cX4_made 89 = .ok (.iconst 0, 1) := by decide +kernel
theorem dX4_made_90 : decode cX4_made 90 = .ok (.ireturn, 1) := by decide +kernel
theorem dX4_made_91 : decode cX4_made 91 = .ok (.iload_n 1, 1) := by decide +kernel
theorem dX4_made_92 : decode cX4_made 92 = .ok (.iload_n 2, 1) := by decide +kernel
theorem dX4_made_93 : decode cX4_made 93 = .ok (.bipush 31, 2) := by decide +kernel
theorem dX4_made_95 : decode cX4_made 95 = .ok (.iand, 1) := by decide +kernel
theorem dX4_made_96 : decode cX4_made 96 = .ok (.ishl, 1) := by decide +kernel
theorem dX4_made_97 : decode cX4_made 97 = .ok (.ireturn, 1) := by decide +kernel
theorem dX4_made_98 : decode cX4_made 98 = .ok (.iload_n 1, 1) := by decide +kernel
theorem dX4_made_99 : decode cX4_made 99 = .ok (.iload_n 2, 1) := by decide +kernel
theorem dX4_made_100 : decode cX4_made 100 = .ok (.bipush 31, 2) := by decide +kernel
theorem dX4_made_102 : decode cX4_made 102 = .ok (.iand, 1) := by decide +kernel
theorem dX4_made_103 : decode cX4_made 103 = .ok (.iushr, 1) := by decide +kernel
theorem dX4_made_104 : decode cX4_made 104 = .ok (.ireturn, 1) := by decide +kernel
theorem dX4_made_105 : decode cX4_made 105 = .ok (.iload_n 1, 1) := by decide +kernel
theorem dX4_made_106 : decode cX4_made 106 = .ok (.iload_n 3, 1) := by decide +kernel
theorem dX4_made_107 : decode cX4_made 107 = .ok (.iadd, 1) := by decide +kernel
theorem dX4_made_108 : decode cX4_made 108 = .ok (.ireturn, 1) := by decide +kernel
theorem dX4_made_109 : decode cX4_made 109 = .ok (.iload_n 3, 1) := by decide +kernel
theorem dX4_made_110 : decode cX4_made 110 = .ok (.bipush 15, 2) := by decide +kernel
theorem dX4_made_112 : decode cX4_made 112 = .ok (.ishl, 1) := by decide +kernel
theorem dX4_made_113 : decode cX4_made 113 = .ok (.ireturn, 1) := by decide +kernel
theorem dX4_goes_0 : decode cX4_goes 0 = .ok (.iload_n 0, 1) := by decide +kernel
theorem dX4_goes_1 : decode cX4_goes 1 = .ok (.bipush 14, 2) := by decide +kernel
theorem dX4_goes_3 : decode cX4_goes 3 = .ok (.if_icmp .ne 16, 3) := by decide +kernel
theorem dX4_goes_6 : decode cX4_goes 6 = .ok (.iload_n 1, 1) := by decide +kernel
theorem dX4_goes_7 : decode cX4_goes 7 = .ok (.iload_n 2, 1) := by decide +kernel
theorem dX4_goes_8 : decode cX4_goes 8 = .ok (.if_icmp .ne 7, 3) := by decide +kernel
theorem dX4_goes_11 : decode cX4_goes 11 = .ok (.iconst 1, 1) := by decide +kernel
theorem dX4_goes_12 : decode cX4_goes 12 = .ok (.goto 36, 3) := by decide +kernel
theorem dX4_goes_15 : decode cX4_goes 15 = .ok (.iconst 0, 1) := by decide +kernel
theorem dX4_goes_16 : decode cX4_goes 16 = .ok (.goto 32, 3) := by decide +kernel
theorem dX4_goes_19 : decode cX4_goes 19 = .ok (.iload_n 0, 1) := by decide +kernel
theorem dX4_goes_20 : decode cX4_goes 20 = .ok (.bipush 15, 2) := by decide +kernel
theorem dX4_goes_22 : decode cX4_goes 22 = .ok (.if_icmp .ne 16, 3) := by decide +kernel
theorem dX4_goes_25 : decode cX4_goes 25 = .ok (.iload_n 1, 1) := by decide +kernel
theorem dX4_goes_26 : decode cX4_goes 26 = .ok (.iload_n 2, 1) := by decide +kernel
theorem dX4_goes_27 : decode cX4_goes 27 = .ok (.if_icmp .eq 7, 3) := by decide +kernel
theorem dX4_goes_30 : decode cX4_goes 30 = .ok (.iconst 1, 1) := by decide +kernel
theorem dX4_goes_31 : decode cX4_goes 31 = .ok (.goto 17, 3) := by decide +kernel
theorem dX4_goes_34 : decode cX4_goes 34 = .ok (.iconst 0, 1) := by decide +kernel
theorem dX4_goes_35 : decode cX4_goes 35 = .ok (.goto 13, 3) := by decide +kernel
theorem dX4_goes_38 : decode cX4_goes 38 = .ok (.iload_n 1, 1) := by decide +kernel
theorem dX4_goes_39 : decode cX4_goes 39 = .ok (.iload_n 2, 1) := by decide +kernel
theorem dX4_goes_40 : decode cX4_goes 40 = .ok (.if_icmp .ge 7, 3) := by decide +kernel
theorem dX4_goes_43 : decode cX4_goes 43 = .ok (.iconst 1, 1) := by decide +kernel
theorem dX4_goes_44 : decode cX4_goes 44 = .ok (.goto 4, 3) := by decide +kernel
theorem dX4_goes_47 : decode cX4_goes 47 = .ok (.iconst 0, 1) := by decide +kernel
theorem dX4_goes_48 : decode cX4_goes 48 = .ok (.ireturn, 1) := by decide +kernel
theorem dX4_moved_0 : decode cX4_moved 0 = .ok (.aload_n 0, 1) := by decide +kernel
theorem dX4_moved_1 : decode cX4_moved 1 = .ok (.iload_n 3, 1) := by decide +kernel
theorem dX4_moved_2 : decode cX4_moved 2 = .ok (.iload_n 1, 1) := by decide +kernel
theorem dX4_moved_3 : decode cX4_moved 3 = .ok (.bipush 11, 2) := by decide +kernel
theorem dX4_moved_5 : decode cX4_moved 5 = .ok (.if_icmp .ne 8, 3) := by decide +kernel
theorem dX4_moved_8 : decode cX4_moved 8 = .ok (.bipush 12, 2) := by decide +kernel
theorem dX4_moved_10 : decode cX4_moved 10 = .ok (.goto 5, 3) := by decide +kernel
theorem dX4_moved_13 : decode cX4_moved 13 = .ok (.bipush 13, 2) := by decide +kernel
theorem dX4_moved_15 : decode cX4_moved 15 = .ok (.invokevirtual 91, 3) := by decide +kernel
theorem dX4_moved_18 : decode cX4_moved 18 = .ok (.istore 5, 2) := by decide +kernel
theorem dX4_moved_20 : decode cX4_moved 20 = .ok (.aload_n 0, 1) := by decide +kernel
theorem dX4_moved_21 : decode cX4_moved 21 = .ok (.getfield 76, 3) := by decide +kernel
theorem dX4_moved_24 : decode cX4_moved 24 = .ok (.ifCond .le 4, 3) := by decide +kernel
theorem dX4_moved_27 : decode cX4_moved 27 = .ok (.return_, 1) := by decide +kernel
theorem dX4_moved_28 : decode cX4_moved 28 = .ok (.aload_n 0, 1) := by decide +kernel
theorem dX4_moved_29 : decode cX4_moved 29 = .ok (.getfield 9, 3) := by decide +kernel
theorem dX4_moved_32 : decode cX4_moved 32 = .ok (.iload 5, 2) := by decide +kernel
theorem dX4_moved_34 : decode cX4_moved 34 = .ok (.iaload, 1) := by decide +kernel
theorem dX4_moved_35 : decode cX4_moved 35 = .ok (.istore 6, 2) := by decide +kernel
theorem dX4_moved_37 : decode cX4_moved 37 = .ok (.iload_n 1, 1) := by decide +kernel
theorem dX4_moved_38 : decode cX4_moved 38 = .ok (.bipush 11, 2) := by decide +kernel
theorem dX4_moved_40 : decode cX4_moved 40 = .ok (.if_icmp .eq 12, 3) := by decide +kernel
theorem dX4_moved_43 : decode cX4_moved 43 = .ok (.aload_n 0, 1) := by decide +kernel
theorem dX4_moved_44 : decode cX4_moved 44 = .ok (.getfield 9, 3) := by decide +kernel
theorem dX4_moved_47 : decode cX4_moved 47 = .ok (.iload 5, 2) := by decide +kernel
theorem dX4_moved_49 : decode cX4_moved 49 = .ok (.iload 4, 2) := by decide +kernel
theorem dX4_moved_51 : decode cX4_moved 51 = .ok (.iastore, 1) := by decide +kernel
theorem dX4_moved_52 : decode cX4_moved 52 = .ok (.iload_n 1, 1) := by decide +kernel
theorem dX4_moved_53 : decode cX4_moved 53 = .ok (.bipush 12, 2) := by decide +kernel
theorem dX4_moved_55 : decode cX4_moved 55 = .ok (.if_icmp .eq 11, 3) := by decide +kernel
theorem dX4_moved_58 : decode cX4_moved 58 = .ok (.aload_n 0, 1) := by decide +kernel
theorem dX4_moved_59 : decode cX4_moved 59 = .ok (.getfield 18, 3) := by decide +kernel
theorem dX4_moved_62 : decode cX4_moved 62 = .ok (.iload_n 2, 1) := by decide +kernel
theorem dX4_moved_63 : decode cX4_moved 63 = .ok (.iload 6, 2) := by decide +kernel
theorem dX4_moved_65 : decode cX4_moved 65 = .ok (.iastore, 1) := by decide +kernel
theorem dX4_moved_66 : decode cX4_moved 66 = .ok (.return_, 1) := by decide +kernel
theorem dX4_own_0 : decode cX4_own 0 = .ok (.iload_n 1, 1) := by decide +kernel
theorem dX4_own_1 : decode cX4_own 1 = .ok (.tableswitch 278 21 28 #[47, 77, 111, 156, 163, 177, 209, 217], 47) := by decide +kernel
theorem dX4_own_48 : decode cX4_own 48 = .ok (.aload_n 0, 1) := by decide +kernel
theorem dX4_own_49 : decode cX4_own 49 = .ok (.getfield 18, 3) := by decide +kernel
theorem dX4_own_52 : decode cX4_own 52 = .ok (.iload_n 2, 1) := by decide +kernel
theorem dX4_own_53 : decode cX4_own 53 = .ok (.iload 4, 2) := by decide +kernel
theorem dX4_own_55 : decode cX4_own 55 = .ok (.bipush 9, 2) := by decide +kernel
theorem dX4_own_57 : decode cX4_own 57 = .ok (.if_icmp .ne 10, 3) := by decide +kernel
theorem dX4_own_60 : decode cX4_own 60 = .ok (.aload_n 0, 1) := by decide +kernel
theorem dX4_own_61 : decode cX4_own 61 = .ok (.getfield 36, 3) := by decide +kernel
theorem dX4_own_64 : decode cX4_own 64 = .ok (.goto 10, 3) := by decide +kernel
theorem dX4_own_67 : decode cX4_own 67 = .ok (.aload_n 0, 1) := by decide +kernel
theorem dX4_own_68 : decode cX4_own 68 = .ok (.getfield 21, 3) := by decide +kernel
theorem dX4_own_71 : decode cX4_own 71 = .ok (.iload 4, 2) := by decide +kernel
theorem dX4_own_73 : decode cX4_own 73 = .ok (.iaload, 1) := by decide +kernel
theorem dX4_own_74 : decode cX4_own 74 = .ok (.iastore, 1) := by decide +kernel
theorem dX4_own_75 : decode cX4_own 75 = .ok (.goto 211, 3) := by decide +kernel
theorem dX4_own_78 : decode cX4_own 78 = .ok (.aload_n 0, 1) := by decide +kernel
theorem dX4_own_79 : decode cX4_own 79 = .ok (.getfield 21, 3) := by decide +kernel
theorem dX4_own_82 : decode cX4_own 82 = .ok (.iload 4, 2) := by decide +kernel
theorem dX4_own_84 : decode cX4_own 84 = .ok (.iload 4, 2) := by decide +kernel
theorem dX4_own_86 : decode cX4_own 86 = .ok (.ifCond .ne 11, 3) := by decide +kernel
theorem dX4_own_89 : decode cX4_own 89 = .ok (.iload_n 3, 1) := by decide +kernel
theorem dX4_own_90 : decode cX4_own 90 = .ok (.sipush 1799, 3) := by decide +kernel
theorem dX4_own_93 : decode cX4_own 93 = .ok (.iand, 1) := by decide +kernel
theorem dX4_own_94 : decode cX4_own 94 = .ok (.goto 4, 3) := by decide +kernel
theorem dX4_own_97 : decode cX4_own 97 = .ok (.iload_n 3, 1) := by decide +kernel
theorem dX4_own_98 : decode cX4_own 98 = .ok (.iastore, 1) := by decide +kernel
theorem dX4_own_99 : decode cX4_own 99 = .ok (.iload 4, 2) := by decide +kernel
theorem dX4_own_101 : decode cX4_own 101 = .ok (.iconst 5, 1) := by decide +kernel
theorem dX4_own_102 : decode cX4_own 102 = .ok (.if_icmp .ne 184, 3) := by decide +kernel
theorem dX4_own_105 : decode cX4_own 105 = .ok (.aload_n 0, 1) := by decide +kernel
theorem dX4_own_106 : decode cX4_own 106 = .ok (.invokevirtual 69, 3) := by decide +kernel
theorem dX4_own_109 : decode cX4_own 109 = .ok (.goto 177, 3) := by decide +kernel
theorem dX4_own_112 : decode cX4_own 112 = .ok (.aload_n 0, 1) := by decide +kernel
theorem dX4_own_113 : decode cX4_own 113 = .ok (.aload_n 0, 1) := by decide +kernel
theorem dX4_own_114 : decode cX4_own 114 = .ok (.getfield 21, 3) := by decide +kernel
theorem dX4_own_117 : decode cX4_own 117 = .ok (.iconst 0, 1) := by decide +kernel
theorem dX4_own_118 : decode cX4_own 118 = .ok (.iaload, 1) := by decide +kernel
theorem dX4_own_119 : decode cX4_own 119 = .ok (.iconst 2, 1) := by decide +kernel
theorem dX4_own_120 : decode cX4_own 120 = .ok (.ishr, 1) := by decide +kernel
theorem dX4_own_121 : decode cX4_own 121 = .ok (.iconst 1, 1) := by decide +kernel
theorem dX4_own_122 : decode cX4_own 122 = .ok (.iand, 1) := by decide +kernel
theorem dX4_own_123 : decode cX4_own 123 = .ok (.putfield 54, 3) := by decide +kernel
theorem dX4_own_126 : decode cX4_own 126 = .ok (.aload_n 0, 1) := by decide +kernel
theorem dX4_own_127 : decode cX4_own 127 = .ok (.getfield 21, 3) := by decide +kernel
theorem dX4_own_130 : decode cX4_own 130 = .ok (.iconst 0, 1) := by decide +kernel
theorem dX4_own_131 : decode cX4_own 131 = .ok (.aload_n 0, 1) := by decide +kernel
theorem dX4_own_132 : decode cX4_own 132 = .ok (.getfield 21, 3) := by decide +kernel
theorem dX4_own_135 : decode cX4_own 135 = .ok (.iconst 0, 1) := by decide +kernel
theorem dX4_own_136 : decode cX4_own 136 = .ok (.iaload, 1) := by decide +kernel
theorem dX4_own_137 : decode cX4_own 137 = .ok (.bipush (-8), 2) := by decide +kernel
theorem dX4_own_139 : decode cX4_own 139 = .ok (.iand, 1) := by decide +kernel
theorem dX4_own_140 : decode cX4_own 140 = .ok (.aload_n 0, 1) := by decide +kernel
theorem dX4_own_141 : decode cX4_own 141 = .ok (.getfield 21, 3) := by decide +kernel
theorem dX4_own_144 : decode cX4_own 144 = .ok (.iconst 0, 1) := by decide +kernel
theorem dX4_own_145 : decode cX4_own 145 = .ok (.iaload, 1) := by decide +kernel
theorem dX4_own_146 : decode cX4_own 146 = .ok (.iconst 1, 1) := by decide +kernel
theorem dX4_own_147 : decode cX4_own 147 = .ok (.ishr, 1) := by decide +kernel
theorem dX4_own_148 : decode cX4_own 148 = .ok (.iconst 1, 1) := by decide +kernel
theorem dX4_own_149 : decode cX4_own 149 = .ok (.iand, 1) := by decide +kernel
theorem dX4_own_150 : decode cX4_own 150 = .ok (.ior, 1) := by decide +kernel
theorem dX4_own_151 : decode cX4_own 151 = .ok (.iconst 2, 1) := by decide +kernel
theorem dX4_own_152 : decode cX4_own 152 = .ok (.ior, 1) := by decide +kernel
theorem dX4_own_153 : decode cX4_own 153 = .ok (.iastore, 1) := by decide +kernel
theorem dX4_own_154 : decode cX4_own 154 = .ok (.goto 132, 3) := by decide +kernel
theorem dX4_own_157 : decode cX4_own 157 = .ok (.aload_n 0, 1) := by decide +kernel
theorem dX4_own_158 : decode cX4_own 158 = .ok (.invokevirtual 69, 3) := by decide +kernel
theorem dX4_own_161 : decode cX4_own 161 = .ok (.goto 125, 3) := by decide +kernel
theorem dX4_own_164 : decode cX4_own 164 = .ok (.aload_n 0, 1) := by decide +kernel
theorem dX4_own_165 : decode cX4_own 165 = .ok (.getfield 24, 3) := by decide +kernel
theorem dX4_own_168 : decode cX4_own 168 = .ok (.iload_n 3, 1) := by decide +kernel
theorem dX4_own_169 : decode cX4_own 169 = .ok (.sipush 255, 3) := by decide +kernel
theorem dX4_own_172 : decode cX4_own 172 = .ok (.iand, 1) := by decide +kernel
theorem dX4_own_173 : decode cX4_own 173 = .ok (.iconst (-1), 1) := by decide +kernel
theorem dX4_own_174 : decode cX4_own 174 = .ok (.iastore, 1) := by decide +kernel
theorem dX4_own_175 : decode cX4_own 175 = .ok (.goto 111, 3) := by decide +kernel
theorem dX4_own_178 : decode cX4_own 178 = .ok (.aload_n 0, 1) := by decide +kernel
theorem dX4_own_179 : decode cX4_own 179 = .ok (.invokevirtual 83, 3) := by decide +kernel
theorem dX4_own_182 : decode cX4_own 182 = .ok (.ifCond .ne 104, 3) := by decide +kernel
theorem dX4_own_185 : decode cX4_own 185 = .ok (.aload_n 0, 1) := by decide +kernel
theorem dX4_own_186 : decode cX4_own 186 = .ok (.getfield 44, 3) := by decide +kernel
theorem dX4_own_189 : decode cX4_own 189 = .ok (.ifCond .ne 97, 3) := by decide +kernel
theorem dX4_own_192 : decode cX4_own 192 = .ok (.aload_n 0, 1) := by decide +kernel
theorem dX4_own_193 : decode cX4_own 193 = .ok (.getfield 21, 3) := by decide +kernel
theorem dX4_own_196 : decode cX4_own 196 = .ok (.bipush 6, 2) := by decide +kernel
theorem dX4_own_198 : decode cX4_own 198 = .ok (.iaload, 1) := by decide +kernel
theorem dX4_own_199 : decode cX4_own 199 = .ok (.ifCond .ne 87, 3) := by decide +kernel
theorem dX4_own_202 : decode cX4_own 202 = .ok (.aload_n 0, 1) := by decide +kernel
theorem dX4_own_203 : decode cX4_own 203 = .ok (.iconst 2, 1) := by decide +kernel
theorem dX4_own_204 : decode cX4_own 204 = .ok (.putfield 57, 3) := by decide +kernel
theorem dX4_own_207 : decode cX4_own 207 = .ok (.goto 79, 3) := by decide +kernel
theorem dX4_own_210 : decode cX4_own 210 = .ok (.aload_n 0, 1) := by decide +kernel
theorem dX4_own_211 : decode cX4_own 211 = .ok (.iconst 3, 1) := by decide +kernel
theorem dX4_own_212 : decode cX4_own 212 = .ok (.putfield 57, 3) := by decide +kernel
theorem dX4_own_215 : decode cX4_own 215 = .ok (.goto 71, 3) := by decide +kernel
theorem dX4_own_218 : decode cX4_own 218 = .ok (.aload_n 0, 1) := by decide +kernel
theorem dX4_own_219 : decode cX4_own 219 = .ok (.getfield 18, 3) := by decide +kernel
theorem dX4_own_222 : decode cX4_own 222 = .ok (.iload_n 2, 1) := by decide +kernel
theorem dX4_own_223 : decode cX4_own 223 = .ok (.iload 4, 2) := by decide +kernel
theorem dX4_own_225 : decode cX4_own 225 = .ok (.ifCond .ne 10, 3) := by decide +kernel
theorem dX4_own_228 : decode cX4_own 228 = .ok (.aload_n 0, 1) := by decide +kernel
theorem dX4_own_229 : decode cX4_own 229 = .ok (.invokevirtual 127, 3) := by decide +kernel
theorem dX4_own_232 : decode cX4_own 232 = .ok (.goto 43, 3) := by decide +kernel
theorem dX4_own_235 : decode cX4_own 235 = .ok (.iload 4, 2) := by decide +kernel
theorem dX4_own_237 : decode cX4_own 237 = .ok (.iconst 1, 1) := by decide +kernel
theorem dX4_own_238 : decode cX4_own 238 = .ok (.if_icmp .ne 10, 3) := by decide +kernel
theorem dX4_own_241 : decode cX4_own 241 = .ok (.aload_n 0, 1) := by decide +kernel
theorem dX4_own_242 : decode cX4_own 242 = .ok (.getfield 44, 3) := by decide +kernel
theorem dX4_own_245 : decode cX4_own 245 = .ok (.goto 30, 3) := by decide +kernel
theorem dX4_own_248 : decode cX4_own 248 = .ok (.iload 4, 2) := by decide +kernel
theorem dX4_own_250 : decode cX4_own 250 = .ok (.iconst 2, 1) := by decide +kernel
theorem dX4_own_251 : decode cX4_own 251 = .ok (.if_icmp .ne 10, 3) := by decide +kernel
theorem dX4_own_254 : decode cX4_own 254 = .ok (.aload_n 0, 1) := by decide +kernel
theorem dX4_own_255 : decode cX4_own 255 = .ok (.getfield 47, 3) := by decide +kernel
theorem dX4_own_258 : decode cX4_own 258 = .ok (.goto 17, 3) := by decide +kernel
theorem dX4_own_261 : decode cX4_own 261 = .ok (.iload 4, 2) := by decide +kernel
theorem dX4_own_263 : decode cX4_own 263 = .ok (.iconst 3, 1) := by decide +kernel
theorem dX4_own_264 : decode cX4_own 264 = .ok (.if_icmp .ne 10, 3) := by decide +kernel
theorem dX4_own_267 : decode cX4_own 267 = .ok (.aload_n 0, 1) := by decide +kernel
theorem dX4_own_268 : decode cX4_own 268 = .ok (.getfield 63, 3) := by decide +kernel
theorem dX4_own_271 : decode cX4_own 271 = .ok (.goto 4, 3) := by decide +kernel
theorem dX4_own_274 : decode cX4_own 274 = .ok (.iconst 0, 1) := by decide +kernel
theorem dX4_own_275 : decode cX4_own 275 = .ok (.iastore, 1) := by decide +kernel
theorem dX4_own_276 : decode cX4_own 276 = .ok (.goto 10, 3) := by decide +kernel
theorem dX4_own_279 : decode cX4_own 279 = .ok (.aload_n 0, 1) := by decide +kernel
theorem dX4_own_280 : decode cX4_own 280 = .ok (.iload_n 3, 1) := by decide +kernel
theorem dX4_own_281 : decode cX4_own 281 = .ok (.iload 4, 2) := by decide +kernel
theorem dX4_own_283 : decode cX4_own 283 = .ok (.invokevirtual 131, 3) := by decide +kernel
theorem dX4_own_286 : decode cX4_own 286 = .ok (.return_, 1) := by decide +kernel
theorem dX4_taken_0 : decode cX4_taken 0 = .ok (.aload_n 0, 1) := by decide +kernel
theorem dX4_taken_1 : decode cX4_taken 1 = .ok (.getfield 44, 3) := by decide +kernel
theorem dX4_taken_4 : decode cX4_taken 4 = .ok (.ifCond .ne 5, 3) := by decide +kernel
theorem dX4_taken_7 : decode cX4_taken 7 = .ok (.iconst 0, 1) := by decide +kernel
theorem dX4_taken_8 : decode cX4_taken 8 = .ok (.ireturn, 1) := by decide +kernel
theorem dX4_taken_9 : decode cX4_taken 9 = .ok (.aload_n 0, 1) := by decide +kernel
theorem dX4_taken_10 : decode cX4_taken 10 = .ok (.getfield 30, 3) := by decide +kernel
theorem dX4_taken_13 : decode cX4_taken 13 = .ok (.iconst 0, 1) := by decide +kernel
theorem dX4_taken_14 : decode cX4_taken 14 = .ok (.iaload, 1) := by decide +kernel
theorem dX4_taken_15 : decode cX4_taken 15 = .ok (.istore_n 1, 1) := by decide +kernel
theorem dX4_taken_16 : decode cX4_taken 16 = .ok (.iconst 1, 1) := by decide +kernel
theorem dX4_taken_17 : decode cX4_taken 17 = .ok (.istore_n 2, 1) := by decide +kernel
theorem dX4_taken_18 : decode cX4_taken 18 = .ok (.iload_n 2, 1) := by decide +kernel
theorem dX4_taken_19 : decode cX4_taken 19 = .ok (.aload_n 0, 1) := by decide +kernel
theorem dX4_taken_20 : decode cX4_taken 20 = .ok (.getfield 44, 3) := by decide +kernel
theorem dX4_taken_23 : decode cX4_taken 23 = .ok (.if_icmp .ge 23, 3) := by decide +kernel
theorem dX4_taken_26 : decode cX4_taken 26 = .ok (.aload_n 0, 1) := by decide +kernel
theorem dX4_taken_27 : decode cX4_taken 27 = .ok (.getfield 30, 3) := by decide +kernel
theorem dX4_taken_30 : decode cX4_taken 30 = .ok (.iload_n 2, 1) := by decide +kernel
theorem dX4_taken_31 : decode cX4_taken 31 = .ok (.iconst 1, 1) := by decide +kernel
theorem dX4_taken_32 : decode cX4_taken 32 = .ok (.isub, 1) := by decide +kernel
theorem dX4_taken_33 : decode cX4_taken 33 = .ok (.aload_n 0, 1) := by decide +kernel
theorem dX4_taken_34 : decode cX4_taken 34 = .ok (.getfield 30, 3) := by decide +kernel
theorem dX4_taken_37 : decode cX4_taken 37 = .ok (.iload_n 2, 1) := by decide +kernel
theorem dX4_taken_38 : decode cX4_taken 38 = .ok (.iaload, 1) := by decide +kernel
theorem dX4_taken_39 : decode cX4_taken 39 = .ok (.iastore, 1) := by decide +kernel
theorem dX4_taken_40 : decode cX4_taken 40 = .ok (.iinc 2 1, 3) := by decide +kernel
theorem dX4_taken_43 : decode cX4_taken 43 = .ok (.goto (-25), 3) := by decide +kernel
theorem dX4_taken_46 : decode cX4_taken 46 = .ok (.aload_n 0, 1) := by decide +kernel
theorem dX4_taken_47 : decode cX4_taken 47 = .ok (.dup, 1) := by decide +kernel
theorem dX4_taken_48 : decode cX4_taken 48 = .ok (.getfield 44, 3) := by decide +kernel
theorem dX4_taken_51 : decode cX4_taken 51 = .ok (.iconst 1, 1) := by decide +kernel
theorem dX4_taken_52 : decode cX4_taken 52 = .ok (.isub, 1) := by decide +kernel
theorem dX4_taken_53 : decode cX4_taken 53 = .ok (.putfield 44, 3) := by decide +kernel
theorem dX4_taken_56 : decode cX4_taken 56 = .ok (.iload_n 1, 1) := by decide +kernel
theorem dX4_taken_57 : decode cX4_taken 57 = .ok (.ireturn, 1) := by decide +kernel
theorem dX4_put_0 : decode cX4_put 0 = .ok (.iload_n 2, 1) := by decide +kernel
theorem dX4_put_1 : decode cX4_put 1 = .ok (.ifCond .ne 43, 3) := by decide +kernel
theorem dX4_put_4 : decode cX4_put 4 = .ok (.aload_n 0, 1) := by decide +kernel
theorem dX4_put_5 : decode cX4_put 5 = .ok (.getfield 47, 3) := by decide +kernel
theorem dX4_put_8 : decode cX4_put 8 = .ok (.ifCond .lt 23, 3) := by decide +kernel
theorem dX4_put_11 : decode cX4_put 11 = .ok (.aload_n 0, 1) := by decide +kernel
theorem dX4_put_12 : decode cX4_put 12 = .ok (.getfield 47, 3) := by decide +kernel
theorem dX4_put_15 : decode cX4_put 15 = .ok (.sipush 1000, 3) := by decide +kernel
theorem dX4_put_18 : decode cX4_put 18 = .ok (.if_icmp .ge 13, 3) := by decide +kernel
theorem dX4_put_21 : decode cX4_put 21 = .ok (.aload_n 0, 1) := by decide +kernel
theorem dX4_put_22 : decode cX4_put 22 = .ok (.getfield 33, 3) := by decide +kernel
theorem dX4_put_25 : decode cX4_put 25 = .ok (.aload_n 0, 1) := by decide +kernel
theorem dX4_put_26 : decode cX4_put 26 = .ok (.getfield 47, 3) := by decide +kernel
theorem dX4_put_29 : decode cX4_put 29 = .ok (.iload_n 1, 1) := by decide +kernel
theorem dX4_put_30 : decode cX4_put 30 = .ok (.iastore, 1) := by decide +kernel
theorem dX4_put_31 : decode cX4_put 31 = .ok (.aload_n 0, 1) := by decide +kernel
theorem dX4_put_32 : decode cX4_put 32 = .ok (.dup, 1) := by decide +kernel
theorem dX4_put_33 : decode cX4_put 33 = .ok (.getfield 47, 3) := by decide +kernel
theorem dX4_put_36 : decode cX4_put 36 = .ok (.iconst 1, 1) := by decide +kernel
theorem dX4_put_37 : decode cX4_put 37 = .ok (.iadd, 1) := by decide +kernel
theorem dX4_put_38 : decode cX4_put 38 = .ok (.putfield 47, 3) := by decide +kernel
theorem dX4_put_41 : decode cX4_put 41 = .ok (.goto 118, 3) := by decide +kernel
theorem dX4_put_44 : decode cX4_put 44 = .ok (.iload_n 2, 1) := by decide +kernel
theorem dX4_put_45 : decode cX4_put 45 = .ok (.iconst 1, 1) := by decide +kernel
theorem dX4_put_46 : decode cX4_put 46 = .ok (.if_icmp .ne 11, 3) := by decide +kernel
theorem dX4_put_49 : decode cX4_put 49 = .ok (.aload_n 0, 1) := by decide +kernel
theorem dX4_put_50 : decode cX4_put 50 = .ok (.iload_n 1, 1) := by decide +kernel
theorem dX4_put_51 : decode cX4_put 51 = .ok (.putfield 63, 3) := by decide +kernel
theorem dX4_put_54 : decode cX4_put 54 = .ok (.goto 105, 3) := by decide +kernel
theorem dX4_put_57 : decode cX4_put 57 = .ok (.iload_n 2, 1) := by decide +kernel
theorem dX4_put_58 : decode cX4_put 58 = .ok (.iconst 2, 1) := by decide +kernel
theorem dX4_put_59 : decode cX4_put 59 = .ok (.if_icmp .ne 100, 3) := by decide +kernel
theorem dX4_put_62 : decode cX4_put 62 = .ok (.aload_n 0, 1) := by decide +kernel
theorem dX4_put_63 : decode cX4_put 63 = .ok (.getfield 63, 3) := by decide +kernel
theorem dX4_put_66 : decode cX4_put 66 = .ok (.aload_n 0, 1) := by decide +kernel
theorem dX4_put_67 : decode cX4_put 67 = .ok (.getfield 36, 3) := by decide +kernel
theorem dX4_put_70 : decode cX4_put 70 = .ok (.invokestatic 72, 3) := by decide +kernel
theorem dX4_put_73 : decode cX4_put 73 = .ok (.ifCond .eq 86, 3) := by decide +kernel
theorem dX4_put_76 : decode cX4_put 76 = .ok (.bipush 64, 2) := by decide +kernel
theorem dX4_put_78 : decode cX4_put 78 = .ok (.iload_n 1, 1) := by decide +kernel
theorem dX4_put_79 : decode cX4_put 79 = .ok (.iconst 1, 1) := by decide +kernel
theorem dX4_put_80 : decode cX4_put 80 = .ok (.ishr, 1) := by decide +kernel
theorem dX4_put_81 : decode cX4_put 81 = .ok (.bipush 15, 2) := by decide +kernel
theorem dX4_put_83 : decode cX4_put 83 = .ok (.iand, 1) := by decide +kernel
theorem dX4_put_84 : decode cX4_put 84 = .ok (.imul, 1) := by decide +kernel
theorem dX4_put_85 : decode cX4_put 85 = .ok (.istore_n 3, 1) := by decide +kernel
theorem dX4_put_86 : decode cX4_put 86 = .ok (.bipush 64, 2) := by decide +kernel
theorem dX4_put_88 : decode cX4_put 88 = .ok (.aload_n 0, 1) := by decide +kernel
theorem dX4_put_89 : decode cX4_put 89 = .ok (.getfield 63, 3) := by decide +kernel
theorem dX4_put_92 : decode cX4_put 92 = .ok (.imul, 1) := by decide +kernel
theorem dX4_put_93 : decode cX4_put 93 = .ok (.istore 4, 2) := by decide +kernel
theorem dX4_put_95 : decode cX4_put 95 = .ok (.iconst 0, 1) := by decide +kernel
theorem dX4_put_96 : decode cX4_put 96 = .ok (.istore 5, 2) := by decide +kernel
theorem dX4_put_98 : decode cX4_put 98 = .ok (.iload 5, 2) := by decide +kernel
theorem dX4_put_100 : decode cX4_put 100 = .ok (.bipush 64, 2) := by decide +kernel
theorem dX4_put_102 : decode cX4_put 102 = .ok (.if_icmp .ge 57, 3) := by decide +kernel
theorem dX4_put_105 : decode cX4_put 105 = .ok (.iload_n 1, 1) := by decide +kernel
theorem dX4_put_106 : decode cX4_put 106 = .ok (.iconst 1, 1) := by decide +kernel
theorem dX4_put_107 : decode cX4_put 107 = .ok (.iand, 1) := by decide +kernel
theorem dX4_put_108 : decode cX4_put 108 = .ok (.iconst 1, 1) := by decide +kernel
theorem dX4_put_109 : decode cX4_put 109 = .ok (.if_icmp .ne 25, 3) := by decide +kernel
theorem dX4_put_112 : decode cX4_put 112 = .ok (.aload_n 0, 1) := by decide +kernel
theorem dX4_put_113 : decode cX4_put 113 = .ok (.getfield 15, 3) := by decide +kernel
theorem dX4_put_116 : decode cX4_put 116 = .ok (.iload_n 3, 1) := by decide +kernel
theorem dX4_put_117 : decode cX4_put 117 = .ok (.iload 5, 2) := by decide +kernel
theorem dX4_put_119 : decode cX4_put 119 = .ok (.iadd, 1) := by decide +kernel
theorem dX4_put_120 : decode cX4_put 120 = .ok (.aload_n 0, 1) := by decide +kernel
theorem dX4_put_121 : decode cX4_put 121 = .ok (.getfield 9, 3) := by decide +kernel
theorem dX4_put_124 : decode cX4_put 124 = .ok (.iload 4, 2) := by decide +kernel
theorem dX4_put_126 : decode cX4_put 126 = .ok (.iload 5, 2) := by decide +kernel
theorem dX4_put_128 : decode cX4_put 128 = .ok (.iadd, 1) := by decide +kernel
theorem dX4_put_129 : decode cX4_put 129 = .ok (.iaload, 1) := by decide +kernel
theorem dX4_put_130 : decode cX4_put 130 = .ok (.iastore, 1) := by decide +kernel
theorem dX4_put_131 : decode cX4_put 131 = .ok (.goto 22, 3) := by decide +kernel
theorem dX4_put_134 : decode cX4_put 134 = .ok (.aload_n 0, 1) := by decide +kernel
theorem dX4_put_135 : decode cX4_put 135 = .ok (.getfield 9, 3) := by decide +kernel
theorem dX4_put_138 : decode cX4_put 138 = .ok (.iload 4, 2) := by decide +kernel
theorem dX4_put_140 : decode cX4_put 140 = .ok (.iload 5, 2) := by decide +kernel
theorem dX4_put_142 : decode cX4_put 142 = .ok (.iadd, 1) := by decide +kernel
theorem dX4_put_143 : decode cX4_put 143 = .ok (.aload_n 0, 1) := by decide +kernel
theorem dX4_put_144 : decode cX4_put 144 = .ok (.getfield 15, 3) := by decide +kernel
theorem dX4_put_147 : decode cX4_put 147 = .ok (.iload_n 3, 1) := by decide +kernel
theorem dX4_put_148 : decode cX4_put 148 = .ok (.iload 5, 2) := by decide +kernel
theorem dX4_put_150 : decode cX4_put 150 = .ok (.iadd, 1) := by decide +kernel
theorem dX4_put_151 : decode cX4_put 151 = .ok (.iaload, 1) := by decide +kernel
theorem dX4_put_152 : decode cX4_put 152 = .ok (.iastore, 1) := by decide +kernel
theorem dX4_put_153 : decode cX4_put 153 = .ok (.iinc 5 1, 3) := by decide +kernel
theorem dX4_put_156 : decode cX4_put 156 = .ok (.goto (-58), 3) := by decide +kernel
theorem dX4_put_159 : decode cX4_put 159 = .ok (.return_, 1) := by decide +kernel
end
section
theorem dX5_isBelow_0 : decode cX5_isBelow 0 = .ok (.iload_n 0, 1) := by decide +kernel
theorem dX5_isBelow_1 : decode cX5_isBelow 1 = .ok (.ldc 1, 2) := by decide +kernel
theorem dX5_isBelow_3 : decode cX5_isBelow 3 = .ok (.iadd, 1) := by decide +kernel
theorem dX5_isBelow_4 : decode cX5_isBelow 4 = .ok (.iload_n 1, 1) := by decide +kernel
theorem dX5_isBelow_5 : decode cX5_isBelow 5 = .ok (.ldc 1, 2) := by decide +kernel
theorem dX5_isBelow_7 : decode cX5_isBelow 7 = .ok (.iadd, 1) := by decide +kernel
theorem dX5_isBelow_8 : decode cX5_isBelow 8 = .ok (.if_icmp .ge 7, 3) := by decide +kernel
theorem dX5_isBelow_11 : decode cX5_isBelow 11 = .ok (.iconst 1, 1) := by decide +kernel
theorem dX5_isBelow_12 : decode cX5_isBelow 12 = .ok (.goto 4, 3) := by decide +kernel
theorem dX5_isBelow_15 : decode cX5_isBelow 15 = .ok (.iconst 0, 1) := by decide +kernel
theorem dX5_isBelow_16 : decode cX5_isBelow 16 = .ok (.ireturn, 1) := by decide +kernel
theorem dX5_init_0 : decode cX5_init 0 = .ok (.aload_n 0, 1) := by decide +kernel
theorem dX5_init_1 : decode cX5_init 1 = .ok (.invokespecial 2, 3) := by decide +kernel
theorem dX5_init_4 : decode cX5_init 4 = .ok (.aload_n 0, 1) := by decide +kernel
theorem dX5_init_5 : decode cX5_init 5 = .ok (.bipush 8, 2) := by decide +kernel
theorem dX5_init_7 : decode cX5_init 7 = .ok (.anewarray 10, 3) := by decide +kernel
theorem dX5_init_10 : decode cX5_init 10 = .ok (.putfield 12, 3) := by decide +kernel
theorem dX5_init_13 : decode cX5_init 13 = .ok (.aload_n 0, 1) := by decide +kernel
theorem dX5_init_14 : decode cX5_init 14 = .ok (.bipush 10, 2) := by decide +kernel
theorem dX5_init_16 : decode cX5_init 16 = .ok (.putfield 16, 3) := by decide +kernel
theorem dX5_init_19 : decode cX5_init 19 = .ok (.aload_n 0, 1) := by decide +kernel
theorem dX5_init_20 : decode cX5_init 20 = .ok (.bipush 7, 2) := by decide +kernel
theorem dX5_init_22 : decode cX5_init 22 = .ok (.putfield 20, 3) := by decide +kernel
theorem dX5_init_25 : decode cX5_init 25 = .ok (.iconst 0, 1) := by decide +kernel
theorem dX5_init_26 : decode cX5_init 26 = .ok (.istore_n 1, 1) := by decide +kernel
theorem dX5_init_27 : decode cX5_init 27 = .ok (.iload_n 1, 1) := by decide +kernel
theorem dX5_init_28 : decode cX5_init 28 = .ok (.bipush 8, 2) := by decide +kernel
theorem dX5_init_30 : decode cX5_init 30 = .ok (.if_icmp .ge 22, 3) := by decide +kernel
theorem dX5_init_33 : decode cX5_init 33 = .ok (.aload_n 0, 1) := by decide +kernel
theorem dX5_init_34 : decode cX5_init 34 = .ok (.getfield 12, 3) := by decide +kernel
theorem dX5_init_37 : decode cX5_init 37 = .ok (.iload_n 1, 1) := by decide +kernel
theorem dX5_init_38 : decode cX5_init 38 = .ok (.new 10, 3) := by decide +kernel
theorem dX5_init_41 : decode cX5_init 41 = .ok (.dup, 1) := by decide +kernel
theorem dX5_init_42 : decode cX5_init 42 = .ok (.invokespecial 23, 3) := by decide +kernel
theorem dX5_init_45 : decode cX5_init 45 = .ok (.aastore, 1) := by decide +kernel
theorem dX5_init_46 : decode cX5_init 46 = .ok (.iinc 1 1, 3) := by decide +kernel
theorem dX5_init_49 : decode cX5_init 49 = .ok (.goto (-22), 3) := by decide +kernel
theorem dX5_init_52 : decode cX5_init 52 = .ok (.return_, 1) := by decide +kernel
theorem dX5_install_0 : decode cX5_install 0 = .ok (.iload_n 1, 1) := by decide +kernel
theorem dX5_install_1 : decode cX5_install 1 = .ok (.iconst 4, 1) := by decide +kernel
theorem dX5_install_2 : decode cX5_install 2 = .ok (.if_icmp .lt 22, 3) := by decide +kernel
theorem dX5_install_5 : decode cX5_install 5 = .ok (.iload_n 1, 1) := by decide +kernel
theorem dX5_install_6 : decode cX5_install 6 = .ok (.sipush 256, 3) := by decide +kernel
theorem dX5_install_9 : decode cX5_install 9 = .ok (.if_icmp .gt 15, 3) := by decide +kernel
theorem dX5_install_12 : decode cX5_install 12 = .ok (.iload_n 2, 1) := by decide +kernel
theorem dX5_install_13 : decode cX5_install 13 = .ok (.iconst 1, 1) := by decide +kernel
theorem dX5_install_14 : decode cX5_install 14 = .ok (.if_icmp .lt 10, 3) := by decide +kernel
theorem dX5_install_17 : decode cX5_install 17 = .ok (.iload_n 2, 1) := by decide +kernel
theorem dX5_install_18 : decode cX5_install 18 = .ok (.sipush 1000, 3) := by decide +kernel
theorem dX5_install_21 : decode cX5_install 21 = .ok (.if_icmp .le 5, 3) := by decide +kernel
theorem dX5_install_24 : decode cX5_install 24 = .ok (.iconst (-1), 1) := by decide +kernel
theorem dX5_install_25 : decode cX5_install 25 = .ok (.ireturn, 1) := by decide +kernel
theorem dX5_install_26 : decode cX5_install 26 = .ok (.iconst 0, 1) := by decide +kernel
theorem dX5_install_27 : decode cX5_install 27 = .ok (.istore_n 3, 1) := by decide +kernel
theorem dX5_install_28 : decode cX5_install 28 = .ok (.iload_n 3, 1) := by decide +kernel
theorem dX5_install_29 : decode cX5_install 29 = .ok (.bipush 8, 2) := by decide +kernel
theorem dX5_install_31 : decode cX5_install 31 = .ok (.if_icmp .ge 19, 3) := by decide +kernel
theorem dX5_install_34 : decode cX5_install 34 = .ok (.aload_n 0, 1) := by decide +kernel
theorem dX5_install_35 : decode cX5_install 35 = .ok (.getfield 12, 3) := by decide +kernel
theorem dX5_install_38 : decode cX5_install 38 = .ok (.iload_n 3, 1) := by decide +kernel
theorem dX5_install_39 : decode cX5_install 39 = .ok (.aaload, 1) := by decide +kernel
theorem dX5_install_40 : decode cX5_install 40 = .ok (.iconst 0, 1) := by decide +kernel
theorem dX5_install_41 : decode cX5_install 41 = .ok (.putfield 24, 3) := by decide +kernel
theorem dX5_install_44 : decode cX5_install 44 = .ok (.iinc 3 1, 3) := by decide +kernel
theorem dX5_install_47 : decode cX5_install 47 = .ok (.goto (-19), 3) := by decide +kernel
theorem dX5_install_50 : decode cX5_install 50 = .ok (.aload_n 0, 1) := by decide +kernel
theorem dX5_install_51 : decode cX5_install 51 = .ok (.iload_n 2, 1) := by decide +kernel
theorem dX5_install_52 : decode cX5_install 52 = .ok (.putfield 16, 3) := by decide +kernel
theorem dX5_install_55 : decode cX5_install 55 = .ok (.aload_n 0, 1) := by decide +kernel
theorem dX5_install_56 : decode cX5_install 56 = .ok (.bipush 7, 2) := by decide +kernel
theorem dX5_install_58 : decode cX5_install 58 = .ok (.putfield 20, 3) := by decide +kernel
theorem dX5_install_61 : decode cX5_install 61 = .ok (.aload_n 0, 1) := by decide +kernel
theorem dX5_install_62 : decode cX5_install 62 = .ok (.iconst 0, 1) := by decide +kernel
theorem dX5_install_63 : decode cX5_install 63 = .ok (.putfield 28, 3) := by decide +kernel
theorem dX5_install_66 : decode cX5_install 66 = .ok (.aload_n 0, 1) := by decide +kernel
theorem dX5_install_67 : decode cX5_install 67 = .ok (.iconst 0, 1) := by decide +kernel
theorem dX5_install_68 : decode cX5_install 68 = .ok (.putfield 31, 3) := by decide +kernel
theorem dX5_install_71 : decode cX5_install 71 = .ok (.iconst 0, 1) := by decide +kernel
theorem dX5_install_72 : decode cX5_install 72 = .ok (.ireturn, 1) := by decide +kernel
theorem dX5_of_0 : decode cX5_of 0 = .ok (.iload_n 1, 1) := by decide +kernel
theorem dX5_of_1 : decode cX5_of 1 = .ok (.ifCond .lt 30, 3) := by decide +kernel
theorem dX5_of_4 : decode cX5_of 4 = .ok (.iload_n 1, 1) := by decide +kernel
theorem dX5_of_5 : decode cX5_of 5 = .ok (.bipush 8, 2) := by decide +kernel
theorem dX5_of_7 : decode cX5_of 7 = .ok (.if_icmp .ge 24, 3) := by decide +kernel
theorem dX5_of_10 : decode cX5_of 10 = .ok (.aload_n 0, 1) := by decide +kernel
theorem dX5_of_11 : decode cX5_of 11 = .ok (.getfield 12, 3) := by decide +kernel
theorem dX5_of_14 : decode cX5_of 14 = .ok (.iload_n 1, 1) := by decide +kernel
theorem dX5_of_15 : decode cX5_of 15 = .ok (.aaload, 1) := by decide +kernel
theorem dX5_of_16 : decode cX5_of 16 = .ok (.getfield 24, 3) := by decide +kernel
theorem dX5_of_19 : decode cX5_of 19 = .ok (.ifCond .eq 12, 3) := by decide +kernel
theorem dX5_of_22 : decode cX5_of 22 = .ok (.aload_n 0, 1) := by decide +kernel
theorem dX5_of_23 : decode cX5_of 23 = .ok (.getfield 12, 3) := by decide +kernel
theorem dX5_of_26 : decode cX5_of 26 = .ok (.iload_n 1, 1) := by decide +kernel
theorem dX5_of_27 : decode cX5_of 27 = .ok (.aaload, 1) := by decide +kernel
theorem dX5_of_28 : decode cX5_of 28 = .ok (.goto 4, 3) := by decide +kernel
theorem dX5_of_31 : decode cX5_of 31 = .ok (.aconst_null, 1) := by decide +kernel
theorem dX5_of_32 : decode cX5_of 32 = .ok (.areturn, 1) := by decide +kernel
theorem dX5_free_0 : decode cX5_free 0 = .ok (.iconst 0, 1) := by decide +kernel
theorem dX5_free_1 : decode cX5_free 1 = .ok (.istore_n 1, 1) := by decide +kernel
theorem dX5_free_2 : decode cX5_free 2 = .ok (.iload_n 1, 1) := by decide +kernel
theorem dX5_free_3 : decode cX5_free 3 = .ok (.bipush 8, 2) := by decide +kernel
theorem dX5_free_5 : decode cX5_free 5 = .ok (.if_icmp .ge 21, 3) := by decide +kernel
theorem dX5_free_8 : decode cX5_free 8 = .ok (.aload_n 0, 1) := by decide +kernel
theorem dX5_free_9 : decode cX5_free 9 = .ok (.getfield 12, 3) := by decide +kernel
theorem dX5_free_12 : decode cX5_free 12 = .ok (.iload_n 1, 1) := by decide +kernel
theorem dX5_free_13 : decode cX5_free 13 = .ok (.aaload, 1) := by decide +kernel
theorem dX5_free_14 : decode cX5_free 14 = .ok (.getfield 24, 3) := by decide +kernel
theorem dX5_free_17 : decode cX5_free 17 = .ok (.ifCond .eq 9, 3) := by decide +kernel
theorem dX5_free_20 : decode cX5_free 20 = .ok (.iinc 1 1, 3) := by decide +kernel
theorem dX5_free_23 : decode cX5_free 23 = .ok (.goto (-21), 3) := by decide +kernel
theorem dX5_free_26 : decode cX5_free 26 = .ok (.iload_n 1, 1) := by decide +kernel
theorem dX5_free_27 : decode cX5_free 27 = .ok (.bipush 8, 2) := by decide +kernel
theorem dX5_free_29 : decode cX5_free 29 = .ok (.if_icmp .ne 8, 3) := by decide +kernel
theorem dX5_free_32 : decode cX5_free 32 = .ok (.bipush (-12), 2) := by decide +kernel
theorem dX5_free_34 : decode cX5_free 34 = .ok (.goto 4, 3) := by decide +kernel
theorem dX5_free_37 : decode cX5_free 37 = .ok (.iload_n 1, 1) := by decide +kernel
theorem dX5_free_38 : decode cX5_free 38 = .ok (.ireturn, 1) := by decide +kernel
theorem dX5_guest_0 : decode cX5_guest 0 = .ok (.iload_n 1, 1) := by decide +kernel
theorem dX5_guest_1 : decode cX5_guest 1 = .ok (.iconst 1, 1) := by decide +kernel
theorem dX5_guest_2 : decode cX5_guest 2 = .ok (.if_icmp .lt 9, 3) := by decide +kernel
theorem dX5_guest_5 : decode cX5_guest 5 = .ok (.iload_n 1, 1) := by decide +kernel
theorem dX5_guest_6 : decode cX5_guest 6 = .ok (.bipush 64, 2) := by decide +kernel
theorem dX5_guest_8 : decode cX5_guest 8 = .ok (.if_icmp .le 5, 3) := by decide +kernel
theorem dX5_guest_11 : decode cX5_guest 11 = .ok (.iconst (-1), 1) := by decide +kernel
theorem dX5_guest_12 : decode cX5_guest 12 = .ok (.ireturn, 1) := by decide +kernel
theorem dX5_guest_13 : decode cX5_guest 13 = .ok (.aload_n 0, 1) := by decide +kernel
theorem dX5_guest_14 : decode cX5_guest 14 = .ok (.invokevirtual 34, 3) := by decide +kernel
theorem dX5_guest_17 : decode cX5_guest 17 = .ok (.istore_n 2, 1) := by decide +kernel
theorem dX5_guest_18 : decode cX5_guest 18 = .ok (.iload_n 2, 1) := by decide +kernel
theorem dX5_guest_19 : decode cX5_guest 19 = .ok (.ifCond .lt 13, 3) := by decide +kernel
theorem dX5_guest_22 : decode cX5_guest 22 = .ok (.aload_n 0, 1) := by decide +kernel
theorem dX5_guest_23 : decode cX5_guest 23 = .ok (.getfield 12, 3) := by decide +kernel
theorem dX5_guest_26 : decode cX5_guest 26 = .ok (.iload_n 2, 1) := by decide +kernel
theorem dX5_guest_27 : decode cX5_guest 27 = .ok (.aaload, 1) := by decide +kernel
theorem dX5_guest_28 : decode cX5_guest 28 = .ok (.iload_n 1, 1) := by decide +kernel
theorem dX5_guest_29 : decode cX5_guest 29 = .ok (.invokevirtual 38, 3) := by decide +kernel
theorem dX5_guest_32 : decode cX5_guest 32 = .ok (.iload_n 2, 1) := by decide +kernel
theorem dX5_guest_33 : decode cX5_guest 33 = .ok (.ireturn, 1) := by decide +kernel
theorem dX5_poke_0 : decode cX5_poke 0 = .ok (.aload_n 0, 1) := by decide +kernel
theorem dX5_poke_1 : decode cX5_poke 1 = .ok (.iload_n 1, 1) := by decide +kernel
theorem dX5_poke_2 : decode cX5_poke 2 = .ok (.invokevirtual 42, 3) := by decide +kernel
theorem dX5_poke_5 : decode cX5_poke 5 = .ok (.astore 4, 2) := by decide +kernel
theorem dX5_poke_7 : decode cX5_poke 7 = .ok (.aload 4, 2) := by decide +kernel
theorem dX5_poke_9 : decode cX5_poke 9 = .ok (.ifnonnull 6, 3) := by decide +kernel
theorem dX5_poke_12 : decode cX5_poke 12 = .ok (.bipush (-14), 2) := by decide +kernel
theorem dX5_poke_14 : decode cX5_poke 14 = .ok (.ireturn, 1) := by decide +kernel
theorem dX5_poke_15 : decode cX5_poke 15 = .ok (.aload 4, 2) := by decide +kernel
theorem dX5_poke_17 : decode cX5_poke 17 = .ok (.getfield 46, 3) := by decide +kernel
theorem dX5_poke_20 : decode cX5_poke 20 = .ok (.ifCond .eq 5, 3) := by decide +kernel
theorem dX5_poke_23 : decode cX5_poke 23 = .ok (.iconst (-1), 1) := by decide +kernel
theorem dX5_poke_24 : decode cX5_poke 24 = .ok (.ireturn, 1) := by decide +kernel
theorem dX5_poke_25 : decode cX5_poke 25 = .ok (.aload 4, 2) := by decide +kernel
theorem dX5_poke_27 : decode cX5_poke 27 = .ok (.iload_n 2, 1) := by decide +kernel
theorem dX5_poke_28 : decode cX5_poke 28 = .ok (.invokevirtual 49, 3) := by decide +kernel
theorem dX5_poke_31 : decode cX5_poke 31 = .ok (.ifCond .ne 6, 3) := by decide +kernel
theorem dX5_poke_34 : decode cX5_poke 34 = .ok (.bipush (-2), 2) := by decide +kernel
theorem dX5_poke_36 : decode cX5_poke 36 = .ok (.ireturn, 1) := by decide +kernel
theorem dX5_poke_37 : decode cX5_poke 37 = .ok (.aload 4, 2) := by decide +kernel
theorem dX5_poke_39 : decode cX5_poke 39 = .ok (.getfield 53, 3) := by decide +kernel
theorem dX5_poke_42 : decode cX5_poke 42 = .ok (.iload_n 2, 1) := by decide +kernel
theorem dX5_poke_43 : decode cX5_poke 43 = .ok (.iload_n 3, 1) := by decide +kernel
theorem dX5_poke_44 : decode cX5_poke 44 = .ok (.iastore, 1) := by decide +kernel
theorem dX5_poke_45 : decode cX5_poke 45 = .ok (.iconst 0, 1) := by decide +kernel
theorem dX5_poke_46 : decode cX5_poke 46 = .ok (.ireturn, 1) := by decide +kernel
theorem dX5_pokeDisk_0 : decode cX5_pokeDisk 0 = .ok (.aload_n 0, 1) := by decide +kernel
theorem dX5_pokeDisk_1 : decode cX5_pokeDisk 1 = .ok (.iload_n 1, 1) := by decide +kernel
theorem dX5_pokeDisk_2 : decode cX5_pokeDisk 2 = .ok (.invokevirtual 42, 3) := by decide +kernel
theorem dX5_pokeDisk_5 : decode cX5_pokeDisk 5 = .ok (.astore 4, 2) := by decide +kernel
theorem dX5_pokeDisk_7 : decode cX5_pokeDisk 7 = .ok (.aload 4, 2) := by decide +kernel
theorem dX5_pokeDisk_9 : decode cX5_pokeDisk 9 = .ok (.ifnonnull 6, 3) := by decide +kernel
theorem dX5_pokeDisk_12 : decode cX5_pokeDisk 12 = .ok (.bipush (-14), 2) := by decide +kernel
theorem dX5_pokeDisk_14 : decode cX5_pokeDisk 14 = .ok (.ireturn, 1) := by decide +kernel
theorem dX5_pokeDisk_15 : decode cX5_pokeDisk 15 = .ok (.aload 4, 2) := by decide +kernel
theorem dX5_pokeDisk_17 : decode cX5_pokeDisk 17 = .ok (.getfield 46, 3) := by decide +kernel
theorem dX5_pokeDisk_20 : decode cX5_pokeDisk 20 = .ok (.ifCond .eq 5, 3) := by decide +kernel
theorem dX5_pokeDisk_23 : decode cX5_pokeDisk 23 = .ok (.iconst (-1), 1) := by decide +kernel
theorem dX5_pokeDisk_24 : decode cX5_pokeDisk 24 = .ok (.ireturn, 1) := by decide +kernel
theorem dX5_pokeDisk_25 : decode cX5_pokeDisk 25 = .ok (.iload_n 2, 1) := by decide +kernel
theorem dX5_pokeDisk_26 : decode cX5_pokeDisk 26 = .ok (.ifCond .lt 10, 3) := by decide +kernel
theorem dX5_pokeDisk_29 : decode cX5_pokeDisk 29 = .ok (.iload_n 2, 1) := by decide +kernel
theorem dX5_pokeDisk_30 : decode cX5_pokeDisk 30 = .ok (.sipush 1024, 3) := by decide +kernel
theorem dX5_pokeDisk_33 : decode cX5_pokeDisk 33 = .ok (.if_icmp .lt 6, 3) := by decide +kernel
theorem dX5_pokeDisk_36 : decode cX5_pokeDisk 36 = .ok (.bipush (-2), 2) := by decide +kernel
theorem dX5_pokeDisk_38 : decode cX5_pokeDisk 38 = .ok (.ireturn, 1) := by decide +kernel
theorem dX5_pokeDisk_39 : decode cX5_pokeDisk 39 = .ok (.aload 4, 2) := by decide +kernel
theorem dX5_pokeDisk_41 : decode cX5_pokeDisk 41 = .ok (.getfield 57, 3) := by decide +kernel
theorem dX5_pokeDisk_44 : decode cX5_pokeDisk 44 = .ok (.iload_n 2, 1) := by decide +kernel
theorem dX5_pokeDisk_45 : decode cX5_pokeDisk 45 = .ok (.iload_n 3, 1) := by decide +kernel
theorem dX5_pokeDisk_46 : decode cX5_pokeDisk 46 = .ok (.iastore, 1) := by decide +kernel
theorem dX5_pokeDisk_47 : decode cX5_pokeDisk 47 = .ok (.iconst 0, 1) := by decide +kernel
theorem dX5_pokeDisk_48 : decode cX5_pokeDisk 48 = .ok (.ireturn, 1) := by decide +kernel
theorem dX5_start_0 : decode cX5_start 0 = .ok (.aload_n 0, 1) := by decide +kernel
theorem dX5_start_1 : decode cX5_start 1 = .ok (.iload_n 1, 1) := by decide +kernel
theorem dX5_start_2 : decode cX5_start 2 = .ok (.invokevirtual 42, 3) := by decide +kernel
theorem dX5_start_5 : decode cX5_start 5 = .ok (.astore_n 3, 1) := by decide +kernel
theorem dX5_start_6 : decode cX5_start 6 = .ok (.aload_n 3, 1) := by decide +kernel
theorem dX5_start_7 : decode cX5_start 7 = .ok (.ifnonnull 6, 3) := by decide +kernel
theorem dX5_start_10 : decode cX5_start 10 = .ok (.bipush (-14), 2) := by decide +kernel
theorem dX5_start_12 : decode cX5_start 12 = .ok (.ireturn, 1) := by decide +kernel
theorem dX5_start_13 : decode cX5_start 13 = .ok (.aload_n 3, 1) := by decide +kernel
theorem dX5_start_14 : decode cX5_start 14 = .ok (.getfield 46, 3) := by decide +kernel
theorem dX5_start_17 : decode cX5_start 17 = .ok (.ifCond .eq 5, 3) := by decide +kernel
theorem dX5_start_20 : decode cX5_start 20 = .ok (.iconst (-1), 1) := by decide +kernel
theorem dX5_start_21 : decode cX5_start 21 = .ok (.ireturn, 1) := by decide +kernel
theorem dX5_start_22 : decode cX5_start 22 = .ok (.aload_n 3, 1) := by decide +kernel
theorem dX5_start_23 : decode cX5_start 23 = .ok (.iload_n 2, 1) := by decide +kernel
theorem dX5_start_24 : decode cX5_start 24 = .ok (.invokevirtual 60, 3) := by decide +kernel
theorem dX5_start_27 : decode cX5_start 27 = .ok (.iconst 0, 1) := by decide +kernel
theorem dX5_start_28 : decode cX5_start 28 = .ok (.ireturn, 1) := by decide +kernel
theorem dX5_stop_0 : decode cX5_stop 0 = .ok (.aload_n 0, 1) := by decide +kernel
theorem dX5_stop_1 : decode cX5_stop 1 = .ok (.iload_n 1, 1) := by decide +kernel
theorem dX5_stop_2 : decode cX5_stop 2 = .ok (.invokevirtual 42, 3) := by decide +kernel
theorem dX5_stop_5 : decode cX5_stop 5 = .ok (.ifnonnull 6, 3) := by decide +kernel
theorem dX5_stop_8 : decode cX5_stop 8 = .ok (.bipush (-14), 2) := by decide +kernel
theorem dX5_stop_10 : decode cX5_stop 10 = .ok (.ireturn, 1) := by decide +kernel
theorem dX5_stop_11 : decode cX5_stop 11 = .ok (.aload_n 0, 1) := by decide +kernel
theorem dX5_stop_12 : decode cX5_stop 12 = .ok (.iload_n 1, 1) := by decide +kernel
theorem dX5_stop_13 : decode cX5_stop 13 = .ok (.invokevirtual 42, 3) := by decide +kernel
theorem dX5_stop_16 : decode cX5_stop 16 = .ok (.iconst 0, 1) := by decide +kernel
theorem dX5_stop_17 : decode cX5_stop 17 = .ok (.putfield 46, 3) := by decide +kernel
theorem dX5_stop_20 : decode cX5_stop 20 = .ok (.iconst 0, 1) := by decide +kernel
theorem dX5_stop_21 : decode cX5_stop 21 = .ok (.ireturn, 1) := by decide +kernel
theorem dX5_input_0 : decode cX5_input 0 = .ok (.aload_n 0, 1) := by decide +kernel
theorem dX5_input_1 : decode cX5_input 1 = .ok (.iload_n 1, 1) := by decide +kernel
theorem dX5_input_2 : decode cX5_input 2 = .ok (.invokevirtual 42, 3) := by decide +kernel
theorem dX5_input_5 : decode cX5_input 5 = .ok (.astore_n 3, 1) := by decide +kernel
theorem dX5_input_6 : decode cX5_input 6 = .ok (.aload_n 3, 1) := by decide +kernel
theorem dX5_input_7 : decode cX5_input 7 = .ok (.ifnonnull 6, 3) := by decide +kernel
theorem dX5_input_10 : decode cX5_input 10 = .ok (.bipush (-14), 2) := by decide +kernel
theorem dX5_input_12 : decode cX5_input 12 = .ok (.ireturn, 1) := by decide +kernel
theorem dX5_input_13 : decode cX5_input 13 = .ok (.aload_n 3, 1) := by decide +kernel
theorem dX5_input_14 : decode cX5_input 14 = .ok (.getfield 63, 3) := by decide +kernel
theorem dX5_input_17 : decode cX5_input 17 = .ok (.bipush 64, 2) := by decide +kernel
theorem dX5_input_19 : decode cX5_input 19 = .ok (.if_icmp .ne 6, 3) := by decide +kernel
theorem dX5_input_22 : decode cX5_input 22 = .ok (.bipush (-12), 2) := by decide +kernel
theorem dX5_input_24 : decode cX5_input 24 = .ok (.ireturn, 1) := by decide +kernel
theorem dX5_input_25 : decode cX5_input 25 = .ok (.aload_n 3, 1) := by decide +kernel
theorem dX5_input_26 : decode cX5_input 26 = .ok (.getfield 66, 3) := by decide +kernel
theorem dX5_input_29 : decode cX5_input 29 = .ok (.aload_n 3, 1) := by decide +kernel
theorem dX5_input_30 : decode cX5_input 30 = .ok (.getfield 63, 3) := by decide +kernel
theorem dX5_input_33 : decode cX5_input 33 = .ok (.iload_n 2, 1) := by decide +kernel
theorem dX5_input_34 : decode cX5_input 34 = .ok (.iastore, 1) := by decide +kernel
theorem dX5_input_35 : decode cX5_input 35 = .ok (.aload_n 3, 1) := by decide +kernel
theorem dX5_input_36 : decode cX5_input 36 = .ok (.dup, 1) := by decide +kernel
theorem dX5_input_37 : decode cX5_input 37 = .ok (.getfield 63, 3) := by decide +kernel
theorem dX5_input_40 : decode cX5_input 40 = .ok (.iconst 1, 1) := by decide +kernel
theorem dX5_input_41 : decode cX5_input 41 = .ok (.iadd, 1) := by decide +kernel
theorem dX5_input_42 : decode cX5_input 42 = .ok (.putfield 63, 3) := by decide +kernel
theorem dX5_input_45 : decode cX5_input 45 = .ok (.aload_n 3, 1) := by decide +kernel
theorem dX5_input_46 : decode cX5_input 46 = .ok (.getfield 46, 3) := by decide +kernel
theorem dX5_input_49 : decode cX5_input 49 = .ok (.iconst 2, 1) := by decide +kernel
theorem dX5_input_50 : decode cX5_input 50 = .ok (.if_icmp .ne 8, 3) := by decide +kernel
theorem dX5_input_53 : decode cX5_input 53 = .ok (.aload_n 3, 1) := by decide +kernel
theorem dX5_input_54 : decode cX5_input 54 = .ok (.iconst 1, 1) := by decide +kernel
theorem dX5_input_55 : decode cX5_input 55 = .ok (.putfield 46, 3) := by decide +kernel
theorem dX5_input_58 : decode cX5_input 58 = .ok (.iconst 0, 1) := by decide +kernel
theorem dX5_input_59 : decode cX5_input 59 = .ok (.ireturn, 1) := by decide +kernel
theorem dX5_copy_0 : decode cX5_copy 0 = .ok (.aload_n 0, 1) := by decide +kernel
theorem dX5_copy_1 : decode cX5_copy 1 = .ok (.iload_n 1, 1) := by decide +kernel
theorem dX5_copy_2 : decode cX5_copy 2 = .ok (.invokevirtual 42, 3) := by decide +kernel
theorem dX5_copy_5 : decode cX5_copy 5 = .ok (.astore_n 2, 1) := by decide +kernel
theorem dX5_copy_6 : decode cX5_copy 6 = .ok (.aload_n 2, 1) := by decide +kernel
theorem dX5_copy_7 : decode cX5_copy 7 = .ok (.ifnonnull 6, 3) := by decide +kernel
theorem dX5_copy_10 : decode cX5_copy 10 = .ok (.bipush (-14), 2) := by decide +kernel
theorem dX5_copy_12 : decode cX5_copy 12 = .ok (.ireturn, 1) := by decide +kernel
theorem dX5_copy_13 : decode cX5_copy 13 = .ok (.aload_n 0, 1) := by decide +kernel
theorem dX5_copy_14 : decode cX5_copy 14 = .ok (.invokevirtual 34, 3) := by decide +kernel
theorem dX5_copy_17 : decode cX5_copy 17 = .ok (.istore_n 3, 1) := by decide +kernel
theorem dX5_copy_18 : decode cX5_copy 18 = .ok (.iload_n 3, 1) := by decide +kernel
theorem dX5_copy_19 : decode cX5_copy 19 = .ok (.ifCond .ge 5, 3) := by decide +kernel
theorem dX5_copy_22 : decode cX5_copy 22 = .ok (.iload_n 3, 1) := by decide +kernel
theorem dX5_copy_23 : decode cX5_copy 23 = .ok (.ireturn, 1) := by decide +kernel
theorem dX5_copy_24 : decode cX5_copy 24 = .ok (.aload_n 0, 1) := by decide +kernel
theorem dX5_copy_25 : decode cX5_copy 25 = .ok (.getfield 12, 3) := by decide +kernel
theorem dX5_copy_28 : decode cX5_copy 28 = .ok (.iload_n 3, 1) := by decide +kernel
theorem dX5_copy_29 : decode cX5_copy 29 = .ok (.aaload, 1) := by decide +kernel
theorem dX5_copy_30 : decode cX5_copy 30 = .ok (.aload_n 2, 1) := by decide +kernel
theorem dX5_copy_31 : decode cX5_copy 31 = .ok (.invokevirtual 69, 3) := by decide +kernel
theorem dX5_copy_34 : decode cX5_copy 34 = .ok (.iload_n 3, 1) := by decide +kernel
theorem dX5_copy_35 : decode cX5_copy 35 = .ok (.ireturn, 1) := by decide +kernel
theorem dX5_drop_0 : decode cX5_drop 0 = .ok (.aload_n 0, 1) := by decide +kernel
theorem dX5_drop_1 : decode cX5_drop 1 = .ok (.iload_n 1, 1) := by decide +kernel
theorem dX5_drop_2 : decode cX5_drop 2 = .ok (.invokevirtual 42, 3) := by decide +kernel
theorem dX5_drop_5 : decode cX5_drop 5 = .ok (.ifnonnull 6, 3) := by decide +kernel
theorem dX5_drop_8 : decode cX5_drop 8 = .ok (.bipush (-14), 2) := by decide +kernel
theorem dX5_drop_10 : decode cX5_drop 10 = .ok (.ireturn, 1) := by decide +kernel
theorem dX5_drop_11 : decode cX5_drop 11 = .ok (.aload_n 0, 1) := by decide +kernel
theorem dX5_drop_12 : decode cX5_drop 12 = .ok (.getfield 12, 3) := by decide +kernel
theorem dX5_drop_15 : decode cX5_drop 15 = .ok (.iload_n 1, 1) := by decide +kernel
theorem dX5_drop_16 : decode cX5_drop 16 = .ok (.aaload, 1) := by decide +kernel
theorem dX5_drop_17 : decode cX5_drop 17 = .ok (.iconst 0, 1) := by decide +kernel
theorem dX5_drop_18 : decode cX5_drop 18 = .ok (.putfield 24, 3) := by decide +kernel
theorem dX5_drop_21 : decode cX5_drop 21 = .ok (.iconst 0, 1) := by decide +kernel
theorem dX5_drop_22 : decode cX5_drop 22 = .ok (.ireturn, 1) := by decide +kernel
theorem dX5_isRunning_0 : decode cX5_isRunning 0 = .ok (.aload_n 0, 1) := by decide +kernel
theorem dX5_isRunning_1 : decode cX5_isRunning 1 = .ok (.getfield 12, 3) := by decide +kernel
theorem dX5_isRunning_4 : decode cX5_isRunning 4 = .ok (.iload_n 1, 1) := by decide +kernel
theorem dX5_isRunning_5 : decode cX5_isRunning 5 = .ok (.aaload, 1) := by decide +kernel
theorem dX5_isRunning_6 : decode cX5_isRunning 6 = .ok (.getfield 24, 3) := by decide +kernel
theorem dX5_isRunning_9 : decode cX5_isRunning 9 = .ok (.ifCond .eq 20, 3) := by decide +kernel
theorem dX5_isRunning_12 : decode cX5_isRunning 12 = .ok (.aload_n 0, 1) := by decide +kernel
theorem dX5_isRunning_13 : decode cX5_isRunning 13 = .ok (.getfield 12, 3) := by decide +kernel
theorem dX5_isRunning_16 : decode cX5_isRunning 16 = .ok (.iload_n 1, 1) := by decide +kernel
theorem dX5_isRunning_17 : decode cX5_isRunning 17 = .ok (.aaload, 1) := by decide +kernel
theorem dX5_isRunning_18 : decode cX5_isRunning 18 = .ok (.getfield 46, 3) := by decide +kernel
theorem dX5_isRunning_21 : decode cX5_isRunning 21 = .ok (.iconst 1, 1) := by decide +kernel
theorem dX5_isRunning_22 : decode cX5_isRunning 22 = .ok (.if_icmp .ne 7, 3) := by decide +kernel
theorem dX5_isRunning_25 : decode cX5_isRunning 25 = .ok (.iconst 1, 1) := by decide +kernel
theorem dX5_isRunning_26 : decode cX5_isRunning 26 = .ok (.goto 4, 3) := by decide +kernel
theorem dX5_isRunning_29 : decode cX5_isRunning 29 = .ok (.iconst 0, 1) := by decide +kernel
theorem dX5_isRunning_30 : decode cX5_isRunning 30 = .ok (.ireturn, 1) := by decide +kernel
theorem dX5_turn_0 : decode cX5_turn 0 = .ok (.aload_n 0, 1) := by decide +kernel
theorem dX5_turn_1 : decode cX5_turn 1 = .ok (.getfield 28, 3) := by decide +kernel
theorem dX5_turn_4 : decode cX5_turn 4 = .ok (.ifCond .eq 14, 3) := by decide +kernel
theorem dX5_turn_7 : decode cX5_turn 7 = .ok (.aload_n 0, 1) := by decide +kernel
theorem dX5_turn_8 : decode cX5_turn 8 = .ok (.aload_n 0, 1) := by decide +kernel
theorem dX5_turn_9 : decode cX5_turn 9 = .ok (.getfield 20, 3) := by decide +kernel
theorem dX5_turn_12 : decode cX5_turn 12 = .ok (.invokevirtual 73, 3) := by decide +kernel
theorem dX5_turn_15 : decode cX5_turn 15 = .ok (.ifCond .ne 57, 3) := by decide +kernel
theorem dX5_turn_18 : decode cX5_turn 18 = .ok (.aload_n 0, 1) := by decide +kernel
theorem dX5_turn_19 : decode cX5_turn 19 = .ok (.getfield 20, 3) := by decide +kernel
theorem dX5_turn_22 : decode cX5_turn 22 = .ok (.istore_n 1, 1) := by decide +kernel
theorem dX5_turn_23 : decode cX5_turn 23 = .ok (.iconst 0, 1) := by decide +kernel
theorem dX5_turn_24 : decode cX5_turn 24 = .ok (.istore_n 2, 1) := by decide +kernel
theorem dX5_turn_25 : decode cX5_turn 25 = .ok (.iload_n 1, 1) := by decide +kernel
theorem dX5_turn_26 : decode cX5_turn 26 = .ok (.iconst 1, 1) := by decide +kernel
theorem dX5_turn_27 : decode cX5_turn 27 = .ok (.iadd, 1) := by decide +kernel
theorem dX5_turn_28 : decode cX5_turn 28 = .ok (.bipush 8, 2) := by decide +kernel
theorem dX5_turn_30 : decode cX5_turn 30 = .ok (.irem, 1) := by decide +kernel
theorem dX5_turn_31 : decode cX5_turn 31 = .ok (.istore_n 1, 1) := by decide +kernel
theorem dX5_turn_32 : decode cX5_turn 32 = .ok (.iinc 2 1, 3) := by decide +kernel
theorem dX5_turn_35 : decode cX5_turn 35 = .ok (.iload_n 2, 1) := by decide +kernel
theorem dX5_turn_36 : decode cX5_turn 36 = .ok (.bipush 8, 2) := by decide +kernel
theorem dX5_turn_38 : decode cX5_turn 38 = .ok (.if_icmp .ge 11, 3) := by decide +kernel
theorem dX5_turn_41 : decode cX5_turn 41 = .ok (.aload_n 0, 1) := by decide +kernel
theorem dX5_turn_42 : decode cX5_turn 42 = .ok (.iload_n 1, 1) := by decide +kernel
theorem dX5_turn_43 : decode cX5_turn 43 = .ok (.invokevirtual 73, 3) := by decide +kernel
theorem dX5_turn_46 : decode cX5_turn 46 = .ok (.ifCond .eq (-21), 3) := by decide +kernel
theorem dX5_turn_49 : decode cX5_turn 49 = .ok (.aload_n 0, 1) := by decide +kernel
theorem dX5_turn_50 : decode cX5_turn 50 = .ok (.iload_n 1, 1) := by decide +kernel
theorem dX5_turn_51 : decode cX5_turn 51 = .ok (.invokevirtual 73, 3) := by decide +kernel
theorem dX5_turn_54 : decode cX5_turn 54 = .ok (.ifCond .ne 5, 3) := by decide +kernel
theorem dX5_turn_57 : decode cX5_turn 57 = .ok (.iconst 0, 1) := by decide +kernel
theorem dX5_turn_58 : decode cX5_turn 58 = .ok (.ireturn, 1) := by decide +kernel
theorem dX5_turn_59 : decode cX5_turn 59 = .ok (.aload_n 0, 1) := by decide +kernel
theorem dX5_turn_60 : decode cX5_turn 60 = .ok (.iload_n 1, 1) := by decide +kernel
theorem dX5_turn_61 : decode cX5_turn 61 = .ok (.putfield 20, 3) := by decide +kernel
theorem dX5_turn_64 : decode cX5_turn 64 = .ok (.aload_n 0, 1) := by decide +kernel
theorem dX5_turn_65 : decode cX5_turn 65 = .ok (.aload_n 0, 1) := by decide +kernel
theorem dX5_turn_66 : decode cX5_turn 66 = .ok (.getfield 16, 3) := by decide +kernel
theorem dX5_turn_69 : decode cX5_turn 69 = .ok (.putfield 28, 3) := by decide +kernel
theorem dX5_turn_72 : decode cX5_turn 72 = .ok (.aload_n 0, 1) := by decide +kernel
theorem dX5_turn_73 : decode cX5_turn 73 = .ok (.getfield 12, 3) := by decide +kernel
theorem dX5_turn_76 : decode cX5_turn 76 = .ok (.aload_n 0, 1) := by decide +kernel
theorem dX5_turn_77 : decode cX5_turn 77 = .ok (.getfield 20, 3) := by decide +kernel
theorem dX5_turn_80 : decode cX5_turn 80 = .ok (.aaload, 1) := by decide +kernel
theorem dX5_turn_81 : decode cX5_turn 81 = .ok (.invokevirtual 76, 3) := by decide +kernel
theorem dX5_turn_84 : decode cX5_turn 84 = .ok (.aload_n 0, 1) := by decide +kernel
theorem dX5_turn_85 : decode cX5_turn 85 = .ok (.dup, 1) := by decide +kernel
theorem dX5_turn_86 : decode cX5_turn 86 = .ok (.getfield 31, 3) := by decide +kernel
theorem dX5_turn_89 : decode cX5_turn 89 = .ok (.iconst 1, 1) := by decide +kernel
theorem dX5_turn_90 : decode cX5_turn 90 = .ok (.iadd, 1) := by decide +kernel
theorem dX5_turn_91 : decode cX5_turn 91 = .ok (.putfield 31, 3) := by decide +kernel
theorem dX5_turn_94 : decode cX5_turn 94 = .ok (.aload_n 0, 1) := by decide +kernel
theorem dX5_turn_95 : decode cX5_turn 95 = .ok (.dup, 1) := by decide +kernel
theorem dX5_turn_96 : decode cX5_turn 96 = .ok (.getfield 28, 3) := by decide +kernel
theorem dX5_turn_99 : decode cX5_turn 99 = .ok (.iconst 1, 1) := by decide +kernel
theorem dX5_turn_100 : decode cX5_turn 100 = .ok (.isub, 1) := by decide +kernel
theorem dX5_turn_101 : decode cX5_turn 101 = .ok (.putfield 28, 3) := by decide +kernel
theorem dX5_turn_104 : decode cX5_turn 104 = .ok (.iconst 1, 1) := by decide +kernel
theorem dX5_turn_105 : decode cX5_turn 105 = .ok (.ireturn, 1) := by decide +kernel
theorem dX5_run_0 : decode cX5_run 0 = .ok (.iload_n 1, 1) := by decide +kernel
theorem dX5_run_1 : decode cX5_run 1 = .ok (.ifCond .lt 10, 3) := by decide +kernel
theorem dX5_run_4 : decode cX5_run 4 = .ok (.iload_n 1, 1) := by decide +kernel
theorem dX5_run_5 : decode cX5_run 5 = .ok (.sipush 2000, 3) := by decide +kernel
theorem dX5_run_8 : decode cX5_run 8 = .ok (.if_icmp .le 5, 3) := by decide +kernel
theorem dX5_run_11 : decode cX5_run 11 = .ok (.iconst (-1), 1) := by decide +kernel
theorem dX5_run_12 : decode cX5_run 12 = .ok (.ireturn, 1) := by decide +kernel
theorem dX5_run_13 : decode cX5_run 13 = .ok (.iconst 0, 1) := by decide +kernel
theorem dX5_run_14 : decode cX5_run 14 = .ok (.istore_n 2, 1) := by decide +kernel
theorem dX5_run_15 : decode cX5_run 15 = .ok (.iload_n 2, 1) := by decide +kernel
theorem dX5_run_16 : decode cX5_run 16 = .ok (.iload_n 1, 1) := by decide +kernel
theorem dX5_run_17 : decode cX5_run 17 = .ok (.if_icmp .ge 16, 3) := by decide +kernel
theorem dX5_run_20 : decode cX5_run 20 = .ok (.aload_n 0, 1) := by decide +kernel
theorem dX5_run_21 : decode cX5_run 21 = .ok (.invokevirtual 79, 3) := by decide +kernel
theorem dX5_run_24 : decode cX5_run 24 = .ok (.ifCond .eq 9, 3) := by decide +kernel
theorem dX5_run_27 : decode cX5_run 27 = .ok (.iinc 2 1, 3) := by decide +kernel
theorem dX5_run_30 : decode cX5_run 30 = .ok (.goto (-15), 3) := by decide +kernel
theorem dX5_run_33 : decode cX5_run 33 = .ok (.iload_n 2, 1) := by decide +kernel
theorem dX5_run_34 : decode cX5_run 34 = .ok (.ireturn, 1) := by decide +kernel
theorem dX5_only_0 : decode cX5_only 0 = .ok (.aload_n 0, 1) := by decide +kernel
theorem dX5_only_1 : decode cX5_only 1 = .ok (.iload_n 1, 1) := by decide +kernel
theorem dX5_only_2 : decode cX5_only 2 = .ok (.invokevirtual 42, 3) := by decide +kernel
theorem dX5_only_5 : decode cX5_only 5 = .ok (.astore_n 3, 1) := by decide +kernel
theorem dX5_only_6 : decode cX5_only 6 = .ok (.aload_n 3, 1) := by decide +kernel
theorem dX5_only_7 : decode cX5_only 7 = .ok (.ifnonnull 6, 3) := by decide +kernel
theorem dX5_only_10 : decode cX5_only 10 = .ok (.bipush (-14), 2) := by decide +kernel
theorem dX5_only_12 : decode cX5_only 12 = .ok (.ireturn, 1) := by decide +kernel
theorem dX5_only_13 : decode cX5_only 13 = .ok (.iload_n 2, 1) := by decide +kernel
theorem dX5_only_14 : decode cX5_only 14 = .ok (.ifCond .lt 10, 3) := by decide +kernel
theorem dX5_only_17 : decode cX5_only 17 = .ok (.iload_n 2, 1) := by decide +kernel
theorem dX5_only_18 : decode cX5_only 18 = .ok (.sipush 2000, 3) := by decide +kernel
theorem dX5_only_21 : decode cX5_only 21 = .ok (.if_icmp .le 5, 3) := by decide +kernel
theorem dX5_only_24 : decode cX5_only 24 = .ok (.iconst (-1), 1) := by decide +kernel
theorem dX5_only_25 : decode cX5_only 25 = .ok (.ireturn, 1) := by decide +kernel
theorem dX5_only_26 : decode cX5_only 26 = .ok (.iconst 0, 1) := by decide +kernel
theorem dX5_only_27 : decode cX5_only 27 = .ok (.istore 4, 2) := by decide +kernel
theorem dX5_only_29 : decode cX5_only 29 = .ok (.iload 4, 2) := by decide +kernel
theorem dX5_only_31 : decode cX5_only 31 = .ok (.iload_n 2, 1) := by decide +kernel
theorem dX5_only_32 : decode cX5_only 32 = .ok (.if_icmp .ge 21, 3) := by decide +kernel
theorem dX5_only_35 : decode cX5_only 35 = .ok (.aload_n 3, 1) := by decide +kernel
theorem dX5_only_36 : decode cX5_only 36 = .ok (.getfield 46, 3) := by decide +kernel
theorem dX5_only_39 : decode cX5_only 39 = .ok (.iconst 1, 1) := by decide +kernel
theorem dX5_only_40 : decode cX5_only 40 = .ok (.if_icmp .ne 13, 3) := by decide +kernel
theorem dX5_only_43 : decode cX5_only 43 = .ok (.aload_n 3, 1) := by decide +kernel
theorem dX5_only_44 : decode cX5_only 44 = .ok (.invokevirtual 76, 3) := by decide +kernel
theorem dX5_only_47 : decode cX5_only 47 = .ok (.iinc 4 1, 3) := by decide +kernel
theorem dX5_only_50 : decode cX5_only 50 = .ok (.goto (-21), 3) := by decide +kernel
theorem dX5_only_53 : decode cX5_only 53 = .ok (.aload_n 0, 1) := by decide +kernel
theorem dX5_only_54 : decode cX5_only 54 = .ok (.dup, 1) := by decide +kernel
theorem dX5_only_55 : decode cX5_only 55 = .ok (.getfield 31, 3) := by decide +kernel
theorem dX5_only_58 : decode cX5_only 58 = .ok (.iload 4, 2) := by decide +kernel
theorem dX5_only_60 : decode cX5_only 60 = .ok (.iadd, 1) := by decide +kernel
theorem dX5_only_61 : decode cX5_only 61 = .ok (.putfield 31, 3) := by decide +kernel
theorem dX5_only_64 : decode cX5_only 64 = .ok (.iload 4, 2) := by decide +kernel
theorem dX5_only_66 : decode cX5_only 66 = .ok (.ireturn, 1) := by decide +kernel
theorem dX5_state_0 : decode cX5_state 0 = .ok (.aload_n 0, 1) := by decide +kernel
theorem dX5_state_1 : decode cX5_state 1 = .ok (.iload_n 1, 1) := by decide +kernel
theorem dX5_state_2 : decode cX5_state 2 = .ok (.invokevirtual 42, 3) := by decide +kernel
theorem dX5_state_5 : decode cX5_state 5 = .ok (.ifnonnull 8, 3) := by decide +kernel
theorem dX5_state_8 : decode cX5_state 8 = .ok (.bipush (-14), 2) := by decide +kernel
theorem dX5_state_10 : decode cX5_state 10 = .ok (.goto 11, 3) := by decide +kernel
theorem dX5_state_13 : decode cX5_state 13 = .ok (.aload_n 0, 1) := by decide +kernel
theorem dX5_state_14 : decode cX5_state 14 = .ok (.iload_n 1, 1) := by decide +kernel
theorem dX5_state_15 : decode cX5_state 15 = .ok (.invokevirtual 42, 3) := by decide +kernel
theorem dX5_state_18 : decode cX5_state 18 = .ok (.getfield 46, 3) := by decide +kernel
theorem dX5_state_21 : decode cX5_state 21 = .ok (.ireturn, 1) := by decide +kernel
theorem dX5_told_0 : decode cX5_told 0 = .ok (.aload_n 0, 1) := by decide +kernel
theorem dX5_told_1 : decode cX5_told 1 = .ok (.iload_n 1, 1) := by decide +kernel
theorem dX5_told_2 : decode cX5_told 2 = .ok (.invokevirtual 42, 3) := by decide +kernel
theorem dX5_told_5 : decode cX5_told 5 = .ok (.astore_n 3, 1) := by decide +kernel
theorem dX5_told_6 : decode cX5_told 6 = .ok (.aload_n 3, 1) := by decide +kernel
theorem dX5_told_7 : decode cX5_told 7 = .ok (.ifnull 13, 3) := by decide +kernel
theorem dX5_told_10 : decode cX5_told 10 = .ok (.iload_n 2, 1) := by decide +kernel
theorem dX5_told_11 : decode cX5_told 11 = .ok (.ifCond .lt 9, 3) := by decide +kernel
theorem dX5_told_14 : decode cX5_told 14 = .ok (.iload_n 2, 1) := by decide +kernel
theorem dX5_told_15 : decode cX5_told 15 = .ok (.bipush 23, 2) := by decide +kernel
theorem dX5_told_17 : decode cX5_told 17 = .ok (.if_icmp .le 5, 3) := by decide +kernel
theorem dX5_told_20 : decode cX5_told 20 = .ok (.iconst 0, 1) := by decide +kernel
theorem dX5_told_21 : decode cX5_told 21 = .ok (.ireturn, 1) := by decide +kernel
theorem dX5_told_22 : decode cX5_told 22 = .ok (.iload_n 2, 1) := by decide +kernel
theorem dX5_told_23 : decode cX5_told 23 = .ok (.bipush 8, 2) := by decide +kernel
theorem dX5_told_25 : decode cX5_told 25 = .ok (.if_icmp .ge 10, 3) := by decide +kernel
theorem dX5_told_28 : decode cX5_told 28 = .ok (.aload_n 3, 1) := by decide +kernel
theorem dX5_told_29 : decode cX5_told 29 = .ok (.getfield 83, 3) := by decide +kernel
theorem dX5_told_32 : decode cX5_told 32 = .ok (.iload_n 2, 1) := by decide +kernel
theorem dX5_told_33 : decode cX5_told 33 = .ok (.iaload, 1) := by decide +kernel
theorem dX5_told_34 : decode cX5_told 34 = .ok (.ireturn, 1) := by decide +kernel
theorem dX5_told_35 : decode cX5_told 35 = .ok (.iload_n 2, 1) := by decide +kernel
theorem dX5_told_36 : decode cX5_told 36 = .ok (.bipush 9, 2) := by decide +kernel
theorem dX5_told_38 : decode cX5_told 38 = .ok (.if_icmp .le 19, 3) := by decide +kernel
theorem dX5_told_41 : decode cX5_told 41 = .ok (.iload_n 2, 1) := by decide +kernel
theorem dX5_told_42 : decode cX5_told 42 = .ok (.bipush 19, 2) := by decide +kernel
theorem dX5_told_44 : decode cX5_told 44 = .ok (.if_icmp .ge 13, 3) := by decide +kernel
theorem dX5_told_47 : decode cX5_told 47 = .ok (.aload_n 3, 1) := by decide +kernel
theorem dX5_told_48 : decode cX5_told 48 = .ok (.getfield 86, 3) := by decide +kernel
theorem dX5_told_51 : decode cX5_told 51 = .ok (.iload_n 2, 1) := by decide +kernel
theorem dX5_told_52 : decode cX5_told 52 = .ok (.bipush 10, 2) := by decide +kernel
theorem dX5_told_54 : decode cX5_told 54 = .ok (.isub, 1) := by decide +kernel
theorem dX5_told_55 : decode cX5_told 55 = .ok (.iaload, 1) := by decide +kernel
theorem dX5_told_56 : decode cX5_told 56 = .ok (.ireturn, 1) := by decide +kernel
theorem dX5_told_57 : decode cX5_told 57 = .ok (.iload_n 2, 1) := by decide +kernel
theorem dX5_told_58 : decode cX5_told 58 = .ok (.tableswitch 104 8 22 #[74, 79, 104, 104, 104, 104, 104, 104, 104, 104, 104, 84, 89, 94, 99], 74) := by decide +kernel
theorem dX5_told_132 : decode cX5_told 132 = .ok (.aload_n 3, 1) := by decide +kernel
theorem dX5_told_133 : decode cX5_told 133 = .ok (.getfield 89, 3) := by decide +kernel
theorem dX5_told_136 : decode cX5_told 136 = .ok (.ireturn, 1) := by decide +kernel
theorem dX5_told_137 : decode cX5_told 137 = .ok (.aload_n 3, 1) := by decide +kernel
theorem dX5_told_138 : decode cX5_told 138 = .ok (.getfield 92, 3) := by decide +kernel
theorem dX5_told_141 : decode cX5_told 141 = .ok (.ireturn, 1) := by decide +kernel
theorem dX5_told_142 : decode cX5_told 142 = .ok (.aload_n 3, 1) := by decide +kernel
theorem dX5_told_143 : decode cX5_told 143 = .ok (.getfield 95, 3) := by decide +kernel
theorem dX5_told_146 : decode cX5_told 146 = .ok (.ireturn, 1) := by decide +kernel
theorem dX5_told_147 : decode cX5_told 147 = .ok (.aload_n 3, 1) := by decide +kernel
theorem dX5_told_148 : decode cX5_told 148 = .ok (.getfield 63, 3) := by decide +kernel
theorem dX5_told_151 : decode cX5_told 151 = .ok (.ireturn, 1) := by decide +kernel
theorem dX5_told_152 : decode cX5_told 152 = .ok (.aload_n 3, 1) := by decide +kernel
theorem dX5_told_153 : decode cX5_told 153 = .ok (.getfield 98, 3) := by decide +kernel
theorem dX5_told_156 : decode cX5_told 156 = .ok (.ireturn, 1) := by decide +kernel
theorem dX5_told_157 : decode cX5_told 157 = .ok (.aload_n 3, 1) := by decide +kernel
theorem dX5_told_158 : decode cX5_told 158 = .ok (.getfield 101, 3) := by decide +kernel
theorem dX5_told_161 : decode cX5_told 161 = .ok (.ireturn, 1) := by decide +kernel
theorem dX5_told_162 : decode cX5_told 162 = .ok (.aload_n 3, 1) := by decide +kernel
theorem dX5_told_163 : decode cX5_told 163 = .ok (.getfield 104, 3) := by decide +kernel
theorem dX5_told_166 : decode cX5_told 166 = .ok (.ireturn, 1) := by decide +kernel
theorem dX5_peek_0 : decode cX5_peek 0 = .ok (.aload_n 0, 1) := by decide +kernel
theorem dX5_peek_1 : decode cX5_peek 1 = .ok (.iload_n 1, 1) := by decide +kernel
theorem dX5_peek_2 : decode cX5_peek 2 = .ok (.invokevirtual 42, 3) := by decide +kernel
theorem dX5_peek_5 : decode cX5_peek 5 = .ok (.ifnull 28, 3) := by decide +kernel
theorem dX5_peek_8 : decode cX5_peek 8 = .ok (.aload_n 0, 1) := by decide +kernel
theorem dX5_peek_9 : decode cX5_peek 9 = .ok (.iload_n 1, 1) := by decide +kernel
theorem dX5_peek_10 : decode cX5_peek 10 = .ok (.invokevirtual 42, 3) := by decide +kernel
theorem dX5_peek_13 : decode cX5_peek 13 = .ok (.iload_n 2, 1) := by decide +kernel
theorem dX5_peek_14 : decode cX5_peek 14 = .ok (.invokevirtual 49, 3) := by decide +kernel
theorem dX5_peek_17 : decode cX5_peek 17 = .ok (.ifCond .eq 16, 3) := by decide +kernel
theorem dX5_peek_20 : decode cX5_peek 20 = .ok (.aload_n 0, 1) := by decide +kernel
theorem dX5_peek_21 : decode cX5_peek 21 = .ok (.iload_n 1, 1) := by decide +kernel
theorem dX5_peek_22 : decode cX5_peek 22 = .ok (.invokevirtual 42, 3) := by decide +kernel
theorem dX5_peek_25 : decode cX5_peek 25 = .ok (.getfield 53, 3) := by decide +kernel
theorem dX5_peek_28 : decode cX5_peek 28 = .ok (.iload_n 2, 1) := by decide +kernel
theorem dX5_peek_29 : decode cX5_peek 29 = .ok (.iaload, 1) := by decide +kernel
theorem dX5_peek_30 : decode cX5_peek 30 = .ok (.goto 4, 3) := by decide +kernel
theorem dX5_peek_33 : decode cX5_peek 33 = .ok (.iconst 0, 1) := by decide +kernel
theorem dX5_peek_34 : decode cX5_peek 34 = .ok (.ireturn, 1) := by decide +kernel
theorem dX5_disk_0 : decode cX5_disk 0 = .ok (.aload_n 0, 1) := by decide +kernel
theorem dX5_disk_1 : decode cX5_disk 1 = .ok (.iload_n 1, 1) := by decide +kernel
theorem dX5_disk_2 : decode cX5_disk 2 = .ok (.invokevirtual 42, 3) := by decide +kernel
theorem dX5_disk_5 : decode cX5_disk 5 = .ok (.ifnull 27, 3) := by decide +kernel
theorem dX5_disk_8 : decode cX5_disk 8 = .ok (.iload_n 2, 1) := by decide +kernel
theorem dX5_disk_9 : decode cX5_disk 9 = .ok (.ifCond .lt 23, 3) := by decide +kernel
theorem dX5_disk_12 : decode cX5_disk 12 = .ok (.iload_n 2, 1) := by decide +kernel
theorem dX5_disk_13 : decode cX5_disk 13 = .ok (.sipush 1024, 3) := by decide +kernel
theorem dX5_disk_16 : decode cX5_disk 16 = .ok (.if_icmp .ge 16, 3) := by decide +kernel
theorem dX5_disk_19 : decode cX5_disk 19 = .ok (.aload_n 0, 1) := by decide +kernel
theorem dX5_disk_20 : decode cX5_disk 20 = .ok (.iload_n 1, 1) := by decide +kernel
theorem dX5_disk_21 : decode cX5_disk 21 = .ok (.invokevirtual 42, 3) := by decide +kernel
theorem dX5_disk_24 : decode cX5_disk 24 = .ok (.getfield 57, 3) := by decide +kernel
theorem dX5_disk_27 : decode cX5_disk 27 = .ok (.iload_n 2, 1) := by decide +kernel
theorem dX5_disk_28 : decode cX5_disk 28 = .ok (.iaload, 1) := by decide +kernel
theorem dX5_disk_29 : decode cX5_disk 29 = .ok (.goto 4, 3) := by decide +kernel
theorem dX5_disk_32 : decode cX5_disk 32 = .ok (.iconst 0, 1) := by decide +kernel
theorem dX5_disk_33 : decode cX5_disk 33 = .ok (.ireturn, 1) := by decide +kernel
theorem dX5_out_0 : decode cX5_out 0 = .ok (.aload_n 0, 1) := by decide +kernel
theorem dX5_out_1 : decode cX5_out 1 = .ok (.iload_n 1, 1) := by decide +kernel
theorem dX5_out_2 : decode cX5_out 2 = .ok (.invokevirtual 42, 3) := by decide +kernel
theorem dX5_out_5 : decode cX5_out 5 = .ok (.ifnull 39, 3) := by decide +kernel
theorem dX5_out_8 : decode cX5_out 8 = .ok (.iload_n 2, 1) := by decide +kernel
theorem dX5_out_9 : decode cX5_out 9 = .ok (.ifCond .lt 35, 3) := by decide +kernel
theorem dX5_out_12 : decode cX5_out 12 = .ok (.iload_n 2, 1) := by decide +kernel
theorem dX5_out_13 : decode cX5_out 13 = .ok (.sipush 1000, 3) := by decide +kernel
theorem dX5_out_16 : decode cX5_out 16 = .ok (.if_icmp .ge 28, 3) := by decide +kernel
theorem dX5_out_19 : decode cX5_out 19 = .ok (.iload_n 2, 1) := by decide +kernel
theorem dX5_out_20 : decode cX5_out 20 = .ok (.aload_n 0, 1) := by decide +kernel
theorem dX5_out_21 : decode cX5_out 21 = .ok (.iload_n 1, 1) := by decide +kernel
theorem dX5_out_22 : decode cX5_out 22 = .ok (.invokevirtual 42, 3) := by decide +kernel
theorem dX5_out_25 : decode cX5_out 25 = .ok (.getfield 98, 3) := by decide +kernel
theorem dX5_out_28 : decode cX5_out 28 = .ok (.if_icmp .ge 16, 3) := by decide +kernel
theorem dX5_out_31 : decode cX5_out 31 = .ok (.aload_n 0, 1) := by decide +kernel
theorem dX5_out_32 : decode cX5_out 32 = .ok (.iload_n 1, 1) := by decide +kernel
theorem dX5_out_33 : decode cX5_out 33 = .ok (.invokevirtual 42, 3) := by decide +kernel
theorem dX5_out_36 : decode cX5_out 36 = .ok (.getfield 107, 3) := by decide +kernel
theorem dX5_out_39 : decode cX5_out 39 = .ok (.iload_n 2, 1) := by decide +kernel
theorem dX5_out_40 : decode cX5_out 40 = .ok (.iaload, 1) := by decide +kernel
theorem dX5_out_41 : decode cX5_out 41 = .ok (.goto 4, 3) := by decide +kernel
theorem dX5_out_44 : decode cX5_out 44 = .ok (.iconst 0, 1) := by decide +kernel
theorem dX5_out_45 : decode cX5_out 45 = .ok (.ireturn, 1) := by decide +kernel
theorem dX5_cached_0 : decode cX5_cached 0 = .ok (.aload_n 0, 1) := by decide +kernel
theorem dX5_cached_1 : decode cX5_cached 1 = .ok (.iload_n 1, 1) := by decide +kernel
theorem dX5_cached_2 : decode cX5_cached 2 = .ok (.invokevirtual 42, 3) := by decide +kernel
theorem dX5_cached_5 : decode cX5_cached 5 = .ok (.ifnull 27, 3) := by decide +kernel
theorem dX5_cached_8 : decode cX5_cached 8 = .ok (.iload_n 2, 1) := by decide +kernel
theorem dX5_cached_9 : decode cX5_cached 9 = .ok (.ifCond .lt 23, 3) := by decide +kernel
theorem dX5_cached_12 : decode cX5_cached 12 = .ok (.iload_n 2, 1) := by decide +kernel
theorem dX5_cached_13 : decode cX5_cached 13 = .ok (.sipush 256, 3) := by decide +kernel
theorem dX5_cached_16 : decode cX5_cached 16 = .ok (.if_icmp .ge 16, 3) := by decide +kernel
theorem dX5_cached_19 : decode cX5_cached 19 = .ok (.aload_n 0, 1) := by decide +kernel
theorem dX5_cached_20 : decode cX5_cached 20 = .ok (.iload_n 1, 1) := by decide +kernel
theorem dX5_cached_21 : decode cX5_cached 21 = .ok (.invokevirtual 42, 3) := by decide +kernel
theorem dX5_cached_24 : decode cX5_cached 24 = .ok (.getfield 110, 3) := by decide +kernel
theorem dX5_cached_27 : decode cX5_cached 27 = .ok (.iload_n 2, 1) := by decide +kernel
theorem dX5_cached_28 : decode cX5_cached 28 = .ok (.iaload, 1) := by decide +kernel
theorem dX5_cached_29 : decode cX5_cached 29 = .ok (.ifCond .ge 5, 3) := by decide +kernel
theorem dX5_cached_32 : decode cX5_cached 32 = .ok (.iconst (-1), 1) := by decide +kernel
theorem dX5_cached_33 : decode cX5_cached 33 = .ok (.ireturn, 1) := by decide +kernel
theorem dX5_cached_34 : decode cX5_cached 34 = .ok (.bipush 8, 2) := by decide +kernel
theorem dX5_cached_36 : decode cX5_cached 36 = .ok (.aload_n 0, 1) := by decide +kernel
theorem dX5_cached_37 : decode cX5_cached 37 = .ok (.iload_n 1, 1) := by decide +kernel
theorem dX5_cached_38 : decode cX5_cached 38 = .ok (.invokevirtual 42, 3) := by decide +kernel
theorem dX5_cached_41 : decode cX5_cached 41 = .ok (.getfield 110, 3) := by decide +kernel
theorem dX5_cached_44 : decode cX5_cached 44 = .ok (.iload_n 2, 1) := by decide +kernel
theorem dX5_cached_45 : decode cX5_cached 45 = .ok (.iaload, 1) := by decide +kernel
theorem dX5_cached_46 : decode cX5_cached 46 = .ok (.imul, 1) := by decide +kernel
theorem dX5_cached_47 : decode cX5_cached 47 = .ok (.aload_n 0, 1) := by decide +kernel
theorem dX5_cached_48 : decode cX5_cached 48 = .ok (.iload_n 1, 1) := by decide +kernel
theorem dX5_cached_49 : decode cX5_cached 49 = .ok (.invokevirtual 42, 3) := by decide +kernel
theorem dX5_cached_52 : decode cX5_cached 52 = .ok (.getfield 113, 3) := by decide +kernel
theorem dX5_cached_55 : decode cX5_cached 55 = .ok (.iload_n 2, 1) := by decide +kernel
theorem dX5_cached_56 : decode cX5_cached 56 = .ok (.iaload, 1) := by decide +kernel
theorem dX5_cached_57 : decode cX5_cached 57 = .ok (.iadd, 1) := by decide +kernel
theorem dX5_cached_58 : decode cX5_cached 58 = .ok (.ireturn, 1) := by decide +kernel
theorem dX5_house_0 : decode cX5_house 0 = .ok (.iconst 0, 1) := by decide +kernel
theorem dX5_house_1 : decode cX5_house 1 = .ok (.istore_n 2, 1) := by decide +kernel
theorem dX5_house_2 : decode cX5_house 2 = .ok (.iconst 0, 1) := by decide +kernel
theorem dX5_house_3 : decode cX5_house 3 = .ok (.istore_n 3, 1) := by decide +kernel
theorem dX5_house_4 : decode cX5_house 4 = .ok (.iload_n 3, 1) := by decide +kernel
theorem dX5_house_5 : decode cX5_house 5 = .ok (.bipush 8, 2) := by decide +kernel
theorem dX5_house_7 : decode cX5_house 7 = .ok (.if_icmp .ge 24, 3) := by decide +kernel
theorem dX5_house_10 : decode cX5_house 10 = .ok (.aload_n 0, 1) := by decide +kernel
theorem dX5_house_11 : decode cX5_house 11 = .ok (.getfield 12, 3) := by decide +kernel
theorem dX5_house_14 : decode cX5_house 14 = .ok (.iload_n 3, 1) := by decide +kernel
theorem dX5_house_15 : decode cX5_house 15 = .ok (.aaload, 1) := by decide +kernel
theorem dX5_house_16 : decode cX5_house 16 = .ok (.getfield 24, 3) := by decide +kernel
theorem dX5_house_19 : decode cX5_house 19 = .ok (.ifCond .eq 6, 3) := by decide +kernel
theorem dX5_house_22 : decode cX5_house 22 = .ok (.iinc 2 1, 3) := by decide +kernel
theorem dX5_house_25 : decode cX5_house 25 = .ok (.iinc 3 1, 3) := by decide +kernel
theorem dX5_house_28 : decode cX5_house 28 = .ok (.goto (-24), 3) := by decide +kernel
theorem dX5_house_31 : decode cX5_house 31 = .ok (.iload_n 1, 1) := by decide +kernel
theorem dX5_house_32 : decode cX5_house 32 = .ok (.ifCond .ne 10, 3) := by decide +kernel
theorem dX5_house_35 : decode cX5_house 35 = .ok (.aload_n 0, 1) := by decide +kernel
theorem dX5_house_36 : decode cX5_house 36 = .ok (.getfield 20, 3) := by decide +kernel
theorem dX5_house_39 : decode cX5_house 39 = .ok (.goto 37, 3) := by decide +kernel
theorem dX5_house_42 : decode cX5_house 42 = .ok (.iload_n 1, 1) := by decide +kernel
theorem dX5_house_43 : decode cX5_house 43 = .ok (.iconst 1, 1) := by decide +kernel
theorem dX5_house_44 : decode cX5_house 44 = .ok (.if_icmp .ne 10, 3) := by decide +kernel
theorem dX5_house_47 : decode cX5_house 47 = .ok (.aload_n 0, 1) := by decide +kernel
theorem dX5_house_48 : decode cX5_house 48 = .ok (.getfield 28, 3) := by decide +kernel
theorem dX5_house_51 : decode cX5_house 51 = .ok (.goto 25, 3) := by decide +kernel
theorem dX5_house_54 : decode cX5_house 54 = .ok (.iload_n 1, 1) := by decide +kernel
theorem dX5_house_55 : decode cX5_house 55 = .ok (.iconst 2, 1) := by decide +kernel
theorem dX5_house_56 : decode cX5_house 56 = .ok (.if_icmp .ne 7, 3) := by decide +kernel
theorem dX5_house_59 : decode cX5_house 59 = .ok (.iload_n 2, 1) := by decide +kernel
theorem dX5_house_60 : decode cX5_house 60 = .ok (.goto 16, 3) := by decide +kernel
theorem dX5_house_63 : decode cX5_house 63 = .ok (.iload_n 1, 1) := by decide +kernel
theorem dX5_house_64 : decode cX5_house 64 = .ok (.iconst 3, 1) := by decide +kernel
theorem dX5_house_65 : decode cX5_house 65 = .ok (.if_icmp .ne 10, 3) := by decide +kernel
theorem dX5_house_68 : decode cX5_house 68 = .ok (.aload_n 0, 1) := by decide +kernel
theorem dX5_house_69 : decode cX5_house 69 = .ok (.getfield 31, 3) := by decide +kernel
theorem dX5_house_72 : decode cX5_house 72 = .ok (.goto 4, 3) := by decide +kernel
theorem dX5_house_75 : decode cX5_house 75 = .ok (.iconst 0, 1) := by decide +kernel
theorem dX5_house_76 : decode cX5_house 76 = .ok (.ireturn, 1) := by decide +kernel
theorem dX5_audit_0 : decode cX5_audit 0 = .ok (.iconst 0, 1) := by decide +kernel
theorem dX5_audit_1 : decode cX5_audit 1 = .ok (.ireturn, 1) := by decide +kernel
end
section
theorem dJ9_abs_0f7a4_0 : decode cJ9_abs_0f7a4 0 = .ok (.iload_n 0, 1) := by decide +kernel
theorem dJ9_abs_0f7a4_1 : decode cJ9_abs_0f7a4 1 = .ok (.ifCond .ge 8, 3) := by decide +kernel
theorem dJ9_abs_0f7a4_4 : decode cJ9_abs_0f7a4 4 = .ok (.iload_n 0, 1) := by decide +kernel
theorem dJ9_abs_0f7a4_5 : decode cJ9_abs_0f7a4 5 = .ok (.ineg, 1) := by decide +kernel
theorem dJ9_abs_0f7a4_6 : decode cJ9_abs_0f7a4 6 = .ok (.goto 4, 3) := by decide +kernel
theorem dJ9_abs_0f7a4_9 : decode cJ9_abs_0f7a4 9 = .ok (.iload_n 0, 1) := by decide +kernel
theorem dJ9_abs_0f7a4_10 : decode cJ9_abs_0f7a4 10 = .ok (.ireturn, 1) := by decide +kernel
theorem dJ9_max_7cf53_0 : decode cJ9_max_7cf53 0 = .ok (.iload_n 0, 1) := by decide +kernel
theorem dJ9_max_7cf53_1 : decode cJ9_max_7cf53 1 = .ok (.iload_n 1, 1) := by decide +kernel
theorem dJ9_max_7cf53_2 : decode cJ9_max_7cf53 2 = .ok (.if_icmp .lt 7, 3) := by decide +kernel
theorem dJ9_max_7cf53_5 : decode cJ9_max_7cf53 5 = .ok (.iload_n 0, 1) := by decide +kernel
theorem dJ9_max_7cf53_6 : decode cJ9_max_7cf53 6 = .ok (.goto 4, 3) := by decide +kernel
theorem dJ9_max_7cf53_9 : decode cJ9_max_7cf53 9 = .ok (.iload_n 1, 1) := by decide +kernel
theorem dJ9_max_7cf53_10 : decode cJ9_max_7cf53 10 = .ok (.ireturn, 1) := by decide +kernel
theorem dJ9_min_7cf53_0 : decode cJ9_min_7cf53 0 = .ok (.iload_n 0, 1) := by decide +kernel
theorem dJ9_min_7cf53_1 : decode cJ9_min_7cf53 1 = .ok (.iload_n 1, 1) := by decide +kernel
theorem dJ9_min_7cf53_2 : decode cJ9_min_7cf53 2 = .ok (.if_icmp .gt 7, 3) := by decide +kernel
theorem dJ9_min_7cf53_5 : decode cJ9_min_7cf53 5 = .ok (.iload_n 0, 1) := by decide +kernel
theorem dJ9_min_7cf53_6 : decode cJ9_min_7cf53 6 = .ok (.goto 4, 3) := by decide +kernel
theorem dJ9_min_7cf53_9 : decode cJ9_min_7cf53 9 = .ok (.iload_n 1, 1) := by decide +kernel
theorem dJ9_min_7cf53_10 : decode cJ9_min_7cf53 10 = .ok (.ireturn, 1) := by decide +kernel
end
section
theorem dJ7_fill_53178_0 : decode cJ7_fill_53178 0 = .ok (.iconst 0, 1) := by decide +kernel
theorem dJ7_fill_53178_1 : decode cJ7_fill_53178 1 = .ok (.istore_n 2, 1) := by decide +kernel
theorem dJ7_fill_53178_2 : decode cJ7_fill_53178 2 = .ok (.aload_n 0, 1) := by decide +kernel
theorem dJ7_fill_53178_3 : decode cJ7_fill_53178 3 = .ok (.arraylength, 1) := by decide +kernel
theorem dJ7_fill_53178_4 : decode cJ7_fill_53178 4 = .ok (.istore_n 3, 1) := by decide +kernel
theorem dJ7_fill_53178_5 : decode cJ7_fill_53178 5 = .ok (.iload_n 2, 1) := by decide +kernel
theorem dJ7_fill_53178_6 : decode cJ7_fill_53178 6 = .ok (.iload_n 3, 1) := by decide +kernel
theorem dJ7_fill_53178_7 : decode cJ7_fill_53178 7 = .ok (.if_icmp .ge 13, 3) := by decide +kernel
theorem dJ7_fill_53178_10 : decode cJ7_fill_53178 10 = .ok (.aload_n 0, 1) := by decide +kernel
theorem dJ7_fill_53178_11 : decode cJ7_fill_53178 11 = .ok (.iload_n 2, 1) := by decide +kernel
theorem dJ7_fill_53178_12 : decode cJ7_fill_53178 12 = .ok (.iload_n 1, 1) := by decide +kernel
theorem dJ7_fill_53178_13 : decode cJ7_fill_53178 13 = .ok (.iastore, 1) := by decide +kernel
theorem dJ7_fill_53178_14 : decode cJ7_fill_53178 14 = .ok (.iinc 2 1, 3) := by decide +kernel
theorem dJ7_fill_53178_17 : decode cJ7_fill_53178 17 = .ok (.goto (-12), 3) := by decide +kernel
theorem dJ7_fill_53178_20 : decode cJ7_fill_53178 20 = .ok (.return_, 1) := by decide +kernel
theorem dJ7_copyOf_59c91_0 : decode cJ7_copyOf_59c91 0 = .ok (.iload_n 1, 1) := by decide +kernel
theorem dJ7_copyOf_59c91_1 : decode cJ7_copyOf_59c91 1 = .ok (.aload_n 0, 1) := by decide +kernel
theorem dJ7_copyOf_59c91_2 : decode cJ7_copyOf_59c91 2 = .ok (.arraylength, 1) := by decide +kernel
theorem dJ7_copyOf_59c91_3 : decode cJ7_copyOf_59c91 3 = .ok (.if_icmp .ne 11, 3) := by decide +kernel
theorem dJ7_copyOf_59c91_6 : decode cJ7_copyOf_59c91 6 = .ok (.aload_n 0, 1) := by decide +kernel
theorem dJ7_copyOf_59c91_7 : decode cJ7_copyOf_59c91 7 = .ok (.invokevirtual 316, 3) := by decide +kernel
theorem dJ7_copyOf_59c91_10 : decode cJ7_copyOf_59c91 10 = .ok (.checkcast 317, 3) := by decide +kernel
theorem dJ7_copyOf_59c91_13 : decode cJ7_copyOf_59c91 13 = .ok (.areturn, 1) := by decide +kernel
theorem dJ7_copyOf_59c91_14 : decode cJ7_copyOf_59c91 14 = .ok (.iload_n 1, 1) := by decide +kernel
theorem dJ7_copyOf_59c91_15 : decode cJ7_copyOf_59c91 15 = .ok (.newarray .int, 2) := by decide +kernel
theorem dJ7_copyOf_59c91_17 : decode cJ7_copyOf_59c91 17 = .ok (.astore_n 2, 1) := by decide +kernel
theorem dJ7_copyOf_59c91_18 : decode cJ7_copyOf_59c91 18 = .ok (.aload_n 0, 1) := by decide +kernel
theorem dJ7_copyOf_59c91_19 : decode cJ7_copyOf_59c91 19 = .ok (.iconst 0, 1) := by decide +kernel
theorem dJ7_copyOf_59c91_20 : decode cJ7_copyOf_59c91 20 = .ok (.aload_n 2, 1) := by decide +kernel
theorem dJ7_copyOf_59c91_21 : decode cJ7_copyOf_59c91 21 = .ok (.iconst 0, 1) := by decide +kernel
theorem dJ7_copyOf_59c91_22 : decode cJ7_copyOf_59c91 22 = .ok (.aload_n 0, 1) := by decide +kernel
theorem dJ7_copyOf_59c91_23 : decode cJ7_copyOf_59c91 23 = .ok (.arraylength, 1) := by decide +kernel
theorem dJ7_copyOf_59c91_24 : decode cJ7_copyOf_59c91 24 = .ok (.iload_n 1, 1) := by decide +kernel
theorem dJ7_copyOf_59c91_25 : decode cJ7_copyOf_59c91 25 = .ok (.invokestatic 304, 3) := by decide +kernel
theorem dJ7_copyOf_59c91_28 : decode cJ7_copyOf_59c91 28 = .ok (.invokestatic 150, 3) := by decide +kernel
theorem dJ7_copyOf_59c91_31 : decode cJ7_copyOf_59c91 31 = .ok (.aload_n 2, 1) := by decide +kernel
theorem dJ7_copyOf_59c91_32 : decode cJ7_copyOf_59c91 32 = .ok (.areturn, 1) := by decide +kernel
end
section
theorem dL_law_0 : decode cL_law 0 = .ok (.new 7, 3) := by decide +kernel
theorem dL_law_3 : decode cL_law 3 = .ok (.dup, 1) := by decide +kernel
theorem dL_law_4 : decode cL_law 4 = .ok (.invokespecial 9, 3) := by decide +kernel
theorem dL_law_7 : decode cL_law 7 = .ok (.astore_n 1, 1) := by decide +kernel
theorem dL_law_8 : decode cL_law 8 = .ok (.new 10, 3) := by decide +kernel
theorem dL_law_11 : decode cL_law 11 = .ok (.dup, 1) := by decide +kernel
theorem dL_law_12 : decode cL_law 12 = .ok (.invokespecial 12, 3) := by decide +kernel
theorem dL_law_15 : decode cL_law 15 = .ok (.astore_n 2, 1) := by decide +kernel
theorem dL_law_16 : decode cL_law 16 = .ok (.iconst 0, 1) := by decide +kernel
theorem dL_law_17 : decode cL_law 17 = .ok (.istore_n 3, 1) := by decide +kernel
theorem dL_law_18 : decode cL_law 18 = .ok (.iload_n 3, 1) := by decide +kernel
theorem dL_law_19 : decode cL_law 19 = .ok (.aload_n 0, 1) := by decide +kernel
theorem dL_law_20 : decode cL_law 20 = .ok (.arraylength, 1) := by decide +kernel
theorem dL_law_21 : decode cL_law 21 = .ok (.iconst 4, 1) := by decide +kernel
theorem dL_law_22 : decode cL_law 22 = .ok (.isub, 1) := by decide +kernel
theorem dL_law_23 : decode cL_law 23 = .ok (.if_icmp .gt 664, 3) := by decide +kernel
theorem dL_law_26 : decode cL_law 26 = .ok (.aload_n 0, 1) := by decide +kernel
theorem dL_law_27 : decode cL_law 27 = .ok (.iload_n 3, 1) := by decide +kernel
theorem dL_law_28 : decode cL_law 28 = .ok (.iaload, 1) := by decide +kernel
theorem dL_law_29 : decode cL_law 29 = .ok (.bipush 31, 2) := by decide +kernel
theorem dL_law_31 : decode cL_law 31 = .ok (.iand, 1) := by decide +kernel
theorem dL_law_32 : decode cL_law 32 = .ok (.tableswitch 649 0 18 #[92, 125, 148, 191, 234, 267, 290, 323, 346, 369, 392, 425, 448, 481, 514, 547, 580, 613, 636], 92) := by decide +kernel
theorem dL_law_124 : decode cL_law 124 = .ok (.aload_n 1, 1) := by decide +kernel
theorem dL_law_125 : decode cL_law 125 = .ok (.aload_n 0, 1) := by decide +kernel
theorem dL_law_126 : decode cL_law 126 = .ok (.iload_n 3, 1) := by decide +kernel
theorem dL_law_127 : decode cL_law 127 = .ok (.iconst 1, 1) := by decide +kernel
theorem dL_law_128 : decode cL_law 128 = .ok (.iadd, 1) := by decide +kernel
theorem dL_law_129 : decode cL_law 129 = .ok (.iaload, 1) := by decide +kernel
theorem dL_law_130 : decode cL_law 130 = .ok (.aload_n 0, 1) := by decide +kernel
theorem dL_law_131 : decode cL_law 131 = .ok (.iload_n 3, 1) := by decide +kernel
theorem dL_law_132 : decode cL_law 132 = .ok (.iconst 2, 1) := by decide +kernel
theorem dL_law_133 : decode cL_law 133 = .ok (.iadd, 1) := by decide +kernel
theorem dL_law_134 : decode cL_law 134 = .ok (.iaload, 1) := by decide +kernel
theorem dL_law_135 : decode cL_law 135 = .ok (.invokevirtual 13, 3) := by decide +kernel
theorem dL_law_138 : decode cL_law 138 = .ok (.aload_n 2, 1) := by decide +kernel
theorem dL_law_139 : decode cL_law 139 = .ok (.aload_n 0, 1) := by decide +kernel
theorem dL_law_140 : decode cL_law 140 = .ok (.iload_n 3, 1) := by decide +kernel
theorem dL_law_141 : decode cL_law 141 = .ok (.iconst 1, 1) := by decide +kernel
theorem dL_law_142 : decode cL_law 142 = .ok (.iadd, 1) := by decide +kernel
theorem dL_law_143 : decode cL_law 143 = .ok (.iaload, 1) := by decide +kernel
theorem dL_law_144 : decode cL_law 144 = .ok (.aload_n 0, 1) := by decide +kernel
theorem dL_law_145 : decode cL_law 145 = .ok (.iload_n 3, 1) := by decide +kernel
theorem dL_law_146 : decode cL_law 146 = .ok (.iconst 2, 1) := by decide +kernel
theorem dL_law_147 : decode cL_law 147 = .ok (.iadd, 1) := by decide +kernel
theorem dL_law_148 : decode cL_law 148 = .ok (.iaload, 1) := by decide +kernel
theorem dL_law_149 : decode cL_law 149 = .ok (.invokevirtual 17, 3) := by decide +kernel
theorem dL_law_152 : decode cL_law 152 = .ok (.if_icmp .eq 529, 3) := by decide +kernel
theorem dL_law_155 : decode cL_law 155 = .ok (.iconst 0, 1) := by decide +kernel
theorem dL_law_156 : decode cL_law 156 = .ok (.ireturn, 1) := by decide +kernel
theorem dL_law_157 : decode cL_law 157 = .ok (.aload_n 1, 1) := by decide +kernel
theorem dL_law_158 : decode cL_law 158 = .ok (.aload_n 0, 1) := by decide +kernel
theorem dL_law_159 : decode cL_law 159 = .ok (.iload_n 3, 1) := by decide +kernel
theorem dL_law_160 : decode cL_law 160 = .ok (.iconst 1, 1) := by decide +kernel
theorem dL_law_161 : decode cL_law 161 = .ok (.iadd, 1) := by decide +kernel
theorem dL_law_162 : decode cL_law 162 = .ok (.iaload, 1) := by decide +kernel
theorem dL_law_163 : decode cL_law 163 = .ok (.invokevirtual 18, 3) := by decide +kernel
theorem dL_law_166 : decode cL_law 166 = .ok (.aload_n 2, 1) := by decide +kernel
theorem dL_law_167 : decode cL_law 167 = .ok (.aload_n 0, 1) := by decide +kernel
theorem dL_law_168 : decode cL_law 168 = .ok (.iload_n 3, 1) := by decide +kernel
theorem dL_law_169 : decode cL_law 169 = .ok (.iconst 1, 1) := by decide +kernel
theorem dL_law_170 : decode cL_law 170 = .ok (.iadd, 1) := by decide +kernel
theorem dL_law_171 : decode cL_law 171 = .ok (.iaload, 1) := by decide +kernel
theorem dL_law_172 : decode cL_law 172 = .ok (.invokevirtual 22, 3) := by decide +kernel
theorem dL_law_175 : decode cL_law 175 = .ok (.if_icmp .eq 506, 3) := by decide +kernel
theorem dL_law_178 : decode cL_law 178 = .ok (.iconst 0, 1) := by decide +kernel
theorem dL_law_179 : decode cL_law 179 = .ok (.ireturn, 1) := by decide +kernel
theorem dL_law_180 : decode cL_law 180 = .ok (.aload_n 1, 1) := by decide +kernel
theorem dL_law_181 : decode cL_law 181 = .ok (.aload_n 0, 1) := by decide +kernel
theorem dL_law_182 : decode cL_law 182 = .ok (.iload_n 3, 1) := by decide +kernel
theorem dL_law_183 : decode cL_law 183 = .ok (.iconst 1, 1) := by decide +kernel
theorem dL_law_184 : decode cL_law 184 = .ok (.iadd, 1) := by decide +kernel
theorem dL_law_185 : decode cL_law 185 = .ok (.iaload, 1) := by decide +kernel
theorem dL_law_186 : decode cL_law 186 = .ok (.aload_n 0, 1) := by decide +kernel
theorem dL_law_187 : decode cL_law 187 = .ok (.iload_n 3, 1) := by decide +kernel
theorem dL_law_188 : decode cL_law 188 = .ok (.iconst 2, 1) := by decide +kernel
theorem dL_law_189 : decode cL_law 189 = .ok (.iadd, 1) := by decide +kernel
theorem dL_law_190 : decode cL_law 190 = .ok (.iaload, 1) := by decide +kernel
theorem dL_law_191 : decode cL_law 191 = .ok (.aload_n 0, 1) := by decide +kernel
theorem dL_law_192 : decode cL_law 192 = .ok (.iload_n 3, 1) := by decide +kernel
theorem dL_law_193 : decode cL_law 193 = .ok (.iconst 3, 1) := by decide +kernel
theorem dL_law_194 : decode cL_law 194 = .ok (.iadd, 1) := by decide +kernel
theorem dL_law_195 : decode cL_law 195 = .ok (.iaload, 1) := by decide +kernel
theorem dL_law_196 : decode cL_law 196 = .ok (.invokevirtual 23, 3) := by decide +kernel
theorem dL_law_199 : decode cL_law 199 = .ok (.aload_n 2, 1) := by decide +kernel
theorem dL_law_200 : decode cL_law 200 = .ok (.aload_n 0, 1) := by decide +kernel
theorem dL_law_201 : decode cL_law 201 = .ok (.iload_n 3, 1) := by decide +kernel
theorem dL_law_202 : decode cL_law 202 = .ok (.iconst 1, 1) := by decide +kernel
theorem dL_law_203 : decode cL_law 203 = .ok (.iadd, 1) := by decide +kernel
theorem dL_law_204 : decode cL_law 204 = .ok (.iaload, 1) := by decide +kernel
theorem dL_law_205 : decode cL_law 205 = .ok (.aload_n 0, 1) := by decide +kernel
theorem dL_law_206 : decode cL_law 206 = .ok (.iload_n 3, 1) := by decide +kernel
theorem dL_law_207 : decode cL_law 207 = .ok (.iconst 2, 1) := by decide +kernel
theorem dL_law_208 : decode cL_law 208 = .ok (.iadd, 1) := by decide +kernel
theorem dL_law_209 : decode cL_law 209 = .ok (.iaload, 1) := by decide +kernel
theorem dL_law_210 : decode cL_law 210 = .ok (.aload_n 0, 1) := by decide +kernel
theorem dL_law_211 : decode cL_law 211 = .ok (.iload_n 3, 1) := by decide +kernel
theorem dL_law_212 : decode cL_law 212 = .ok (.iconst 3, 1) := by decide +kernel
theorem dL_law_213 : decode cL_law 213 = .ok (.iadd, 1) := by decide +kernel
theorem dL_law_214 : decode cL_law 214 = .ok (.iaload, 1) := by decide +kernel
theorem dL_law_215 : decode cL_law 215 = .ok (.invokevirtual 27, 3) := by decide +kernel
theorem dL_law_218 : decode cL_law 218 = .ok (.if_icmp .eq 463, 3) := by decide +kernel
theorem dL_law_221 : decode cL_law 221 = .ok (.iconst 0, 1) := by decide +kernel
theorem dL_law_222 : decode cL_law 222 = .ok (.ireturn, 1) := by decide +kernel
theorem dL_law_223 : decode cL_law 223 = .ok (.aload_n 1, 1) := by decide +kernel
theorem dL_law_224 : decode cL_law 224 = .ok (.aload_n 0, 1) := by decide +kernel
theorem dL_law_225 : decode cL_law 225 = .ok (.iload_n 3, 1) := by decide +kernel
theorem dL_law_226 : decode cL_law 226 = .ok (.iconst 1, 1) := by decide +kernel
theorem dL_law_227 : decode cL_law 227 = .ok (.iadd, 1) := by decide +kernel
theorem dL_law_228 : decode cL_law 228 = .ok (.iaload, 1) := by decide +kernel
theorem dL_law_229 : decode cL_law 229 = .ok (.aload_n 0, 1) := by decide +kernel
theorem dL_law_230 : decode cL_law 230 = .ok (.iload_n 3, 1) := by decide +kernel
theorem dL_law_231 : decode cL_law 231 = .ok (.iconst 2, 1) := by decide +kernel
theorem dL_law_232 : decode cL_law 232 = .ok (.iadd, 1) := by decide +kernel
theorem dL_law_233 : decode cL_law 233 = .ok (.iaload, 1) := by decide +kernel
theorem dL_law_234 : decode cL_law 234 = .ok (.aload_n 0, 1) := by decide +kernel
theorem dL_law_235 : decode cL_law 235 = .ok (.iload_n 3, 1) := by decide +kernel
theorem dL_law_236 : decode cL_law 236 = .ok (.iconst 3, 1) := by decide +kernel
theorem dL_law_237 : decode cL_law 237 = .ok (.iadd, 1) := by decide +kernel
theorem dL_law_238 : decode cL_law 238 = .ok (.iaload, 1) := by decide +kernel
theorem dL_law_239 : decode cL_law 239 = .ok (.invokevirtual 28, 3) := by decide +kernel
theorem dL_law_242 : decode cL_law 242 = .ok (.aload_n 2, 1) := by decide +kernel
theorem dL_law_243 : decode cL_law 243 = .ok (.aload_n 0, 1) := by decide +kernel
theorem dL_law_244 : decode cL_law 244 = .ok (.iload_n 3, 1) := by decide +kernel
theorem dL_law_245 : decode cL_law 245 = .ok (.iconst 1, 1) := by decide +kernel
theorem dL_law_246 : decode cL_law 246 = .ok (.iadd, 1) := by decide +kernel
theorem dL_law_247 : decode cL_law 247 = .ok (.iaload, 1) := by decide +kernel
theorem dL_law_248 : decode cL_law 248 = .ok (.aload_n 0, 1) := by decide +kernel
theorem dL_law_249 : decode cL_law 249 = .ok (.iload_n 3, 1) := by decide +kernel
theorem dL_law_250 : decode cL_law 250 = .ok (.iconst 2, 1) := by decide +kernel
theorem dL_law_251 : decode cL_law 251 = .ok (.iadd, 1) := by decide +kernel
theorem dL_law_252 : decode cL_law 252 = .ok (.iaload, 1) := by decide +kernel
theorem dL_law_253 : decode cL_law 253 = .ok (.aload_n 0, 1) := by decide +kernel
theorem dL_law_254 : decode cL_law 254 = .ok (.iload_n 3, 1) := by decide +kernel
theorem dL_law_255 : decode cL_law 255 = .ok (.iconst 3, 1) := by decide +kernel
theorem dL_law_256 : decode cL_law 256 = .ok (.iadd, 1) := by decide +kernel
theorem dL_law_257 : decode cL_law 257 = .ok (.iaload, 1) := by decide +kernel
theorem dL_law_258 : decode cL_law 258 = .ok (.invokevirtual 31, 3) := by decide +kernel
theorem dL_law_261 : decode cL_law 261 = .ok (.if_icmp .eq 420, 3) := by decide +kernel
theorem dL_law_264 : decode cL_law 264 = .ok (.iconst 0, 1) := by decide +kernel
theorem dL_law_265 : decode cL_law 265 = .ok (.ireturn, 1) := by decide +kernel
theorem dL_law_266 : decode cL_law 266 = .ok (.aload_n 1, 1) := by decide +kernel
theorem dL_law_267 : decode cL_law 267 = .ok (.aload_n 0, 1) := by decide +kernel
theorem dL_law_268 : decode cL_law 268 = .ok (.iload_n 3, 1) := by decide +kernel
theorem dL_law_269 : decode cL_law 269 = .ok (.iconst 1, 1) := by decide +kernel
theorem dL_law_270 : decode cL_law 270 = .ok (.iadd, 1) := by decide +kernel
theorem dL_law_271 : decode cL_law 271 = .ok (.iaload, 1) := by decide +kernel
theorem dL_law_272 : decode cL_law 272 = .ok (.aload_n 0, 1) := by decide +kernel
theorem dL_law_273 : decode cL_law 273 = .ok (.iload_n 3, 1) := by decide +kernel
theorem dL_law_274 : decode cL_law 274 = .ok (.iconst 2, 1) := by decide +kernel
theorem dL_law_275 : decode cL_law 275 = .ok (.iadd, 1) := by decide +kernel
theorem dL_law_276 : decode cL_law 276 = .ok (.iaload, 1) := by decide +kernel
theorem dL_law_277 : decode cL_law 277 = .ok (.invokevirtual 32, 3) := by decide +kernel
theorem dL_law_280 : decode cL_law 280 = .ok (.aload_n 2, 1) := by decide +kernel
theorem dL_law_281 : decode cL_law 281 = .ok (.aload_n 0, 1) := by decide +kernel
theorem dL_law_282 : decode cL_law 282 = .ok (.iload_n 3, 1) := by decide +kernel
theorem dL_law_283 : decode cL_law 283 = .ok (.iconst 1, 1) := by decide +kernel
theorem dL_law_284 : decode cL_law 284 = .ok (.iadd, 1) := by decide +kernel
theorem dL_law_285 : decode cL_law 285 = .ok (.iaload, 1) := by decide +kernel
theorem dL_law_286 : decode cL_law 286 = .ok (.aload_n 0, 1) := by decide +kernel
theorem dL_law_287 : decode cL_law 287 = .ok (.iload_n 3, 1) := by decide +kernel
theorem dL_law_288 : decode cL_law 288 = .ok (.iconst 2, 1) := by decide +kernel
theorem dL_law_289 : decode cL_law 289 = .ok (.iadd, 1) := by decide +kernel
theorem dL_law_290 : decode cL_law 290 = .ok (.iaload, 1) := by decide +kernel
theorem dL_law_291 : decode cL_law 291 = .ok (.invokevirtual 35, 3) := by decide +kernel
theorem dL_law_294 : decode cL_law 294 = .ok (.if_icmp .eq 387, 3) := by decide +kernel
theorem dL_law_297 : decode cL_law 297 = .ok (.iconst 0, 1) := by decide +kernel
theorem dL_law_298 : decode cL_law 298 = .ok (.ireturn, 1) := by decide +kernel
theorem dL_law_299 : decode cL_law 299 = .ok (.aload_n 1, 1) := by decide +kernel
theorem dL_law_300 : decode cL_law 300 = .ok (.aload_n 0, 1) := by decide +kernel
theorem dL_law_301 : decode cL_law 301 = .ok (.iload_n 3, 1) := by decide +kernel
theorem dL_law_302 : decode cL_law 302 = .ok (.iconst 1, 1) := by decide +kernel
theorem dL_law_303 : decode cL_law 303 = .ok (.iadd, 1) := by decide +kernel
theorem dL_law_304 : decode cL_law 304 = .ok (.iaload, 1) := by decide +kernel
theorem dL_law_305 : decode cL_law 305 = .ok (.invokevirtual 36, 3) := by decide +kernel
theorem dL_law_308 : decode cL_law 308 = .ok (.aload_n 2, 1) := by decide +kernel
theorem dL_law_309 : decode cL_law 309 = .ok (.aload_n 0, 1) := by decide +kernel
theorem dL_law_310 : decode cL_law 310 = .ok (.iload_n 3, 1) := by decide +kernel
theorem dL_law_311 : decode cL_law 311 = .ok (.iconst 1, 1) := by decide +kernel
theorem dL_law_312 : decode cL_law 312 = .ok (.iadd, 1) := by decide +kernel
theorem dL_law_313 : decode cL_law 313 = .ok (.iaload, 1) := by decide +kernel
theorem dL_law_314 : decode cL_law 314 = .ok (.invokevirtual 39, 3) := by decide +kernel
theorem dL_law_317 : decode cL_law 317 = .ok (.if_icmp .eq 364, 3) := by decide +kernel
theorem dL_law_320 : decode cL_law 320 = .ok (.iconst 0, 1) := by decide +kernel
theorem dL_law_321 : decode cL_law 321 = .ok (.ireturn, 1) := by decide +kernel
theorem dL_law_322 : decode cL_law 322 = .ok (.aload_n 1, 1) := by decide +kernel
theorem dL_law_323 : decode cL_law 323 = .ok (.aload_n 0, 1) := by decide +kernel
theorem dL_law_324 : decode cL_law 324 = .ok (.iload_n 3, 1) := by decide +kernel
theorem dL_law_325 : decode cL_law 325 = .ok (.iconst 1, 1) := by decide +kernel
theorem dL_law_326 : decode cL_law 326 = .ok (.iadd, 1) := by decide +kernel
theorem dL_law_327 : decode cL_law 327 = .ok (.iaload, 1) := by decide +kernel
theorem dL_law_328 : decode cL_law 328 = .ok (.aload_n 0, 1) := by decide +kernel
theorem dL_law_329 : decode cL_law 329 = .ok (.iload_n 3, 1) := by decide +kernel
theorem dL_law_330 : decode cL_law 330 = .ok (.iconst 2, 1) := by decide +kernel
theorem dL_law_331 : decode cL_law 331 = .ok (.iadd, 1) := by decide +kernel
theorem dL_law_332 : decode cL_law 332 = .ok (.iaload, 1) := by decide +kernel
theorem dL_law_333 : decode cL_law 333 = .ok (.invokevirtual 40, 3) := by decide +kernel
theorem dL_law_336 : decode cL_law 336 = .ok (.aload_n 2, 1) := by decide +kernel
theorem dL_law_337 : decode cL_law 337 = .ok (.aload_n 0, 1) := by decide +kernel
theorem dL_law_338 : decode cL_law 338 = .ok (.iload_n 3, 1) := by decide +kernel
theorem dL_law_339 : decode cL_law 339 = .ok (.iconst 1, 1) := by decide +kernel
theorem dL_law_340 : decode cL_law 340 = .ok (.iadd, 1) := by decide +kernel
theorem dL_law_341 : decode cL_law 341 = .ok (.iaload, 1) := by decide +kernel
theorem dL_law_342 : decode cL_law 342 = .ok (.aload_n 0, 1) := by decide +kernel
theorem dL_law_343 : decode cL_law 343 = .ok (.iload_n 3, 1) := by decide +kernel
theorem dL_law_344 : decode cL_law 344 = .ok (.iconst 2, 1) := by decide +kernel
theorem dL_law_345 : decode cL_law 345 = .ok (.iadd, 1) := by decide +kernel
theorem dL_law_346 : decode cL_law 346 = .ok (.iaload, 1) := by decide +kernel
theorem dL_law_347 : decode cL_law 347 = .ok (.invokevirtual 43, 3) := by decide +kernel
theorem dL_law_350 : decode cL_law 350 = .ok (.if_icmp .eq 331, 3) := by decide +kernel
theorem dL_law_353 : decode cL_law 353 = .ok (.iconst 0, 1) := by decide +kernel
theorem dL_law_354 : decode cL_law 354 = .ok (.ireturn, 1) := by decide +kernel
theorem dL_law_355 : decode cL_law 355 = .ok (.aload_n 1, 1) := by decide +kernel
theorem dL_law_356 : decode cL_law 356 = .ok (.aload_n 0, 1) := by decide +kernel
theorem dL_law_357 : decode cL_law 357 = .ok (.iload_n 3, 1) := by decide +kernel
theorem dL_law_358 : decode cL_law 358 = .ok (.iconst 1, 1) := by decide +kernel
theorem dL_law_359 : decode cL_law 359 = .ok (.iadd, 1) := by decide +kernel
theorem dL_law_360 : decode cL_law 360 = .ok (.iaload, 1) := by decide +kernel
theorem dL_law_361 : decode cL_law 361 = .ok (.invokevirtual 44, 3) := by decide +kernel
theorem dL_law_364 : decode cL_law 364 = .ok (.aload_n 2, 1) := by decide +kernel
theorem dL_law_365 : decode cL_law 365 = .ok (.aload_n 0, 1) := by decide +kernel
theorem dL_law_366 : decode cL_law 366 = .ok (.iload_n 3, 1) := by decide +kernel
theorem dL_law_367 : decode cL_law 367 = .ok (.iconst 1, 1) := by decide +kernel
theorem dL_law_368 : decode cL_law 368 = .ok (.iadd, 1) := by decide +kernel
theorem dL_law_369 : decode cL_law 369 = .ok (.iaload, 1) := by decide +kernel
theorem dL_law_370 : decode cL_law 370 = .ok (.invokevirtual 47, 3) := by decide +kernel
theorem dL_law_373 : decode cL_law 373 = .ok (.if_icmp .eq 308, 3) := by decide +kernel
theorem dL_law_376 : decode cL_law 376 = .ok (.iconst 0, 1) := by decide +kernel
theorem dL_law_377 : decode cL_law 377 = .ok (.ireturn, 1) := by decide +kernel
theorem dL_law_378 : decode cL_law 378 = .ok (.aload_n 1, 1) := by decide +kernel
theorem dL_law_379 : decode cL_law 379 = .ok (.aload_n 0, 1) := by decide +kernel
theorem dL_law_380 : decode cL_law 380 = .ok (.iload_n 3, 1) := by decide +kernel
theorem dL_law_381 : decode cL_law 381 = .ok (.iconst 1, 1) := by decide +kernel
theorem dL_law_382 : decode cL_law 382 = .ok (.iadd, 1) := by decide +kernel
theorem dL_law_383 : decode cL_law 383 = .ok (.iaload, 1) := by decide +kernel
theorem dL_law_384 : decode cL_law 384 = .ok (.invokevirtual 48, 3) := by decide +kernel
theorem dL_law_387 : decode cL_law 387 = .ok (.aload_n 2, 1) := by decide +kernel
theorem dL_law_388 : decode cL_law 388 = .ok (.aload_n 0, 1) := by decide +kernel
theorem dL_law_389 : decode cL_law 389 = .ok (.iload_n 3, 1) := by decide +kernel
theorem dL_law_390 : decode cL_law 390 = .ok (.iconst 1, 1) := by decide +kernel
theorem dL_law_391 : decode cL_law 391 = .ok (.iadd, 1) := by decide +kernel
theorem dL_law_392 : decode cL_law 392 = .ok (.iaload, 1) := by decide +kernel
theorem dL_law_393 : decode cL_law 393 = .ok (.invokevirtual 51, 3) := by decide +kernel
theorem dL_law_396 : decode cL_law 396 = .ok (.if_icmp .eq 285, 3) := by decide +kernel
theorem dL_law_399 : decode cL_law 399 = .ok (.iconst 0, 1) := by decide +kernel
theorem dL_law_400 : decode cL_law 400 = .ok (.ireturn, 1) := by decide +kernel
theorem dL_law_401 : decode cL_law 401 = .ok (.aload_n 1, 1) := by decide +kernel
theorem dL_law_402 : decode cL_law 402 = .ok (.aload_n 0, 1) := by decide +kernel
theorem dL_law_403 : decode cL_law 403 = .ok (.iload_n 3, 1) := by decide +kernel
theorem dL_law_404 : decode cL_law 404 = .ok (.iconst 1, 1) := by decide +kernel
theorem dL_law_405 : decode cL_law 405 = .ok (.iadd, 1) := by decide +kernel
theorem dL_law_406 : decode cL_law 406 = .ok (.iaload, 1) := by decide +kernel
theorem dL_law_407 : decode cL_law 407 = .ok (.invokevirtual 52, 3) := by decide +kernel
theorem dL_law_410 : decode cL_law 410 = .ok (.aload_n 2, 1) := by decide +kernel
theorem dL_law_411 : decode cL_law 411 = .ok (.aload_n 0, 1) := by decide +kernel
theorem dL_law_412 : decode cL_law 412 = .ok (.iload_n 3, 1) := by decide +kernel
theorem dL_law_413 : decode cL_law 413 = .ok (.iconst 1, 1) := by decide +kernel
theorem dL_law_414 : decode cL_law 414 = .ok (.iadd, 1) := by decide +kernel
theorem dL_law_415 : decode cL_law 415 = .ok (.iaload, 1) := by decide +kernel
theorem dL_law_416 : decode cL_law 416 = .ok (.invokevirtual 55, 3) := by decide +kernel
theorem dL_law_419 : decode cL_law 419 = .ok (.if_icmp .eq 262, 3) := by decide +kernel
theorem dL_law_422 : decode cL_law 422 = .ok (.iconst 0, 1) := by decide +kernel
theorem dL_law_423 : decode cL_law 423 = .ok (.ireturn, 1) := by decide +kernel
theorem dL_law_424 : decode cL_law 424 = .ok (.aload_n 1, 1) := by decide +kernel
theorem dL_law_425 : decode cL_law 425 = .ok (.aload_n 0, 1) := by decide +kernel
theorem dL_law_426 : decode cL_law 426 = .ok (.iload_n 3, 1) := by decide +kernel
theorem dL_law_427 : decode cL_law 427 = .ok (.iconst 1, 1) := by decide +kernel
theorem dL_law_428 : decode cL_law 428 = .ok (.iadd, 1) := by decide +kernel
theorem dL_law_429 : decode cL_law 429 = .ok (.iaload, 1) := by decide +kernel
theorem dL_law_430 : decode cL_law 430 = .ok (.aload_n 0, 1) := by decide +kernel
theorem dL_law_431 : decode cL_law 431 = .ok (.iload_n 3, 1) := by decide +kernel
theorem dL_law_432 : decode cL_law 432 = .ok (.iconst 2, 1) := by decide +kernel
theorem dL_law_433 : decode cL_law 433 = .ok (.iadd, 1) := by decide +kernel
theorem dL_law_434 : decode cL_law 434 = .ok (.iaload, 1) := by decide +kernel
theorem dL_law_435 : decode cL_law 435 = .ok (.invokevirtual 56, 3) := by decide +kernel
theorem dL_law_438 : decode cL_law 438 = .ok (.aload_n 2, 1) := by decide +kernel
theorem dL_law_439 : decode cL_law 439 = .ok (.aload_n 0, 1) := by decide +kernel
theorem dL_law_440 : decode cL_law 440 = .ok (.iload_n 3, 1) := by decide +kernel
theorem dL_law_441 : decode cL_law 441 = .ok (.iconst 1, 1) := by decide +kernel
theorem dL_law_442 : decode cL_law 442 = .ok (.iadd, 1) := by decide +kernel
theorem dL_law_443 : decode cL_law 443 = .ok (.iaload, 1) := by decide +kernel
theorem dL_law_444 : decode cL_law 444 = .ok (.aload_n 0, 1) := by decide +kernel
theorem dL_law_445 : decode cL_law 445 = .ok (.iload_n 3, 1) := by decide +kernel
theorem dL_law_446 : decode cL_law 446 = .ok (.iconst 2, 1) := by decide +kernel
theorem dL_law_447 : decode cL_law 447 = .ok (.iadd, 1) := by decide +kernel
theorem dL_law_448 : decode cL_law 448 = .ok (.iaload, 1) := by decide +kernel
theorem dL_law_449 : decode cL_law 449 = .ok (.invokevirtual 59, 3) := by decide +kernel
theorem dL_law_452 : decode cL_law 452 = .ok (.if_icmp .eq 229, 3) := by decide +kernel
theorem dL_law_455 : decode cL_law 455 = .ok (.iconst 0, 1) := by decide +kernel
theorem dL_law_456 : decode cL_law 456 = .ok (.ireturn, 1) := by decide +kernel
theorem dL_law_457 : decode cL_law 457 = .ok (.aload_n 1, 1) := by decide +kernel
theorem dL_law_458 : decode cL_law 458 = .ok (.aload_n 0, 1) := by decide +kernel
theorem dL_law_459 : decode cL_law 459 = .ok (.iload_n 3, 1) := by decide +kernel
theorem dL_law_460 : decode cL_law 460 = .ok (.iconst 1, 1) := by decide +kernel
theorem dL_law_461 : decode cL_law 461 = .ok (.iadd, 1) := by decide +kernel
theorem dL_law_462 : decode cL_law 462 = .ok (.iaload, 1) := by decide +kernel
theorem dL_law_463 : decode cL_law 463 = .ok (.invokevirtual 60, 3) := by decide +kernel
theorem dL_law_466 : decode cL_law 466 = .ok (.aload_n 2, 1) := by decide +kernel
theorem dL_law_467 : decode cL_law 467 = .ok (.aload_n 0, 1) := by decide +kernel
theorem dL_law_468 : decode cL_law 468 = .ok (.iload_n 3, 1) := by decide +kernel
theorem dL_law_469 : decode cL_law 469 = .ok (.iconst 1, 1) := by decide +kernel
theorem dL_law_470 : decode cL_law 470 = .ok (.iadd, 1) := by decide +kernel
theorem dL_law_471 : decode cL_law 471 = .ok (.iaload, 1) := by decide +kernel
theorem dL_law_472 : decode cL_law 472 = .ok (.invokevirtual 63, 3) := by decide +kernel
theorem dL_law_475 : decode cL_law 475 = .ok (.if_icmp .eq 206, 3) := by decide +kernel
theorem dL_law_478 : decode cL_law 478 = .ok (.iconst 0, 1) := by decide +kernel
theorem dL_law_479 : decode cL_law 479 = .ok (.ireturn, 1) := by decide +kernel
theorem dL_law_480 : decode cL_law 480 = .ok (.aload_n 1, 1) := by decide +kernel
theorem dL_law_481 : decode cL_law 481 = .ok (.aload_n 0, 1) := by decide +kernel
theorem dL_law_482 : decode cL_law 482 = .ok (.iload_n 3, 1) := by decide +kernel
theorem dL_law_483 : decode cL_law 483 = .ok (.iconst 1, 1) := by decide +kernel
theorem dL_law_484 : decode cL_law 484 = .ok (.iadd, 1) := by decide +kernel
theorem dL_law_485 : decode cL_law 485 = .ok (.iaload, 1) := by decide +kernel
theorem dL_law_486 : decode cL_law 486 = .ok (.aload_n 0, 1) := by decide +kernel
theorem dL_law_487 : decode cL_law 487 = .ok (.iload_n 3, 1) := by decide +kernel
theorem dL_law_488 : decode cL_law 488 = .ok (.iconst 2, 1) := by decide +kernel
theorem dL_law_489 : decode cL_law 489 = .ok (.iadd, 1) := by decide +kernel
theorem dL_law_490 : decode cL_law 490 = .ok (.iaload, 1) := by decide +kernel
theorem dL_law_491 : decode cL_law 491 = .ok (.invokevirtual 64, 3) := by decide +kernel
theorem dL_law_494 : decode cL_law 494 = .ok (.aload_n 2, 1) := by decide +kernel
theorem dL_law_495 : decode cL_law 495 = .ok (.aload_n 0, 1) := by decide +kernel
theorem dL_law_496 : decode cL_law 496 = .ok (.iload_n 3, 1) := by decide +kernel
theorem dL_law_497 : decode cL_law 497 = .ok (.iconst 1, 1) := by decide +kernel
theorem dL_law_498 : decode cL_law 498 = .ok (.iadd, 1) := by decide +kernel
theorem dL_law_499 : decode cL_law 499 = .ok (.iaload, 1) := by decide +kernel
theorem dL_law_500 : decode cL_law 500 = .ok (.aload_n 0, 1) := by decide +kernel
theorem dL_law_501 : decode cL_law 501 = .ok (.iload_n 3, 1) := by decide +kernel
theorem dL_law_502 : decode cL_law 502 = .ok (.iconst 2, 1) := by decide +kernel
theorem dL_law_503 : decode cL_law 503 = .ok (.iadd, 1) := by decide +kernel
theorem dL_law_504 : decode cL_law 504 = .ok (.iaload, 1) := by decide +kernel
theorem dL_law_505 : decode cL_law 505 = .ok (.invokevirtual 67, 3) := by decide +kernel
theorem dL_law_508 : decode cL_law 508 = .ok (.if_icmp .eq 173, 3) := by decide +kernel
theorem dL_law_511 : decode cL_law 511 = .ok (.iconst 0, 1) := by decide +kernel
theorem dL_law_512 : decode cL_law 512 = .ok (.ireturn, 1) := by decide +kernel
theorem dL_law_513 : decode cL_law 513 = .ok (.aload_n 1, 1) := by decide +kernel
theorem dL_law_514 : decode cL_law 514 = .ok (.aload_n 0, 1) := by decide +kernel
theorem dL_law_515 : decode cL_law 515 = .ok (.iload_n 3, 1) := by decide +kernel
theorem dL_law_516 : decode cL_law 516 = .ok (.iconst 1, 1) := by decide +kernel
theorem dL_law_517 : decode cL_law 517 = .ok (.iadd, 1) := by decide +kernel
theorem dL_law_518 : decode cL_law 518 = .ok (.iaload, 1) := by decide +kernel
theorem dL_law_519 : decode cL_law 519 = .ok (.aload_n 0, 1) := by decide +kernel
theorem dL_law_520 : decode cL_law 520 = .ok (.iload_n 3, 1) := by decide +kernel
theorem dL_law_521 : decode cL_law 521 = .ok (.iconst 2, 1) := by decide +kernel
theorem dL_law_522 : decode cL_law 522 = .ok (.iadd, 1) := by decide +kernel
theorem dL_law_523 : decode cL_law 523 = .ok (.iaload, 1) := by decide +kernel
theorem dL_law_524 : decode cL_law 524 = .ok (.invokevirtual 68, 3) := by decide +kernel
theorem dL_law_527 : decode cL_law 527 = .ok (.aload_n 2, 1) := by decide +kernel
theorem dL_law_528 : decode cL_law 528 = .ok (.aload_n 0, 1) := by decide +kernel
theorem dL_law_529 : decode cL_law 529 = .ok (.iload_n 3, 1) := by decide +kernel
theorem dL_law_530 : decode cL_law 530 = .ok (.iconst 1, 1) := by decide +kernel
theorem dL_law_531 : decode cL_law 531 = .ok (.iadd, 1) := by decide +kernel
theorem dL_law_532 : decode cL_law 532 = .ok (.iaload, 1) := by decide +kernel
theorem dL_law_533 : decode cL_law 533 = .ok (.aload_n 0, 1) := by decide +kernel
theorem dL_law_534 : decode cL_law 534 = .ok (.iload_n 3, 1) := by decide +kernel
theorem dL_law_535 : decode cL_law 535 = .ok (.iconst 2, 1) := by decide +kernel
theorem dL_law_536 : decode cL_law 536 = .ok (.iadd, 1) := by decide +kernel
theorem dL_law_537 : decode cL_law 537 = .ok (.iaload, 1) := by decide +kernel
theorem dL_law_538 : decode cL_law 538 = .ok (.invokevirtual 71, 3) := by decide +kernel
theorem dL_law_541 : decode cL_law 541 = .ok (.if_icmp .eq 140, 3) := by decide +kernel
theorem dL_law_544 : decode cL_law 544 = .ok (.iconst 0, 1) := by decide +kernel
theorem dL_law_545 : decode cL_law 545 = .ok (.ireturn, 1) := by decide +kernel
theorem dL_law_546 : decode cL_law 546 = .ok (.aload_n 1, 1) := by decide +kernel
theorem dL_law_547 : decode cL_law 547 = .ok (.aload_n 0, 1) := by decide +kernel
theorem dL_law_548 : decode cL_law 548 = .ok (.iload_n 3, 1) := by decide +kernel
theorem dL_law_549 : decode cL_law 549 = .ok (.iconst 1, 1) := by decide +kernel
theorem dL_law_550 : decode cL_law 550 = .ok (.iadd, 1) := by decide +kernel
theorem dL_law_551 : decode cL_law 551 = .ok (.iaload, 1) := by decide +kernel
theorem dL_law_552 : decode cL_law 552 = .ok (.aload_n 0, 1) := by decide +kernel
theorem dL_law_553 : decode cL_law 553 = .ok (.iload_n 3, 1) := by decide +kernel
theorem dL_law_554 : decode cL_law 554 = .ok (.iconst 2, 1) := by decide +kernel
theorem dL_law_555 : decode cL_law 555 = .ok (.iadd, 1) := by decide +kernel
theorem dL_law_556 : decode cL_law 556 = .ok (.iaload, 1) := by decide +kernel
theorem dL_law_557 : decode cL_law 557 = .ok (.invokevirtual 72, 3) := by decide +kernel
theorem dL_law_560 : decode cL_law 560 = .ok (.aload_n 2, 1) := by decide +kernel
theorem dL_law_561 : decode cL_law 561 = .ok (.aload_n 0, 1) := by decide +kernel
theorem dL_law_562 : decode cL_law 562 = .ok (.iload_n 3, 1) := by decide +kernel
theorem dL_law_563 : decode cL_law 563 = .ok (.iconst 1, 1) := by decide +kernel
theorem dL_law_564 : decode cL_law 564 = .ok (.iadd, 1) := by decide +kernel
theorem dL_law_565 : decode cL_law 565 = .ok (.iaload, 1) := by decide +kernel
theorem dL_law_566 : decode cL_law 566 = .ok (.aload_n 0, 1) := by decide +kernel
theorem dL_law_567 : decode cL_law 567 = .ok (.iload_n 3, 1) := by decide +kernel
theorem dL_law_568 : decode cL_law 568 = .ok (.iconst 2, 1) := by decide +kernel
theorem dL_law_569 : decode cL_law 569 = .ok (.iadd, 1) := by decide +kernel
theorem dL_law_570 : decode cL_law 570 = .ok (.iaload, 1) := by decide +kernel
theorem dL_law_571 : decode cL_law 571 = .ok (.invokevirtual 75, 3) := by decide +kernel
theorem dL_law_574 : decode cL_law 574 = .ok (.if_icmp .eq 107, 3) := by decide +kernel
theorem dL_law_577 : decode cL_law 577 = .ok (.iconst 0, 1) := by decide +kernel
theorem dL_law_578 : decode cL_law 578 = .ok (.ireturn, 1) := by decide +kernel
theorem dL_law_579 : decode cL_law 579 = .ok (.aload_n 1, 1) := by decide +kernel
theorem dL_law_580 : decode cL_law 580 = .ok (.aload_n 0, 1) := by decide +kernel
theorem dL_law_581 : decode cL_law 581 = .ok (.iload_n 3, 1) := by decide +kernel
theorem dL_law_582 : decode cL_law 582 = .ok (.iconst 1, 1) := by decide +kernel
theorem dL_law_583 : decode cL_law 583 = .ok (.iadd, 1) := by decide +kernel
theorem dL_law_584 : decode cL_law 584 = .ok (.iaload, 1) := by decide +kernel
theorem dL_law_585 : decode cL_law 585 = .ok (.aload_n 0, 1) := by decide +kernel
theorem dL_law_586 : decode cL_law 586 = .ok (.iload_n 3, 1) := by decide +kernel
theorem dL_law_587 : decode cL_law 587 = .ok (.iconst 2, 1) := by decide +kernel
theorem dL_law_588 : decode cL_law 588 = .ok (.iadd, 1) := by decide +kernel
theorem dL_law_589 : decode cL_law 589 = .ok (.iaload, 1) := by decide +kernel
theorem dL_law_590 : decode cL_law 590 = .ok (.invokevirtual 76, 3) := by decide +kernel
theorem dL_law_593 : decode cL_law 593 = .ok (.aload_n 2, 1) := by decide +kernel
theorem dL_law_594 : decode cL_law 594 = .ok (.aload_n 0, 1) := by decide +kernel
theorem dL_law_595 : decode cL_law 595 = .ok (.iload_n 3, 1) := by decide +kernel
theorem dL_law_596 : decode cL_law 596 = .ok (.iconst 1, 1) := by decide +kernel
theorem dL_law_597 : decode cL_law 597 = .ok (.iadd, 1) := by decide +kernel
theorem dL_law_598 : decode cL_law 598 = .ok (.iaload, 1) := by decide +kernel
theorem dL_law_599 : decode cL_law 599 = .ok (.aload_n 0, 1) := by decide +kernel
theorem dL_law_600 : decode cL_law 600 = .ok (.iload_n 3, 1) := by decide +kernel
theorem dL_law_601 : decode cL_law 601 = .ok (.iconst 2, 1) := by decide +kernel
theorem dL_law_602 : decode cL_law 602 = .ok (.iadd, 1) := by decide +kernel
theorem dL_law_603 : decode cL_law 603 = .ok (.iaload, 1) := by decide +kernel
theorem dL_law_604 : decode cL_law 604 = .ok (.invokevirtual 79, 3) := by decide +kernel
theorem dL_law_607 : decode cL_law 607 = .ok (.if_icmp .eq 74, 3) := by decide +kernel
theorem dL_law_610 : decode cL_law 610 = .ok (.iconst 0, 1) := by decide +kernel
theorem dL_law_611 : decode cL_law 611 = .ok (.ireturn, 1) := by decide +kernel
theorem dL_law_612 : decode cL_law 612 = .ok (.aload_n 1, 1) := by decide +kernel
theorem dL_law_613 : decode cL_law 613 = .ok (.aload_n 0, 1) := by decide +kernel
theorem dL_law_614 : decode cL_law 614 = .ok (.iload_n 3, 1) := by decide +kernel
theorem dL_law_615 : decode cL_law 615 = .ok (.iconst 1, 1) := by decide +kernel
theorem dL_law_616 : decode cL_law 616 = .ok (.iadd, 1) := by decide +kernel
theorem dL_law_617 : decode cL_law 617 = .ok (.iaload, 1) := by decide +kernel
theorem dL_law_618 : decode cL_law 618 = .ok (.aload_n 0, 1) := by decide +kernel
theorem dL_law_619 : decode cL_law 619 = .ok (.iload_n 3, 1) := by decide +kernel
theorem dL_law_620 : decode cL_law 620 = .ok (.iconst 2, 1) := by decide +kernel
theorem dL_law_621 : decode cL_law 621 = .ok (.iadd, 1) := by decide +kernel
theorem dL_law_622 : decode cL_law 622 = .ok (.iaload, 1) := by decide +kernel
theorem dL_law_623 : decode cL_law 623 = .ok (.invokevirtual 80, 3) := by decide +kernel
theorem dL_law_626 : decode cL_law 626 = .ok (.aload_n 2, 1) := by decide +kernel
theorem dL_law_627 : decode cL_law 627 = .ok (.aload_n 0, 1) := by decide +kernel
theorem dL_law_628 : decode cL_law 628 = .ok (.iload_n 3, 1) := by decide +kernel
theorem dL_law_629 : decode cL_law 629 = .ok (.iconst 1, 1) := by decide +kernel
theorem dL_law_630 : decode cL_law 630 = .ok (.iadd, 1) := by decide +kernel
theorem dL_law_631 : decode cL_law 631 = .ok (.iaload, 1) := by decide +kernel
theorem dL_law_632 : decode cL_law 632 = .ok (.aload_n 0, 1) := by decide +kernel
theorem dL_law_633 : decode cL_law 633 = .ok (.iload_n 3, 1) := by decide +kernel
theorem dL_law_634 : decode cL_law 634 = .ok (.iconst 2, 1) := by decide +kernel
theorem dL_law_635 : decode cL_law 635 = .ok (.iadd, 1) := by decide +kernel
theorem dL_law_636 : decode cL_law 636 = .ok (.iaload, 1) := by decide +kernel
theorem dL_law_637 : decode cL_law 637 = .ok (.invokevirtual 83, 3) := by decide +kernel
theorem dL_law_640 : decode cL_law 640 = .ok (.if_icmp .eq 41, 3) := by decide +kernel
theorem dL_law_643 : decode cL_law 643 = .ok (.iconst 0, 1) := by decide +kernel
theorem dL_law_644 : decode cL_law 644 = .ok (.ireturn, 1) := by decide +kernel
theorem dL_law_645 : decode cL_law 645 = .ok (.aload_n 1, 1) := by decide +kernel
theorem dL_law_646 : decode cL_law 646 = .ok (.aload_n 0, 1) := by decide +kernel
theorem dL_law_647 : decode cL_law 647 = .ok (.iload_n 3, 1) := by decide +kernel
theorem dL_law_648 : decode cL_law 648 = .ok (.iconst 1, 1) := by decide +kernel
theorem dL_law_649 : decode cL_law 649 = .ok (.iadd, 1) := by decide +kernel
theorem dL_law_650 : decode cL_law 650 = .ok (.iaload, 1) := by decide +kernel
theorem dL_law_651 : decode cL_law 651 = .ok (.invokevirtual 84, 3) := by decide +kernel
theorem dL_law_654 : decode cL_law 654 = .ok (.aload_n 2, 1) := by decide +kernel
theorem dL_law_655 : decode cL_law 655 = .ok (.aload_n 0, 1) := by decide +kernel
theorem dL_law_656 : decode cL_law 656 = .ok (.iload_n 3, 1) := by decide +kernel
theorem dL_law_657 : decode cL_law 657 = .ok (.iconst 1, 1) := by decide +kernel
theorem dL_law_658 : decode cL_law 658 = .ok (.iadd, 1) := by decide +kernel
theorem dL_law_659 : decode cL_law 659 = .ok (.iaload, 1) := by decide +kernel
theorem dL_law_660 : decode cL_law 660 = .ok (.invokevirtual 87, 3) := by decide +kernel
theorem dL_law_663 : decode cL_law 663 = .ok (.if_icmp .eq 18, 3) := by decide +kernel
theorem dL_law_666 : decode cL_law 666 = .ok (.iconst 0, 1) := by decide +kernel
theorem dL_law_667 : decode cL_law 667 = .ok (.ireturn, 1) := by decide +kernel
theorem dL_law_668 : decode cL_law 668 = .ok (.aload_n 1, 1) := by decide +kernel
theorem dL_law_669 : decode cL_law 669 = .ok (.invokevirtual 88, 3) := by decide +kernel
theorem dL_law_672 : decode cL_law 672 = .ok (.aload_n 2, 1) := by decide +kernel
theorem dL_law_673 : decode cL_law 673 = .ok (.invokevirtual 92, 3) := by decide +kernel
theorem dL_law_676 : decode cL_law 676 = .ok (.if_icmp .eq 5, 3) := by decide +kernel
theorem dL_law_679 : decode cL_law 679 = .ok (.iconst 0, 1) := by decide +kernel
theorem dL_law_680 : decode cL_law 680 = .ok (.ireturn, 1) := by decide +kernel
theorem dL_law_681 : decode cL_law 681 = .ok (.iinc 3 4, 3) := by decide +kernel
theorem dL_law_684 : decode cL_law 684 = .ok (.goto (-666), 3) := by decide +kernel
theorem dL_law_687 : decode cL_law 687 = .ok (.iconst 1, 1) := by decide +kernel
theorem dL_law_688 : decode cL_law 688 = .ok (.ireturn, 1) := by decide +kernel
end
section
/-! ===== the words: one list for every method ===== -/
def wsA : List Cond := lw_tbl.filter goodWord
theorem wa_in {w : Cond} (h : w ∈ lw_tbl) (hg : goodWord w = true) : w ∈ wsA := List.mem_filter.mpr ⟨h, hg⟩
theorem wa_tbl {w : Cond} (h : w ∈ wsA) : w ∈ lw_tbl := (List.mem_filter.mp h).1
theorem wa_good {w : Cond} (h : w ∈ wsA) : goodWord w = true := (List.mem_filter.mp h).2
theorem mw1 : Cond.classLink RL 7 RX3 ∈ wsA := wa_in (List.mem_append_right _ (List.mem_append_left _ (List.mem_of_getElem? (i := 10) rfl))) rfl
theorem mw2 : Cond.instantiable RX3 7 ∈ wsA := wa_in (List.mem_append_right _ (List.mem_append_left _ (List.mem_of_getElem? (i := 11) rfl))) rfl
theorem mw3 : Cond.initialized RX3 ∈ wsA := wa_in (List.mem_append_right _ (List.mem_append_left _ (List.mem_of_getElem? (i := 1) rfl))) rfl
theorem mw4 : Cond.classLink RL 10 RX5 ∈ wsA := wa_in (List.mem_append_right _ (List.mem_append_right _ (List.mem_append_right _ (List.mem_append_left _ (List.mem_of_getElem? (i := 49) rfl))))) rfl
theorem mw5 : Cond.instantiable RX5 5 ∈ wsA := wa_in (List.mem_append_right _ (List.mem_append_right _ (List.mem_append_right _ (List.mem_append_left _ (List.mem_of_getElem? (i := 50) rfl))))) rfl
theorem mw6 : Cond.initialized RX5 ∈ wsA := wa_in (List.mem_append_right _ (List.mem_append_left _ (List.mem_of_getElem? (i := 5) rfl))) rfl
theorem mw7 : Cond.methodLink RL 9 yX3_init ∈ wsA := wa_in (List.mem_append_right _ (List.mem_append_left _ (List.mem_of_getElem? (i := 12) rfl))) rfl
theorem mw8 : Cond.instanceMethod yX3_init ∈ wsA := wa_in (List.mem_append_right _ (List.mem_append_left _ (List.mem_of_getElem? (i := 13) rfl))) rfl
theorem mw9 : Cond.code yX3_init cX3_init 1 none ∈ wsA := wa_in (List.mem_append_right _ (List.mem_append_left _ (List.mem_of_getElem? (i := 14) rfl))) rfl
theorem mw10 : Cond.methodLink RX3 3 objectInit ∈ wsA := wa_in (List.mem_append_right _ (List.mem_append_left _ (List.mem_of_getElem? (i := 15) rfl))) rfl
theorem mw11 : Cond.instanceMethod objectInit ∈ wsA := wa_in (List.mem_append_right _ (List.mem_append_left _ (List.mem_of_getElem? (i := 16) rfl))) rfl
theorem mw12 : Cond.code objectInit ⟨#[0xb1]⟩ 1 none ∈ wsA := wa_in (List.mem_append_right _ (List.mem_append_left _ (List.mem_of_getElem? (i := 17) rfl))) rfl
theorem mw13 : Cond.classLink RX3 9 RX1 ∈ wsA := wa_in (List.mem_append_right _ (List.mem_append_left _ (List.mem_of_getElem? (i := 18) rfl))) rfl
theorem mw14 : Cond.instantiable RX1 13 ∈ wsA := wa_in (List.mem_append_right _ (List.mem_append_left _ (List.mem_of_getElem? (i := 19) rfl))) rfl
theorem mw15 : Cond.initialized RX1 ∈ wsA := wa_in (List.mem_append_right _ (List.mem_append_left _ (List.mem_of_getElem? (i := 2) rfl))) rfl
theorem mw16 : Cond.fieldLink RX3 12 "GuestHouse" "host" "LGuestHouse$Host;" ∈ wsA := wa_in (List.mem_append_right _ (List.mem_append_left _ (List.mem_of_getElem? (i := 101) rfl))) rfl
theorem mw17 : Cond.classLink RX3 16 RX2 ∈ wsA := wa_in (List.mem_append_right _ (List.mem_append_left _ (List.mem_of_getElem? (i := 66) rfl))) rfl
theorem mw18 : Cond.instantiable RX2 5 ∈ wsA := wa_in (List.mem_append_right _ (List.mem_append_left _ (List.mem_of_getElem? (i := 67) rfl))) rfl
theorem mw19 : Cond.initialized RX2 ∈ wsA := wa_in (List.mem_append_right _ (List.mem_append_left _ (List.mem_of_getElem? (i := 3) rfl))) rfl
theorem mw20 : Cond.fieldLink RX3 21 "GuestHouse" "processor" "LGuestHouse$Processor;" ∈ wsA := wa_in (List.mem_append_right _ (List.mem_append_left _ (List.mem_of_getElem? (i := 102) rfl))) rfl
theorem mw21 : Cond.classLink RX3 25 RX0 ∈ wsA := wa_in (List.mem_append_right _ (List.mem_append_left _ (List.mem_of_getElem? (i := 88) rfl))) rfl
theorem mw22 : Cond.fieldLink RX3 27 "GuestHouse" "guests" "[LGuestHouse$Guest;" ∈ wsA := wa_in (List.mem_append_right _ (List.mem_append_left _ (List.mem_of_getElem? (i := 103) rfl))) rfl
theorem mw23 : Cond.instanceMethod yX1_init ∈ wsA := wa_in (List.mem_append_right _ (List.mem_append_left _ (List.mem_of_getElem? (i := 21) rfl))) rfl
theorem mw24 : Cond.code yX1_init cX1_init 1 none ∈ wsA := wa_in (List.mem_append_right _ (List.mem_append_left _ (List.mem_of_getElem? (i := 22) rfl))) rfl
theorem mw25 : Cond.methodLink RX1 3 objectInit ∈ wsA := wa_in (List.mem_append_right _ (List.mem_append_left _ (List.mem_of_getElem? (i := 23) rfl))) rfl
theorem mw26 : Cond.arrayClass .int ∈ wsA := wa_in (List.mem_append_right _ (List.mem_append_left _ (List.mem_of_getElem? (i := 64) rfl))) rfl
theorem mw27 : Cond.fieldLink RX1 9 "GuestHouse$Host" "memory" "[I" ∈ wsA := wa_in (List.mem_append_right _ (List.mem_append_left _ (List.mem_of_getElem? (i := 28) rfl))) rfl
theorem mw28 : Cond.fieldLink RX1 15 "GuestHouse$Host" "away" "[I" ∈ wsA := wa_in (List.mem_append_right _ (List.mem_append_left _ (List.mem_of_getElem? (i := 29) rfl))) rfl
theorem mw29 : Cond.fieldLink RX1 18 "GuestHouse$Host" "owner" "[I" ∈ wsA := wa_in (List.mem_append_right _ (List.mem_append_left _ (List.mem_of_getElem? (i := 30) rfl))) rfl
theorem mw30 : Cond.arrayClass .boolean ∈ wsA := wa_in (List.mem_append_right _ (List.mem_append_left _ (List.mem_of_getElem? (i := 65) rfl))) rfl
theorem mw31 : Cond.fieldLink RX1 21 "GuestHouse$Host" "recent" "[Z" ∈ wsA := wa_in (List.mem_append_right _ (List.mem_append_left _ (List.mem_of_getElem? (i := 31) rfl))) rfl
theorem mw32 : Cond.fieldLink RX1 25 "GuestHouse$Host" "uses" "[I" ∈ wsA := wa_in (List.mem_append_right _ (List.mem_append_left _ (List.mem_of_getElem? (i := 32) rfl))) rfl
theorem mw33 : Cond.fieldLink RX1 28 "GuestHouse$Host" "where" "[I" ∈ wsA := wa_in (List.mem_append_right _ (List.mem_append_left _ (List.mem_of_getElem? (i := 33) rfl))) rfl
theorem mw34 : Cond.fieldLink RX1 31 "GuestHouse$Host" "changed" "[Z" ∈ wsA := wa_in (List.mem_append_right _ (List.mem_append_left _ (List.mem_of_getElem? (i := 34) rfl))) rfl
theorem mw35 : Cond.fieldLink RX1 34 "GuestHouse$Host" "free" "[I" ∈ wsA := wa_in (List.mem_append_right _ (List.mem_append_left _ (List.mem_of_getElem? (i := 35) rfl))) rfl
theorem mw36 : Cond.fieldLink RX1 37 "GuestHouse$Host" "seen" "[I" ∈ wsA := wa_in (List.mem_append_right _ (List.mem_append_left _ (List.mem_of_getElem? (i := 36) rfl))) rfl
theorem mw37 : Cond.methodLink RX3 18 yX2_init ∈ wsA := wa_in (List.mem_append_right _ (List.mem_append_left _ (List.mem_of_getElem? (i := 68) rfl))) rfl
theorem mw38 : Cond.instanceMethod yX2_init ∈ wsA := wa_in (List.mem_append_right _ (List.mem_append_left _ (List.mem_of_getElem? (i := 69) rfl))) rfl
theorem mw39 : Cond.code yX2_init cX2_init 2 none ∈ wsA := wa_in (List.mem_append_right _ (List.mem_append_left _ (List.mem_of_getElem? (i := 70) rfl))) rfl
theorem mw40 : Cond.methodLink RX2 3 objectInit ∈ wsA := wa_in (List.mem_append_right _ (List.mem_append_left _ (List.mem_of_getElem? (i := 71) rfl))) rfl
theorem mw41 : Cond.fieldLink RX2 9 "GuestHouse$Processor" "host" "LGuestHouse$Host;" ∈ wsA := wa_in (List.mem_append_right _ (List.mem_append_left _ (List.mem_of_getElem? (i := 72) rfl))) rfl
theorem mw42 : Cond.methodLink RX3 31 yX3_settle ∈ wsA := wa_in (List.mem_append_right _ (List.mem_append_left _ (List.mem_of_getElem? (i := 90) rfl))) rfl
theorem mw43 : Cond.instanceMethod yX3_settle ∈ wsA := wa_in (List.mem_append_right _ (List.mem_append_left _ (List.mem_of_getElem? (i := 92) rfl))) rfl
theorem mw44 : Cond.selects RX3 yX3_settle yX3_settle ∈ wsA := wa_in (List.mem_append_left _ (List.mem_of_getElem? (i := 0) rfl)) rfl
theorem mw45 : Cond.code yX3_settle cX3_settle 4 none ∈ wsA := wa_in (List.mem_append_right _ (List.mem_append_left _ (List.mem_of_getElem? (i := 93) rfl))) rfl
theorem mw46 : Cond.fieldLink RX3 139 "GuestHouse" "slice" "I" ∈ wsA := wa_in (List.mem_append_right _ (List.mem_append_left _ (List.mem_of_getElem? (i := 104) rfl))) rfl
theorem mw47 : Cond.fieldLink RX3 126 "GuestHouse" "current" "I" ∈ wsA := wa_in (List.mem_append_right _ (List.mem_append_left _ (List.mem_of_getElem? (i := 105) rfl))) rfl
theorem mw48 : Cond.fieldLink RX3 103 "GuestHouse" "left" "I" ∈ wsA := wa_in (List.mem_append_right _ (List.mem_append_left _ (List.mem_of_getElem? (i := 106) rfl))) rfl
theorem mw49 : Cond.fieldLink RX3 106 "GuestHouse" "steps" "I" ∈ wsA := wa_in (List.mem_append_right _ (List.mem_append_left _ (List.mem_of_getElem? (i := 107) rfl))) rfl
theorem mw50 : Cond.methodLink RX3 138 yX1_renew ∈ wsA := wa_in (List.mem_append_right _ (List.mem_append_left _ (List.mem_of_getElem? (i := 94) rfl))) rfl
theorem mw51 : Cond.instanceMethod yX1_renew ∈ wsA := wa_in (List.mem_append_right _ (List.mem_append_left _ (List.mem_of_getElem? (i := 95) rfl))) rfl
theorem mw52 : Cond.selects RX1 yX1_renew yX1_renew ∈ wsA := wa_in (List.mem_append_right _ (List.mem_append_left _ (List.mem_of_getElem? (i := 96) rfl))) rfl
theorem mw53 : Cond.code yX1_renew cX1_renew 3 none ∈ wsA := wa_in (List.mem_append_right _ (List.mem_append_left _ (List.mem_of_getElem? (i := 97) rfl))) rfl
theorem mw54 : Cond.fieldLink RX1 40 "GuestHouse$Host" "frames" "I" ∈ wsA := wa_in (List.mem_append_right _ (List.mem_append_left _ (List.mem_of_getElem? (i := 24) rfl))) rfl
theorem mw55 : Cond.fieldLink RX1 44 "GuestHouse$Host" "opened" "I" ∈ wsA := wa_in (List.mem_append_right _ (List.mem_append_left _ (List.mem_of_getElem? (i := 25) rfl))) rfl
theorem mw56 : Cond.fieldLink RX1 47 "GuestHouse$Host" "hand" "I" ∈ wsA := wa_in (List.mem_append_right _ (List.mem_append_left _ (List.mem_of_getElem? (i := 26) rfl))) rfl
theorem mw57 : Cond.fieldLink RX1 56 "GuestHouse$Host" "freeCount" "I" ∈ wsA := wa_in (List.mem_append_right _ (List.mem_append_left _ (List.mem_of_getElem? (i := 27) rfl))) rfl
theorem mw58 : Cond.methodLink RX1 50 yJ7_fill_53178 ∈ wsA := wa_in (List.mem_append_right _ (List.mem_append_left _ (List.mem_of_getElem? (i := 98) rfl))) rfl
theorem mw59 : Cond.static yJ7_fill_53178 ∈ wsA := wa_in (List.mem_append_right _ (List.mem_append_left _ (List.mem_of_getElem? (i := 99) rfl))) rfl
theorem mw60 : Cond.initialized RJ7 ∈ wsA := wa_in (List.mem_append_right _ (List.mem_append_left _ (List.mem_of_getElem? (i := 4) rfl))) rfl
theorem mw61 : Cond.code yJ7_fill_53178 cJ7_fill_53178 4 none ∈ wsA := wa_in (List.mem_append_right _ (List.mem_append_left _ (List.mem_of_getElem? (i := 100) rfl))) rfl
theorem mw62 : Cond.methodLink RL 12 yX5_init ∈ wsA := wa_in (List.mem_append_right _ (List.mem_append_right _ (List.mem_append_right _ (List.mem_append_left _ (List.mem_of_getElem? (i := 51) rfl))))) rfl
theorem mw63 : Cond.instanceMethod yX5_init ∈ wsA := wa_in (List.mem_append_right _ (List.mem_append_right _ (List.mem_append_right _ (List.mem_append_left _ (List.mem_of_getElem? (i := 52) rfl))))) rfl
theorem mw64 : Cond.code yX5_init cX5_init 2 none ∈ wsA := wa_in (List.mem_append_right _ (List.mem_append_right _ (List.mem_append_right _ (List.mem_append_left _ (List.mem_of_getElem? (i := 53) rfl))))) rfl
theorem mw65 : Cond.methodLink RX5 2 objectInit ∈ wsA := wa_in (List.mem_append_right _ (List.mem_append_right _ (List.mem_append_right _ (List.mem_append_left _ (List.mem_of_getElem? (i := 54) rfl))))) rfl
theorem mw66 : Cond.classLink RX5 10 RX4 ∈ wsA := wa_in (List.mem_append_right _ (List.mem_append_right _ (List.mem_append_right _ (List.mem_append_left _ (List.mem_of_getElem? (i := 55) rfl))))) rfl
theorem mw67 : Cond.fieldLink RX5 12 "GuestHouseModel" "guests" "[LGuestHouseModel$Bare;" ∈ wsA := wa_in (List.mem_append_right _ (List.mem_append_right _ (List.mem_append_right _ (List.mem_append_left _ (List.mem_of_getElem? (i := 137) rfl))))) rfl
theorem mw68 : Cond.fieldLink RX5 16 "GuestHouseModel" "slice" "I" ∈ wsA := wa_in (List.mem_append_right _ (List.mem_append_right _ (List.mem_append_right _ (List.mem_append_left _ (List.mem_of_getElem? (i := 138) rfl))))) rfl
theorem mw69 : Cond.fieldLink RX5 20 "GuestHouseModel" "current" "I" ∈ wsA := wa_in (List.mem_append_right _ (List.mem_append_right _ (List.mem_append_right _ (List.mem_append_left _ (List.mem_of_getElem? (i := 139) rfl))))) rfl
theorem mw70 : Cond.instantiable RX4 19 ∈ wsA := wa_in (List.mem_append_right _ (List.mem_append_right _ (List.mem_append_right _ (List.mem_append_left _ (List.mem_of_getElem? (i := 57) rfl))))) rfl
theorem mw71 : Cond.initialized RX4 ∈ wsA := wa_in (List.mem_append_right _ (List.mem_append_left _ (List.mem_of_getElem? (i := 6) rfl))) rfl
theorem mw72 : Cond.instanceMethod yX4_init ∈ wsA := wa_in (List.mem_append_right _ (List.mem_append_right _ (List.mem_append_right _ (List.mem_append_left _ (List.mem_of_getElem? (i := 59) rfl))))) rfl
theorem mw73 : Cond.code yX4_init cX4_init 1 none ∈ wsA := wa_in (List.mem_append_right _ (List.mem_append_right _ (List.mem_append_right _ (List.mem_append_left _ (List.mem_of_getElem? (i := 60) rfl))))) rfl
theorem mw74 : Cond.methodLink RX4 3 objectInit ∈ wsA := wa_in (List.mem_append_right _ (List.mem_append_right _ (List.mem_append_right _ (List.mem_append_left _ (List.mem_of_getElem? (i := 61) rfl))))) rfl
theorem mw75 : Cond.fieldLink RX4 9 "GuestHouseModel$Bare" "memory" "[I" ∈ wsA := wa_in (List.mem_append_right _ (List.mem_append_right _ (List.mem_append_right _ (List.mem_append_left _ (List.mem_of_getElem? (i := 66) rfl))))) rfl
theorem mw76 : Cond.fieldLink RX4 15 "GuestHouseModel$Bare" "disk" "[I" ∈ wsA := wa_in (List.mem_append_right _ (List.mem_append_right _ (List.mem_append_right _ (List.mem_append_left _ (List.mem_of_getElem? (i := 68) rfl))))) rfl
theorem mw77 : Cond.fieldLink RX4 18 "GuestHouseModel$Bare" "\x72" "[I" ∈ wsA := wa_in (List.mem_append_right _ (List.mem_append_right _ (List.mem_append_right _ (List.mem_append_left _ (List.mem_of_getElem? (i := 70) rfl))))) rfl
theorem mw78 : Cond.fieldLink RX4 21 "GuestHouseModel$Bare" "control" "[I" ∈ wsA := wa_in (List.mem_append_right _ (List.mem_append_right _ (List.mem_append_right _ (List.mem_append_left _ (List.mem_of_getElem? (i := 72) rfl))))) rfl
theorem mw79 : Cond.fieldLink RX4 24 "GuestHouseModel$Bare" "frameOf" "[I" ∈ wsA := wa_in (List.mem_append_right _ (List.mem_append_right _ (List.mem_append_right _ (List.mem_append_left _ (List.mem_of_getElem? (i := 74) rfl))))) rfl
theorem mw80 : Cond.fieldLink RX4 27 "GuestHouseModel$Bare" "bits" "[I" ∈ wsA := wa_in (List.mem_append_right _ (List.mem_append_right _ (List.mem_append_right _ (List.mem_append_left _ (List.mem_of_getElem? (i := 76) rfl))))) rfl
theorem mw81 : Cond.fieldLink RX4 30 "GuestHouseModel$Bare" "in" "[I" ∈ wsA := wa_in (List.mem_append_right _ (List.mem_append_right _ (List.mem_append_right _ (List.mem_append_left _ (List.mem_of_getElem? (i := 78) rfl))))) rfl
theorem mw82 : Cond.fieldLink RX4 33 "GuestHouseModel$Bare" "out" "[I" ∈ wsA := wa_in (List.mem_append_right _ (List.mem_append_right _ (List.mem_append_right _ (List.mem_append_left _ (List.mem_of_getElem? (i := 80) rfl))))) rfl
theorem mw83 : Cond.methodLink RL 13 yX3_install ∈ wsA := wa_in (List.mem_append_right _ (List.mem_append_left _ (List.mem_of_getElem? (i := 123) rfl))) rfl
theorem mw84 : Cond.instanceMethod yX3_install ∈ wsA := wa_in (List.mem_append_right _ (List.mem_append_left _ (List.mem_of_getElem? (i := 124) rfl))) rfl
theorem mw85 : Cond.selects RX3 yX3_install yX3_install ∈ wsA := wa_in (List.mem_append_right _ (List.mem_append_left _ (List.mem_of_getElem? (i := 125) rfl))) rfl
theorem mw86 : Cond.code yX3_install cX3_install 3 (some .int) ∈ wsA := wa_in (List.mem_append_right _ (List.mem_append_left _ (List.mem_of_getElem? (i := 126) rfl))) rfl
theorem mw87 : Cond.methodLink RL 17 yX5_install ∈ wsA := wa_in (List.mem_append_right _ (List.mem_append_right _ (List.mem_append_right _ (List.mem_append_left _ (List.mem_of_getElem? (i := 153) rfl))))) rfl
theorem mw88 : Cond.instanceMethod yX5_install ∈ wsA := wa_in (List.mem_append_right _ (List.mem_append_right _ (List.mem_append_right _ (List.mem_append_left _ (List.mem_of_getElem? (i := 154) rfl))))) rfl
theorem mw89 : Cond.selects RX5 yX5_install yX5_install ∈ wsA := wa_in (List.mem_append_right _ (List.mem_append_right _ (List.mem_append_right _ (List.mem_append_left _ (List.mem_of_getElem? (i := 155) rfl))))) rfl
theorem mw90 : Cond.code yX5_install cX5_install 4 (some .int) ∈ wsA := wa_in (List.mem_append_right _ (List.mem_append_right _ (List.mem_append_right _ (List.mem_append_left _ (List.mem_of_getElem? (i := 156) rfl))))) rfl
theorem mw91 : Cond.fieldLink RX5 24 "GuestHouseModel$Bare" "isThere" "Z" ∈ wsA := wa_in (List.mem_append_right _ (List.mem_append_right _ (List.mem_append_right _ (List.mem_append_left _ (List.mem_of_getElem? (i := 65) rfl))))) rfl
theorem mw92 : Cond.fieldLink RX5 28 "GuestHouseModel" "left" "I" ∈ wsA := wa_in (List.mem_append_right _ (List.mem_append_right _ (List.mem_append_right _ (List.mem_append_left _ (List.mem_of_getElem? (i := 140) rfl))))) rfl
theorem mw93 : Cond.fieldLink RX5 31 "GuestHouseModel" "steps" "I" ∈ wsA := wa_in (List.mem_append_right _ (List.mem_append_right _ (List.mem_append_right _ (List.mem_append_left _ (List.mem_of_getElem? (i := 141) rfl))))) rfl
theorem mw94 : Cond.methodLink RL 18 yX3_guest ∈ wsA := wa_in (List.mem_append_right _ (List.mem_append_left _ (List.mem_of_getElem? (i := 127) rfl))) rfl
theorem mw95 : Cond.instanceMethod yX3_guest ∈ wsA := wa_in (List.mem_append_right _ (List.mem_append_left _ (List.mem_of_getElem? (i := 128) rfl))) rfl
theorem mw96 : Cond.selects RX3 yX3_guest yX3_guest ∈ wsA := wa_in (List.mem_append_right _ (List.mem_append_left _ (List.mem_of_getElem? (i := 129) rfl))) rfl
theorem mw97 : Cond.code yX3_guest cX3_guest 4 (some .int) ∈ wsA := wa_in (List.mem_append_right _ (List.mem_append_left _ (List.mem_of_getElem? (i := 130) rfl))) rfl
theorem mw98 : Cond.methodLink RX3 35 yX3_leastFree ∈ wsA := wa_in (List.mem_append_right _ (List.mem_append_left _ (List.mem_of_getElem? (i := 131) rfl))) rfl
theorem mw99 : Cond.instanceMethod yX3_leastFree ∈ wsA := wa_in (List.mem_append_right _ (List.mem_append_left _ (List.mem_of_getElem? (i := 133) rfl))) rfl
theorem mw100 : Cond.selects RX3 yX3_leastFree yX3_leastFree ∈ wsA := wa_in (List.mem_append_left _ (List.mem_of_getElem? (i := 1) rfl)) rfl
theorem mw101 : Cond.code yX3_leastFree cX3_leastFree 2 (some .int) ∈ wsA := wa_in (List.mem_append_right _ (List.mem_append_left _ (List.mem_of_getElem? (i := 134) rfl))) rfl
theorem mw102 : Cond.methodLink RX3 51 yX3_find ∈ wsA := wa_in (List.mem_append_right _ (List.mem_append_left _ (List.mem_of_getElem? (i := 135) rfl))) rfl
theorem mw103 : Cond.instanceMethod yX3_find ∈ wsA := wa_in (List.mem_append_right _ (List.mem_append_left _ (List.mem_of_getElem? (i := 137) rfl))) rfl
theorem mw104 : Cond.selects RX3 yX3_find yX3_find ∈ wsA := wa_in (List.mem_append_left _ (List.mem_of_getElem? (i := 2) rfl)) rfl
theorem mw105 : Cond.code yX3_find cX3_find 3 (some (.object "GuestHouse$Guest")) ∈ wsA := wa_in (List.mem_append_right _ (List.mem_append_left _ (List.mem_of_getElem? (i := 138) rfl))) rfl
theorem mw106 : Cond.methodLink RX3 39 yX3_room ∈ wsA := wa_in (List.mem_append_right _ (List.mem_append_left _ (List.mem_of_getElem? (i := 139) rfl))) rfl
theorem mw107 : Cond.instanceMethod yX3_room ∈ wsA := wa_in (List.mem_append_right _ (List.mem_append_left _ (List.mem_of_getElem? (i := 141) rfl))) rfl
theorem mw108 : Cond.selects RX3 yX3_room yX3_room ∈ wsA := wa_in (List.mem_append_left _ (List.mem_of_getElem? (i := 3) rfl)) rfl
theorem mw109 : Cond.code yX3_room cX3_room 4 (some (.object "GuestHouse$Guest")) ∈ wsA := wa_in (List.mem_append_right _ (List.mem_append_left _ (List.mem_of_getElem? (i := 142) rfl))) rfl
theorem mw110 : Cond.instantiable RX0 17 ∈ wsA := wa_in (List.mem_append_right _ (List.mem_append_left _ (List.mem_of_getElem? (i := 143) rfl))) rfl
theorem mw111 : Cond.initialized RX0 ∈ wsA := wa_in (List.mem_append_right _ (List.mem_append_left _ (List.mem_of_getElem? (i := 7) rfl))) rfl
theorem mw112 : Cond.instanceMethod yX0_init ∈ wsA := wa_in (List.mem_append_right _ (List.mem_append_left _ (List.mem_of_getElem? (i := 145) rfl))) rfl
theorem mw113 : Cond.code yX0_init cX0_init 1 none ∈ wsA := wa_in (List.mem_append_right _ (List.mem_append_left _ (List.mem_of_getElem? (i := 146) rfl))) rfl
theorem mw114 : Cond.methodLink RX0 3 objectInit ∈ wsA := wa_in (List.mem_append_right _ (List.mem_append_left _ (List.mem_of_getElem? (i := 147) rfl))) rfl
theorem mw115 : Cond.fieldLink RX0 9 "GuestHouse$Guest" "sheets" "[I" ∈ wsA := wa_in (List.mem_append_right _ (List.mem_append_left _ (List.mem_of_getElem? (i := 166) rfl))) rfl
theorem mw116 : Cond.fieldLink RX0 15 "GuestHouse$Guest" "sectors" "[I" ∈ wsA := wa_in (List.mem_append_right _ (List.mem_append_left _ (List.mem_of_getElem? (i := 168) rfl))) rfl
theorem mw117 : Cond.fieldLink RX0 18 "GuestHouse$Guest" "registers" "[I" ∈ wsA := wa_in (List.mem_append_right _ (List.mem_append_left _ (List.mem_of_getElem? (i := 171) rfl))) rfl
theorem mw118 : Cond.fieldLink RX0 21 "GuestHouse$Guest" "controls" "[I" ∈ wsA := wa_in (List.mem_append_right _ (List.mem_append_left _ (List.mem_of_getElem? (i := 173) rfl))) rfl
theorem mw119 : Cond.fieldLink RX0 24 "GuestHouse$Guest" "cache" "[I" ∈ wsA := wa_in (List.mem_append_right _ (List.mem_append_left _ (List.mem_of_getElem? (i := 175) rfl))) rfl
theorem mw120 : Cond.fieldLink RX0 27 "GuestHouse$Guest" "arrivals" "[I" ∈ wsA := wa_in (List.mem_append_right _ (List.mem_append_left _ (List.mem_of_getElem? (i := 178) rfl))) rfl
theorem mw121 : Cond.fieldLink RX0 30 "GuestHouse$Guest" "kept" "[I" ∈ wsA := wa_in (List.mem_append_right _ (List.mem_append_left _ (List.mem_of_getElem? (i := 182) rfl))) rfl
theorem mw122 : Cond.methodLink RX3 43 yX0_renew ∈ wsA := wa_in (List.mem_append_right _ (List.mem_append_left _ (List.mem_of_getElem? (i := 221) rfl))) rfl
theorem mw123 : Cond.instanceMethod yX0_renew ∈ wsA := wa_in (List.mem_append_right _ (List.mem_append_left _ (List.mem_of_getElem? (i := 222) rfl))) rfl
theorem mw124 : Cond.selects RX0 yX0_renew yX0_renew ∈ wsA := wa_in (List.mem_append_right _ (List.mem_append_left _ (List.mem_of_getElem? (i := 223) rfl))) rfl
theorem mw125 : Cond.code yX0_renew cX0_renew 2 none ∈ wsA := wa_in (List.mem_append_right _ (List.mem_append_left _ (List.mem_of_getElem? (i := 224) rfl))) rfl
theorem mw126 : Cond.fieldLink RX0 33 "GuestHouse$Guest" "here" "Z" ∈ wsA := wa_in (List.mem_append_right _ (List.mem_append_left _ (List.mem_of_getElem? (i := 148) rfl))) rfl
theorem mw127 : Cond.fieldLink RX0 37 "GuestHouse$Guest" "phase" "I" ∈ wsA := wa_in (List.mem_append_right _ (List.mem_append_left _ (List.mem_of_getElem? (i := 151) rfl))) rfl
theorem mw128 : Cond.fieldLink RX0 41 "GuestHouse$Guest" "frames" "I" ∈ wsA := wa_in (List.mem_append_right _ (List.mem_append_left _ (List.mem_of_getElem? (i := 163) rfl))) rfl
theorem mw129 : Cond.fieldLink RX0 53 "GuestHouse$Guest" "oldest" "I" ∈ wsA := wa_in (List.mem_append_right _ (List.mem_append_left _ (List.mem_of_getElem? (i := 179) rfl))) rfl
theorem mw130 : Cond.fieldLink RX0 56 "GuestHouse$Guest" "waiting" "I" ∈ wsA := wa_in (List.mem_append_right _ (List.mem_append_left _ (List.mem_of_getElem? (i := 180) rfl))) rfl
theorem mw131 : Cond.fieldLink RX0 59 "GuestHouse$Guest" "putCount" "I" ∈ wsA := wa_in (List.mem_append_right _ (List.mem_append_left _ (List.mem_of_getElem? (i := 184) rfl))) rfl
theorem mw132 : Cond.methodLink RX0 44 yX0_reset ∈ wsA := wa_in (List.mem_append_right _ (List.mem_append_left _ (List.mem_of_getElem? (i := 225) rfl))) rfl
theorem mw133 : Cond.instanceMethod yX0_reset ∈ wsA := wa_in (List.mem_append_right _ (List.mem_append_left _ (List.mem_of_getElem? (i := 226) rfl))) rfl
theorem mw134 : Cond.selects RX0 yX0_reset yX0_reset ∈ wsA := wa_in (List.mem_append_right _ (List.mem_append_left _ (List.mem_of_getElem? (i := 227) rfl))) rfl
theorem mw135 : Cond.code yX0_reset cX0_reset 1 none ∈ wsA := wa_in (List.mem_append_right _ (List.mem_append_left _ (List.mem_of_getElem? (i := 228) rfl))) rfl
theorem mw136 : Cond.fieldLink RX0 62 "GuestHouse$Guest" "pc" "I" ∈ wsA := wa_in (List.mem_append_right _ (List.mem_append_left _ (List.mem_of_getElem? (i := 155) rfl))) rfl
theorem mw137 : Cond.fieldLink RX0 65 "GuestHouse$Guest" "mode" "I" ∈ wsA := wa_in (List.mem_append_right _ (List.mem_append_left _ (List.mem_of_getElem? (i := 158) rfl))) rfl
theorem mw138 : Cond.fieldLink RX0 68 "GuestHouse$Guest" "place" "I" ∈ wsA := wa_in (List.mem_append_right _ (List.mem_append_left _ (List.mem_of_getElem? (i := 160) rfl))) rfl
theorem mw139 : Cond.fieldLink RX0 71 "GuestHouse$Guest" "traps" "I" ∈ wsA := wa_in (List.mem_append_right _ (List.mem_append_left _ (List.mem_of_getElem? (i := 162) rfl))) rfl
theorem mw140 : Cond.methodLink RX0 47 yJ7_fill_53178 ∈ wsA := wa_in (List.mem_append_right _ (List.mem_append_left _ (List.mem_of_getElem? (i := 229) rfl))) rfl
theorem mw141 : Cond.methodLink RX0 74 yX0_emptyCache ∈ wsA := wa_in (List.mem_append_right _ (List.mem_append_left _ (List.mem_of_getElem? (i := 230) rfl))) rfl
theorem mw142 : Cond.instanceMethod yX0_emptyCache ∈ wsA := wa_in (List.mem_append_right _ (List.mem_append_left _ (List.mem_of_getElem? (i := 231) rfl))) rfl
theorem mw143 : Cond.selects RX0 yX0_emptyCache yX0_emptyCache ∈ wsA := wa_in (List.mem_append_right _ (List.mem_append_left _ (List.mem_of_getElem? (i := 232) rfl))) rfl
theorem mw144 : Cond.code yX0_emptyCache cX0_emptyCache 1 none ∈ wsA := wa_in (List.mem_append_right _ (List.mem_append_left _ (List.mem_of_getElem? (i := 233) rfl))) rfl
theorem mw145 : Cond.methodLink RX3 47 yX1_lendBlank ∈ wsA := wa_in (List.mem_append_right _ (List.mem_append_left _ (List.mem_of_getElem? (i := 234) rfl))) rfl
theorem mw146 : Cond.instanceMethod yX1_lendBlank ∈ wsA := wa_in (List.mem_append_right _ (List.mem_append_left _ (List.mem_of_getElem? (i := 235) rfl))) rfl
theorem mw147 : Cond.selects RX1 yX1_lendBlank yX1_lendBlank ∈ wsA := wa_in (List.mem_append_right _ (List.mem_append_left _ (List.mem_of_getElem? (i := 236) rfl))) rfl
theorem mw148 : Cond.code yX1_lendBlank cX1_lendBlank 3 none ∈ wsA := wa_in (List.mem_append_right _ (List.mem_append_left _ (List.mem_of_getElem? (i := 237) rfl))) rfl
theorem mw149 : Cond.methodLink RL 22 yX5_guest ∈ wsA := wa_in (List.mem_append_right _ (List.mem_append_right _ (List.mem_append_right _ (List.mem_append_left _ (List.mem_of_getElem? (i := 157) rfl))))) rfl
theorem mw150 : Cond.instanceMethod yX5_guest ∈ wsA := wa_in (List.mem_append_right _ (List.mem_append_right _ (List.mem_append_right _ (List.mem_append_left _ (List.mem_of_getElem? (i := 158) rfl))))) rfl
theorem mw151 : Cond.selects RX5 yX5_guest yX5_guest ∈ wsA := wa_in (List.mem_append_right _ (List.mem_append_right _ (List.mem_append_right _ (List.mem_append_left _ (List.mem_of_getElem? (i := 159) rfl))))) rfl
theorem mw152 : Cond.code yX5_guest cX5_guest 3 (some .int) ∈ wsA := wa_in (List.mem_append_right _ (List.mem_append_right _ (List.mem_append_right _ (List.mem_append_left _ (List.mem_of_getElem? (i := 160) rfl))))) rfl
theorem mw153 : Cond.methodLink RX5 34 yX5_free ∈ wsA := wa_in (List.mem_append_right _ (List.mem_append_right _ (List.mem_append_right _ (List.mem_append_left _ (List.mem_of_getElem? (i := 161) rfl))))) rfl
theorem mw154 : Cond.instanceMethod yX5_free ∈ wsA := wa_in (List.mem_append_right _ (List.mem_append_right _ (List.mem_append_right _ (List.mem_append_left _ (List.mem_of_getElem? (i := 163) rfl))))) rfl
theorem mw155 : Cond.selects RX5 yX5_free yX5_free ∈ wsA := wa_in (List.mem_append_left _ (List.mem_of_getElem? (i := 27) rfl)) rfl
theorem mw156 : Cond.code yX5_free cX5_free 2 (some .int) ∈ wsA := wa_in (List.mem_append_right _ (List.mem_append_right _ (List.mem_append_right _ (List.mem_append_left _ (List.mem_of_getElem? (i := 164) rfl))))) rfl
theorem mw157 : Cond.methodLink RX5 38 yX4_make ∈ wsA := wa_in (List.mem_append_right _ (List.mem_append_right _ (List.mem_append_right _ (List.mem_append_left _ (List.mem_of_getElem? (i := 165) rfl))))) rfl
theorem mw158 : Cond.instanceMethod yX4_make ∈ wsA := wa_in (List.mem_append_right _ (List.mem_append_right _ (List.mem_append_right _ (List.mem_append_left _ (List.mem_of_getElem? (i := 166) rfl))))) rfl
theorem mw159 : Cond.selects RX4 yX4_make yX4_make ∈ wsA := wa_in (List.mem_append_right _ (List.mem_append_right _ (List.mem_append_right _ (List.mem_append_left _ (List.mem_of_getElem? (i := 167) rfl))))) rfl
theorem mw160 : Cond.code yX4_make cX4_make 3 none ∈ wsA := wa_in (List.mem_append_right _ (List.mem_append_right _ (List.mem_append_right _ (List.mem_append_left _ (List.mem_of_getElem? (i := 168) rfl))))) rfl
theorem mw161 : Cond.fieldLink RX4 36 "GuestHouseModel$Bare" "frames" "I" ∈ wsA := wa_in (List.mem_append_right _ (List.mem_append_right _ (List.mem_append_right _ (List.mem_append_left _ (List.mem_of_getElem? (i := 62) rfl))))) rfl
theorem mw162 : Cond.fieldLink RX4 40 "GuestHouseModel$Bare" "isThere" "Z" ∈ wsA := wa_in (List.mem_append_right _ (List.mem_append_right _ (List.mem_append_right _ (List.mem_append_left _ (List.mem_of_getElem? (i := 64) rfl))))) rfl
theorem mw163 : Cond.fieldLink RX4 44 "GuestHouseModel$Bare" "ins" "I" ∈ wsA := wa_in (List.mem_append_right _ (List.mem_append_right _ (List.mem_append_right _ (List.mem_append_left _ (List.mem_of_getElem? (i := 90) rfl))))) rfl
theorem mw164 : Cond.fieldLink RX4 47 "GuestHouseModel$Bare" "outs" "I" ∈ wsA := wa_in (List.mem_append_right _ (List.mem_append_right _ (List.mem_append_right _ (List.mem_append_left _ (List.mem_of_getElem? (i := 92) rfl))))) rfl
theorem mw165 : Cond.fieldLink RX4 54 "GuestHouseModel$Bare" "mode" "I" ∈ wsA := wa_in (List.mem_append_right _ (List.mem_append_right _ (List.mem_append_right _ (List.mem_append_left _ (List.mem_of_getElem? (i := 84) rfl))))) rfl
theorem mw166 : Cond.fieldLink RX4 57 "GuestHouseModel$Bare" "state" "I" ∈ wsA := wa_in (List.mem_append_right _ (List.mem_append_right _ (List.mem_append_right _ (List.mem_append_left _ (List.mem_of_getElem? (i := 86) rfl))))) rfl
theorem mw167 : Cond.methodLink RX4 50 yX4_start ∈ wsA := wa_in (List.mem_append_right _ (List.mem_append_right _ (List.mem_append_right _ (List.mem_append_left _ (List.mem_of_getElem? (i := 169) rfl))))) rfl
theorem mw168 : Cond.instanceMethod yX4_start ∈ wsA := wa_in (List.mem_append_right _ (List.mem_append_right _ (List.mem_append_right _ (List.mem_append_left _ (List.mem_of_getElem? (i := 170) rfl))))) rfl
theorem mw169 : Cond.selects RX4 yX4_start yX4_start ∈ wsA := wa_in (List.mem_append_right _ (List.mem_append_right _ (List.mem_append_right _ (List.mem_append_left _ (List.mem_of_getElem? (i := 171) rfl))))) rfl
theorem mw170 : Cond.code yX4_start cX4_start 3 none ∈ wsA := wa_in (List.mem_append_right _ (List.mem_append_right _ (List.mem_append_right _ (List.mem_append_left _ (List.mem_of_getElem? (i := 172) rfl))))) rfl
theorem mw171 : Cond.fieldLink RX4 63 "GuestHouseModel$Bare" "place" "I" ∈ wsA := wa_in (List.mem_append_right _ (List.mem_append_right _ (List.mem_append_right _ (List.mem_append_left _ (List.mem_of_getElem? (i := 88) rfl))))) rfl
theorem mw172 : Cond.fieldLink RX4 60 "GuestHouseModel$Bare" "pc" "I" ∈ wsA := wa_in (List.mem_append_right _ (List.mem_append_right _ (List.mem_append_right _ (List.mem_append_left _ (List.mem_of_getElem? (i := 82) rfl))))) rfl
theorem mw173 : Cond.fieldLink RX4 66 "GuestHouseModel$Bare" "traps" "I" ∈ wsA := wa_in (List.mem_append_right _ (List.mem_append_right _ (List.mem_append_right _ (List.mem_append_left _ (List.mem_of_getElem? (i := 94) rfl))))) rfl
theorem mw174 : Cond.methodLink RX4 69 yX4_forget ∈ wsA := wa_in (List.mem_append_right _ (List.mem_append_right _ (List.mem_append_right _ (List.mem_append_left _ (List.mem_of_getElem? (i := 173) rfl))))) rfl
theorem mw175 : Cond.instanceMethod yX4_forget ∈ wsA := wa_in (List.mem_append_right _ (List.mem_append_right _ (List.mem_append_right _ (List.mem_append_left _ (List.mem_of_getElem? (i := 175) rfl))))) rfl
theorem mw176 : Cond.selects RX4 yX4_forget yX4_forget ∈ wsA := wa_in (List.mem_append_left _ (List.mem_of_getElem? (i := 28) rfl)) rfl
theorem mw177 : Cond.code yX4_forget cX4_forget 2 none ∈ wsA := wa_in (List.mem_append_right _ (List.mem_append_right _ (List.mem_append_right _ (List.mem_append_left _ (List.mem_of_getElem? (i := 176) rfl))))) rfl
theorem mw178 : Cond.methodLink RL 23 yX3_poke ∈ wsA := wa_in (List.mem_append_right _ (List.mem_append_left _ (List.mem_of_getElem? (i := 238) rfl))) rfl
theorem mw179 : Cond.instanceMethod yX3_poke ∈ wsA := wa_in (List.mem_append_right _ (List.mem_append_left _ (List.mem_of_getElem? (i := 239) rfl))) rfl
theorem mw180 : Cond.selects RX3 yX3_poke yX3_poke ∈ wsA := wa_in (List.mem_append_right _ (List.mem_append_right _ (List.mem_append_left _ (List.mem_of_getElem? (i := 0) rfl)))) rfl
theorem mw181 : Cond.code yX3_poke cX3_poke 5 (some .int) ∈ wsA := wa_in (List.mem_append_right _ (List.mem_append_right _ (List.mem_append_left _ (List.mem_of_getElem? (i := 1) rfl)))) rfl
theorem mw182 : Cond.methodLink RX3 58 yX0_hasWord ∈ wsA := wa_in (List.mem_append_right _ (List.mem_append_right _ (List.mem_append_left _ (List.mem_of_getElem? (i := 2) rfl)))) rfl
theorem mw183 : Cond.instanceMethod yX0_hasWord ∈ wsA := wa_in (List.mem_append_right _ (List.mem_append_right _ (List.mem_append_left _ (List.mem_of_getElem? (i := 3) rfl)))) rfl
theorem mw184 : Cond.selects RX0 yX0_hasWord yX0_hasWord ∈ wsA := wa_in (List.mem_append_right _ (List.mem_append_right _ (List.mem_append_left _ (List.mem_of_getElem? (i := 4) rfl)))) rfl
theorem mw185 : Cond.code yX0_hasWord cX0_hasWord 2 (some .boolean) ∈ wsA := wa_in (List.mem_append_right _ (List.mem_append_right _ (List.mem_append_left _ (List.mem_of_getElem? (i := 5) rfl)))) rfl
theorem mw186 : Cond.methodLink RX3 62 yX1_write ∈ wsA := wa_in (List.mem_append_right _ (List.mem_append_right _ (List.mem_append_left _ (List.mem_of_getElem? (i := 6) rfl)))) rfl
theorem mw187 : Cond.instanceMethod yX1_write ∈ wsA := wa_in (List.mem_append_right _ (List.mem_append_right _ (List.mem_append_left _ (List.mem_of_getElem? (i := 7) rfl)))) rfl
theorem mw188 : Cond.selects RX1 yX1_write yX1_write ∈ wsA := wa_in (List.mem_append_right _ (List.mem_append_right _ (List.mem_append_left _ (List.mem_of_getElem? (i := 8) rfl)))) rfl
theorem mw189 : Cond.code yX1_write cX1_write 5 none ∈ wsA := wa_in (List.mem_append_right _ (List.mem_append_right _ (List.mem_append_left _ (List.mem_of_getElem? (i := 9) rfl)))) rfl
theorem mw190 : Cond.methodLink RX1 73 yX0_hasWord ∈ wsA := wa_in (List.mem_append_right _ (List.mem_append_right _ (List.mem_append_left _ (List.mem_of_getElem? (i := 10) rfl)))) rfl
theorem mw191 : Cond.methodLink RX1 76 yX1_bring ∈ wsA := wa_in (List.mem_append_right _ (List.mem_append_right _ (List.mem_append_left _ (List.mem_of_getElem? (i := 11) rfl)))) rfl
theorem mw192 : Cond.instanceMethod yX1_bring ∈ wsA := wa_in (List.mem_append_right _ (List.mem_append_right _ (List.mem_append_left _ (List.mem_of_getElem? (i := 13) rfl)))) rfl
theorem mw193 : Cond.selects RX1 yX1_bring yX1_bring ∈ wsA := wa_in (List.mem_append_left _ (List.mem_of_getElem? (i := 4) rfl)) rfl
theorem mw194 : Cond.code yX1_bring cX1_bring 3 (some .int) ∈ wsA := wa_in (List.mem_append_right _ (List.mem_append_right _ (List.mem_append_left _ (List.mem_of_getElem? (i := 14) rfl)))) rfl
theorem mw195 : Cond.methodLink RX1 87 arraycopyName ∈ wsA := wa_in (List.mem_append_right _ (List.mem_append_right _ (List.mem_append_left _ (List.mem_of_getElem? (i := 39) rfl)))) rfl
theorem mw196 : Cond.native arraycopyName ∈ wsA := wa_in (List.mem_append_right _ (List.mem_append_right _ (List.mem_append_left _ (List.mem_of_getElem? (i := 38) rfl)))) rfl
theorem mw197 : Cond.static arraycopyName ∈ wsA := wa_in (List.mem_append_right _ (List.mem_append_right _ (List.mem_append_left _ (List.mem_of_getElem? (i := 37) rfl)))) rfl
theorem mw198 : Cond.initialized "java/lang/System" ∈ wsA := wa_in (List.mem_append_right _ (List.mem_append_left _ (List.mem_of_getElem? (i := 9) rfl))) rfl
theorem mw199 : Cond.methodLink RX1 65 yX1_isSheet ∈ wsA := wa_in (List.mem_append_right _ (List.mem_append_right _ (List.mem_append_left _ (List.mem_of_getElem? (i := 15) rfl)))) rfl
theorem mw200 : Cond.instanceMethod yX1_isSheet ∈ wsA := wa_in (List.mem_append_right _ (List.mem_append_right _ (List.mem_append_left _ (List.mem_of_getElem? (i := 17) rfl)))) rfl
theorem mw201 : Cond.selects RX1 yX1_isSheet yX1_isSheet ∈ wsA := wa_in (List.mem_append_left _ (List.mem_of_getElem? (i := 5) rfl)) rfl
theorem mw202 : Cond.code yX1_isSheet cX1_isSheet 2 (some .boolean) ∈ wsA := wa_in (List.mem_append_right _ (List.mem_append_right _ (List.mem_append_left _ (List.mem_of_getElem? (i := 18) rfl)))) rfl
theorem mw203 : Cond.methodLink RX1 107 yX1_takeFrame ∈ wsA := wa_in (List.mem_append_right _ (List.mem_append_right _ (List.mem_append_left _ (List.mem_of_getElem? (i := 19) rfl)))) rfl
theorem mw204 : Cond.instanceMethod yX1_takeFrame ∈ wsA := wa_in (List.mem_append_right _ (List.mem_append_right _ (List.mem_append_left _ (List.mem_of_getElem? (i := 21) rfl)))) rfl
theorem mw205 : Cond.selects RX1 yX1_takeFrame yX1_takeFrame ∈ wsA := wa_in (List.mem_append_left _ (List.mem_of_getElem? (i := 6) rfl)) rfl
theorem mw206 : Cond.code yX1_takeFrame cX1_takeFrame 5 (some .int) ∈ wsA := wa_in (List.mem_append_right _ (List.mem_append_right _ (List.mem_append_left _ (List.mem_of_getElem? (i := 22) rfl)))) rfl
theorem mw207 : Cond.methodLink RX1 113 yJ7_copyOf_59c91 ∈ wsA := wa_in (List.mem_append_right _ (List.mem_append_right _ (List.mem_append_left _ (List.mem_of_getElem? (i := 23) rfl)))) rfl
theorem mw208 : Cond.static yJ7_copyOf_59c91 ∈ wsA := wa_in (List.mem_append_right _ (List.mem_append_right _ (List.mem_append_left _ (List.mem_of_getElem? (i := 24) rfl)))) rfl
theorem mw209 : Cond.code yJ7_copyOf_59c91 cJ7_copyOf_59c91 3 (some (.array .int)) ∈ wsA := wa_in (List.mem_append_right _ (List.mem_append_right _ (List.mem_append_left _ (List.mem_of_getElem? (i := 25) rfl)))) rfl
theorem mw210 : Cond.methodLink RJ7 316 ⟨"[I", "clone", "()Ljava/lang/Object;"⟩ ∈ wsA := wa_in (List.mem_append_right _ (List.mem_append_right _ (List.mem_append_left _ (List.mem_of_getElem? (i := 26) rfl)))) rfl
theorem mw211 : Cond.sameMethod "[I" "java/lang/Object" "clone" "()Ljava/lang/Object;" ∈ wsA := wa_in (List.mem_append_right _ (List.mem_append_right _ (List.mem_append_left _ (List.mem_of_getElem? (i := 27) rfl)))) rfl
theorem mw212 : Cond.native ⟨"java/lang/Object", "clone", "()Ljava/lang/Object;"⟩ ∈ wsA := wa_in (List.mem_append_right _ (List.mem_append_right _ (List.mem_append_left _ (List.mem_of_getElem? (i := 28) rfl)))) rfl
theorem mw213 : Cond.instanceMethod ⟨"java/lang/Object", "clone", "()Ljava/lang/Object;"⟩ ∈ wsA := wa_in (List.mem_append_right _ (List.mem_append_right _ (List.mem_append_left _ (List.mem_of_getElem? (i := 29) rfl)))) rfl
theorem mw214 : Cond.selects "[I" ⟨"[I", "clone", "()Ljava/lang/Object;"⟩ ⟨"java/lang/Object", "clone", "()Ljava/lang/Object;"⟩ ∈ wsA := wa_in (List.mem_append_right _ (List.mem_append_right _ (List.mem_append_left _ (List.mem_of_getElem? (i := 30) rfl)))) rfl
theorem mw215 : Cond.classLink RJ7 317 "[I" ∈ wsA := wa_in (List.mem_append_right _ (List.mem_append_right _ (List.mem_append_left _ (List.mem_of_getElem? (i := 32) rfl)))) rfl
theorem mw216 : Cond.methodLink RJ7 304 Lib.Math.min.name ∈ wsA := wa_in (List.mem_append_right _ (List.mem_append_right _ (List.mem_append_left _ (List.mem_of_getElem? (i := 33) rfl)))) rfl
theorem mw217 : Cond.static Lib.Math.min.name ∈ wsA := wa_in (List.mem_append_right _ (List.mem_append_right _ (List.mem_append_left _ (List.mem_of_getElem? (i := 34) rfl)))) rfl
theorem mw218 : Cond.initialized "java/lang/Math" ∈ wsA := wa_in (List.mem_append_right _ (List.mem_append_left _ (List.mem_of_getElem? (i := 8) rfl))) rfl
theorem mw219 : Cond.code Lib.Math.min.name Lib.Math.min.code 2 (some .int) ∈ wsA := wa_in (List.mem_append_right _ (List.mem_append_right _ (List.mem_append_left _ (List.mem_of_getElem? (i := 35) rfl)))) rfl
theorem mw220 : Cond.methodLink RJ7 150 arraycopyName ∈ wsA := wa_in (List.mem_append_right _ (List.mem_append_right _ (List.mem_append_left _ (List.mem_of_getElem? (i := 36) rfl)))) rfl
theorem mw221 : Cond.methodLink RX1 80 yX1_makeOwn ∈ wsA := wa_in (List.mem_append_right _ (List.mem_append_right _ (List.mem_append_left _ (List.mem_of_getElem? (i := 40) rfl)))) rfl
theorem mw222 : Cond.instanceMethod yX1_makeOwn ∈ wsA := wa_in (List.mem_append_right _ (List.mem_append_right _ (List.mem_append_left _ (List.mem_of_getElem? (i := 42) rfl)))) rfl
theorem mw223 : Cond.selects RX1 yX1_makeOwn yX1_makeOwn ∈ wsA := wa_in (List.mem_append_left _ (List.mem_of_getElem? (i := 7) rfl)) rfl
theorem mw224 : Cond.code yX1_makeOwn cX1_makeOwn 7 (some .int) ∈ wsA := wa_in (List.mem_append_right _ (List.mem_append_right _ (List.mem_append_left _ (List.mem_of_getElem? (i := 43) rfl)))) rfl
theorem mw225 : Cond.methodLink RX1 110 yX1_takeSheet ∈ wsA := wa_in (List.mem_append_right _ (List.mem_append_right _ (List.mem_append_left _ (List.mem_of_getElem? (i := 44) rfl)))) rfl
theorem mw226 : Cond.instanceMethod yX1_takeSheet ∈ wsA := wa_in (List.mem_append_right _ (List.mem_append_right _ (List.mem_append_left _ (List.mem_of_getElem? (i := 46) rfl)))) rfl
theorem mw227 : Cond.selects RX1 yX1_takeSheet yX1_takeSheet ∈ wsA := wa_in (List.mem_append_left _ (List.mem_of_getElem? (i := 8) rfl)) rfl
theorem mw228 : Cond.code yX1_takeSheet cX1_takeSheet 3 (some .int) ∈ wsA := wa_in (List.mem_append_right _ (List.mem_append_right _ (List.mem_append_left _ (List.mem_of_getElem? (i := 47) rfl)))) rfl
theorem mw229 : Cond.constant RX1 117 (32832) ∈ wsA := wa_in (List.mem_append_right _ (List.mem_append_right _ (List.mem_append_left _ (List.mem_of_getElem? (i := 48) rfl)))) rfl
theorem mw230 : Cond.methodLink RX1 118 Lib.Math.min.name ∈ wsA := wa_in (List.mem_append_right _ (List.mem_append_right _ (List.mem_append_left _ (List.mem_of_getElem? (i := 49) rfl)))) rfl
theorem mw231 : Cond.methodLink RX1 124 Lib.Math.max.name ∈ wsA := wa_in (List.mem_append_right _ (List.mem_append_right _ (List.mem_append_left _ (List.mem_of_getElem? (i := 50) rfl)))) rfl
theorem mw232 : Cond.static Lib.Math.max.name ∈ wsA := wa_in (List.mem_append_right _ (List.mem_append_right _ (List.mem_append_left _ (List.mem_of_getElem? (i := 51) rfl)))) rfl
theorem mw233 : Cond.code Lib.Math.max.name Lib.Math.max.code 2 (some .int) ∈ wsA := wa_in (List.mem_append_right _ (List.mem_append_right _ (List.mem_append_left _ (List.mem_of_getElem? (i := 52) rfl)))) rfl
theorem mw234 : Cond.methodLink RL 27 yX5_poke ∈ wsA := wa_in (List.mem_append_right _ (List.mem_append_right _ (List.mem_append_right _ (List.mem_append_left _ (List.mem_of_getElem? (i := 177) rfl))))) rfl
theorem mw235 : Cond.instanceMethod yX5_poke ∈ wsA := wa_in (List.mem_append_right _ (List.mem_append_right _ (List.mem_append_right _ (List.mem_append_left _ (List.mem_of_getElem? (i := 178) rfl))))) rfl
theorem mw236 : Cond.selects RX5 yX5_poke yX5_poke ∈ wsA := wa_in (List.mem_append_right _ (List.mem_append_right _ (List.mem_append_right _ (List.mem_append_left _ (List.mem_of_getElem? (i := 179) rfl))))) rfl
theorem mw237 : Cond.code yX5_poke cX5_poke 5 (some .int) ∈ wsA := wa_in (List.mem_append_right _ (List.mem_append_right _ (List.mem_append_right _ (List.mem_append_left _ (List.mem_of_getElem? (i := 180) rfl))))) rfl
theorem mw238 : Cond.fieldLink RX5 46 "GuestHouseModel$Bare" "state" "I" ∈ wsA := wa_in (List.mem_append_right _ (List.mem_append_right _ (List.mem_append_right _ (List.mem_append_left _ (List.mem_of_getElem? (i := 87) rfl))))) rfl
theorem mw239 : Cond.fieldLink RX5 53 "GuestHouseModel$Bare" "memory" "[I" ∈ wsA := wa_in (List.mem_append_right _ (List.mem_append_right _ (List.mem_append_right _ (List.mem_append_left _ (List.mem_of_getElem? (i := 67) rfl))))) rfl
theorem mw240 : Cond.methodLink RX5 42 yX5_of ∈ wsA := wa_in (List.mem_append_right _ (List.mem_append_right _ (List.mem_append_right _ (List.mem_append_left _ (List.mem_of_getElem? (i := 181) rfl))))) rfl
theorem mw241 : Cond.instanceMethod yX5_of ∈ wsA := wa_in (List.mem_append_right _ (List.mem_append_right _ (List.mem_append_right _ (List.mem_append_left _ (List.mem_of_getElem? (i := 183) rfl))))) rfl
theorem mw242 : Cond.selects RX5 yX5_of yX5_of ∈ wsA := wa_in (List.mem_append_left _ (List.mem_of_getElem? (i := 29) rfl)) rfl
theorem mw243 : Cond.code yX5_of cX5_of 2 (some (.object "GuestHouseModel$Bare")) ∈ wsA := wa_in (List.mem_append_right _ (List.mem_append_right _ (List.mem_append_right _ (List.mem_append_left _ (List.mem_of_getElem? (i := 184) rfl))))) rfl
theorem mw244 : Cond.methodLink RX5 49 yX4_isMemory ∈ wsA := wa_in (List.mem_append_right _ (List.mem_append_right _ (List.mem_append_right _ (List.mem_append_left _ (List.mem_of_getElem? (i := 185) rfl))))) rfl
theorem mw245 : Cond.instanceMethod yX4_isMemory ∈ wsA := wa_in (List.mem_append_right _ (List.mem_append_right _ (List.mem_append_right _ (List.mem_append_left _ (List.mem_of_getElem? (i := 186) rfl))))) rfl
theorem mw246 : Cond.selects RX4 yX4_isMemory yX4_isMemory ∈ wsA := wa_in (List.mem_append_right _ (List.mem_append_right _ (List.mem_append_right _ (List.mem_append_left _ (List.mem_of_getElem? (i := 187) rfl))))) rfl
theorem mw247 : Cond.code yX4_isMemory cX4_isMemory 2 (some .boolean) ∈ wsA := wa_in (List.mem_append_right _ (List.mem_append_right _ (List.mem_append_right _ (List.mem_append_left _ (List.mem_of_getElem? (i := 188) rfl))))) rfl
theorem mw248 : Cond.static yX5_isBelow ∈ wsA := wa_in (List.mem_append_right _ (List.mem_append_right _ (List.mem_append_right _ (List.mem_append_left _ (List.mem_of_getElem? (i := 190) rfl))))) rfl
theorem mw249 : Cond.code yX5_isBelow cX5_isBelow 2 (some .boolean) ∈ wsA := wa_in (List.mem_append_right _ (List.mem_append_right _ (List.mem_append_right _ (List.mem_append_left _ (List.mem_of_getElem? (i := 191) rfl))))) rfl
theorem mw250 : Cond.constant RX5 1 (-2147483648) ∈ wsA := wa_in (List.mem_append_right _ (List.mem_append_right _ (List.mem_append_right _ (List.mem_append_left _ (List.mem_of_getElem? (i := 192) rfl))))) rfl
theorem mw251 : Cond.methodLink RL 28 yX3_pokeDisk ∈ wsA := wa_in (List.mem_append_right _ (List.mem_append_right _ (List.mem_append_left _ (List.mem_of_getElem? (i := 53) rfl)))) rfl
theorem mw252 : Cond.instanceMethod yX3_pokeDisk ∈ wsA := wa_in (List.mem_append_right _ (List.mem_append_right _ (List.mem_append_left _ (List.mem_of_getElem? (i := 54) rfl)))) rfl
theorem mw253 : Cond.selects RX3 yX3_pokeDisk yX3_pokeDisk ∈ wsA := wa_in (List.mem_append_right _ (List.mem_append_right _ (List.mem_append_left _ (List.mem_of_getElem? (i := 55) rfl)))) rfl
theorem mw254 : Cond.code yX3_pokeDisk cX3_pokeDisk 5 (some .int) ∈ wsA := wa_in (List.mem_append_right _ (List.mem_append_right _ (List.mem_append_left _ (List.mem_of_getElem? (i := 56) rfl)))) rfl
theorem mw255 : Cond.methodLink RL 31 yX5_pokeDisk ∈ wsA := wa_in (List.mem_append_right _ (List.mem_append_right _ (List.mem_append_right _ (List.mem_append_left _ (List.mem_of_getElem? (i := 193) rfl))))) rfl
theorem mw256 : Cond.instanceMethod yX5_pokeDisk ∈ wsA := wa_in (List.mem_append_right _ (List.mem_append_right _ (List.mem_append_right _ (List.mem_append_left _ (List.mem_of_getElem? (i := 194) rfl))))) rfl
theorem mw257 : Cond.selects RX5 yX5_pokeDisk yX5_pokeDisk ∈ wsA := wa_in (List.mem_append_right _ (List.mem_append_right _ (List.mem_append_right _ (List.mem_append_left _ (List.mem_of_getElem? (i := 195) rfl))))) rfl
theorem mw258 : Cond.code yX5_pokeDisk cX5_pokeDisk 5 (some .int) ∈ wsA := wa_in (List.mem_append_right _ (List.mem_append_right _ (List.mem_append_right _ (List.mem_append_left _ (List.mem_of_getElem? (i := 196) rfl))))) rfl
theorem mw259 : Cond.fieldLink RX5 57 "GuestHouseModel$Bare" "disk" "[I" ∈ wsA := wa_in (List.mem_append_right _ (List.mem_append_right _ (List.mem_append_right _ (List.mem_append_left _ (List.mem_of_getElem? (i := 69) rfl))))) rfl
theorem mw260 : Cond.methodLink RL 32 yX3_start ∈ wsA := wa_in (List.mem_append_right _ (List.mem_append_right _ (List.mem_append_left _ (List.mem_of_getElem? (i := 57) rfl)))) rfl
theorem mw261 : Cond.instanceMethod yX3_start ∈ wsA := wa_in (List.mem_append_right _ (List.mem_append_right _ (List.mem_append_left _ (List.mem_of_getElem? (i := 58) rfl)))) rfl
theorem mw262 : Cond.selects RX3 yX3_start yX3_start ∈ wsA := wa_in (List.mem_append_right _ (List.mem_append_right _ (List.mem_append_left _ (List.mem_of_getElem? (i := 59) rfl)))) rfl
theorem mw263 : Cond.code yX3_start cX3_start 4 (some .int) ∈ wsA := wa_in (List.mem_append_right _ (List.mem_append_right _ (List.mem_append_left _ (List.mem_of_getElem? (i := 60) rfl)))) rfl
theorem mw264 : Cond.methodLink RX3 70 yX0_reset ∈ wsA := wa_in (List.mem_append_right _ (List.mem_append_right _ (List.mem_append_left _ (List.mem_of_getElem? (i := 61) rfl)))) rfl
theorem mw265 : Cond.methodLink RL 35 yX5_start ∈ wsA := wa_in (List.mem_append_right _ (List.mem_append_right _ (List.mem_append_right _ (List.mem_append_left _ (List.mem_of_getElem? (i := 197) rfl))))) rfl
theorem mw266 : Cond.instanceMethod yX5_start ∈ wsA := wa_in (List.mem_append_right _ (List.mem_append_right _ (List.mem_append_right _ (List.mem_append_left _ (List.mem_of_getElem? (i := 198) rfl))))) rfl
theorem mw267 : Cond.selects RX5 yX5_start yX5_start ∈ wsA := wa_in (List.mem_append_right _ (List.mem_append_right _ (List.mem_append_right _ (List.mem_append_left _ (List.mem_of_getElem? (i := 199) rfl))))) rfl
theorem mw268 : Cond.code yX5_start cX5_start 4 (some .int) ∈ wsA := wa_in (List.mem_append_right _ (List.mem_append_right _ (List.mem_append_right _ (List.mem_append_left _ (List.mem_of_getElem? (i := 200) rfl))))) rfl
theorem mw269 : Cond.methodLink RX5 60 yX4_start ∈ wsA := wa_in (List.mem_append_right _ (List.mem_append_right _ (List.mem_append_right _ (List.mem_append_left _ (List.mem_of_getElem? (i := 201) rfl))))) rfl
theorem mw270 : Cond.methodLink RL 36 yX3_stop ∈ wsA := wa_in (List.mem_append_right _ (List.mem_append_right _ (List.mem_append_left _ (List.mem_of_getElem? (i := 62) rfl)))) rfl
theorem mw271 : Cond.instanceMethod yX3_stop ∈ wsA := wa_in (List.mem_append_right _ (List.mem_append_right _ (List.mem_append_left _ (List.mem_of_getElem? (i := 63) rfl)))) rfl
theorem mw272 : Cond.selects RX3 yX3_stop yX3_stop ∈ wsA := wa_in (List.mem_append_right _ (List.mem_append_right _ (List.mem_append_left _ (List.mem_of_getElem? (i := 64) rfl)))) rfl
theorem mw273 : Cond.code yX3_stop cX3_stop 3 (some .int) ∈ wsA := wa_in (List.mem_append_right _ (List.mem_append_right _ (List.mem_append_left _ (List.mem_of_getElem? (i := 65) rfl)))) rfl
theorem mw274 : Cond.methodLink RL 39 yX5_stop ∈ wsA := wa_in (List.mem_append_right _ (List.mem_append_right _ (List.mem_append_right _ (List.mem_append_left _ (List.mem_of_getElem? (i := 202) rfl))))) rfl
theorem mw275 : Cond.instanceMethod yX5_stop ∈ wsA := wa_in (List.mem_append_right _ (List.mem_append_right _ (List.mem_append_right _ (List.mem_append_left _ (List.mem_of_getElem? (i := 203) rfl))))) rfl
theorem mw276 : Cond.selects RX5 yX5_stop yX5_stop ∈ wsA := wa_in (List.mem_append_right _ (List.mem_append_right _ (List.mem_append_right _ (List.mem_append_left _ (List.mem_of_getElem? (i := 204) rfl))))) rfl
theorem mw277 : Cond.code yX5_stop cX5_stop 2 (some .int) ∈ wsA := wa_in (List.mem_append_right _ (List.mem_append_right _ (List.mem_append_right _ (List.mem_append_left _ (List.mem_of_getElem? (i := 205) rfl))))) rfl
theorem mw278 : Cond.methodLink RL 40 yX3_input ∈ wsA := wa_in (List.mem_append_right _ (List.mem_append_right _ (List.mem_append_left _ (List.mem_of_getElem? (i := 66) rfl)))) rfl
theorem mw279 : Cond.instanceMethod yX3_input ∈ wsA := wa_in (List.mem_append_right _ (List.mem_append_right _ (List.mem_append_left _ (List.mem_of_getElem? (i := 67) rfl)))) rfl
theorem mw280 : Cond.selects RX3 yX3_input yX3_input ∈ wsA := wa_in (List.mem_append_right _ (List.mem_append_right _ (List.mem_append_left _ (List.mem_of_getElem? (i := 68) rfl)))) rfl
theorem mw281 : Cond.code yX3_input cX3_input 4 (some .int) ∈ wsA := wa_in (List.mem_append_right _ (List.mem_append_right _ (List.mem_append_left _ (List.mem_of_getElem? (i := 69) rfl)))) rfl
theorem mw282 : Cond.methodLink RX3 79 yX0_arrive ∈ wsA := wa_in (List.mem_append_right _ (List.mem_append_right _ (List.mem_append_left _ (List.mem_of_getElem? (i := 70) rfl)))) rfl
theorem mw283 : Cond.instanceMethod yX0_arrive ∈ wsA := wa_in (List.mem_append_right _ (List.mem_append_right _ (List.mem_append_left _ (List.mem_of_getElem? (i := 71) rfl)))) rfl
theorem mw284 : Cond.selects RX0 yX0_arrive yX0_arrive ∈ wsA := wa_in (List.mem_append_right _ (List.mem_append_right _ (List.mem_append_left _ (List.mem_of_getElem? (i := 72) rfl)))) rfl
theorem mw285 : Cond.code yX0_arrive cX0_arrive 2 (some .boolean) ∈ wsA := wa_in (List.mem_append_right _ (List.mem_append_right _ (List.mem_append_left _ (List.mem_of_getElem? (i := 73) rfl)))) rfl
theorem mw286 : Cond.methodLink RL 43 yX5_input ∈ wsA := wa_in (List.mem_append_right _ (List.mem_append_right _ (List.mem_append_right _ (List.mem_append_left _ (List.mem_of_getElem? (i := 206) rfl))))) rfl
theorem mw287 : Cond.instanceMethod yX5_input ∈ wsA := wa_in (List.mem_append_right _ (List.mem_append_right _ (List.mem_append_right _ (List.mem_append_left _ (List.mem_of_getElem? (i := 207) rfl))))) rfl
theorem mw288 : Cond.selects RX5 yX5_input yX5_input ∈ wsA := wa_in (List.mem_append_right _ (List.mem_append_right _ (List.mem_append_right _ (List.mem_append_left _ (List.mem_of_getElem? (i := 208) rfl))))) rfl
theorem mw289 : Cond.code yX5_input cX5_input 4 (some .int) ∈ wsA := wa_in (List.mem_append_right _ (List.mem_append_right _ (List.mem_append_right _ (List.mem_append_left _ (List.mem_of_getElem? (i := 209) rfl))))) rfl
theorem mw290 : Cond.fieldLink RX5 63 "GuestHouseModel$Bare" "ins" "I" ∈ wsA := wa_in (List.mem_append_right _ (List.mem_append_right _ (List.mem_append_right _ (List.mem_append_left _ (List.mem_of_getElem? (i := 91) rfl))))) rfl
theorem mw291 : Cond.fieldLink RX5 66 "GuestHouseModel$Bare" "in" "[I" ∈ wsA := wa_in (List.mem_append_right _ (List.mem_append_right _ (List.mem_append_right _ (List.mem_append_left _ (List.mem_of_getElem? (i := 79) rfl))))) rfl
theorem mw292 : Cond.methodLink RL 44 yX3_copy ∈ wsA := wa_in (List.mem_append_right _ (List.mem_append_right _ (List.mem_append_left _ (List.mem_of_getElem? (i := 74) rfl)))) rfl
theorem mw293 : Cond.instanceMethod yX3_copy ∈ wsA := wa_in (List.mem_append_right _ (List.mem_append_right _ (List.mem_append_left _ (List.mem_of_getElem? (i := 75) rfl)))) rfl
theorem mw294 : Cond.selects RX3 yX3_copy yX3_copy ∈ wsA := wa_in (List.mem_append_right _ (List.mem_append_right _ (List.mem_append_left _ (List.mem_of_getElem? (i := 76) rfl)))) rfl
theorem mw295 : Cond.code yX3_copy cX3_copy 5 (some .int) ∈ wsA := wa_in (List.mem_append_right _ (List.mem_append_right _ (List.mem_append_left _ (List.mem_of_getElem? (i := 77) rfl)))) rfl
theorem mw296 : Cond.methodLink RX3 82 yX0_become ∈ wsA := wa_in (List.mem_append_right _ (List.mem_append_right _ (List.mem_append_left _ (List.mem_of_getElem? (i := 78) rfl)))) rfl
theorem mw297 : Cond.instanceMethod yX0_become ∈ wsA := wa_in (List.mem_append_right _ (List.mem_append_right _ (List.mem_append_left _ (List.mem_of_getElem? (i := 79) rfl)))) rfl
theorem mw298 : Cond.selects RX0 yX0_become yX0_become ∈ wsA := wa_in (List.mem_append_right _ (List.mem_append_right _ (List.mem_append_left _ (List.mem_of_getElem? (i := 80) rfl)))) rfl
theorem mw299 : Cond.code yX0_become cX0_become 2 none ∈ wsA := wa_in (List.mem_append_right _ (List.mem_append_right _ (List.mem_append_left _ (List.mem_of_getElem? (i := 81) rfl)))) rfl
theorem mw300 : Cond.methodLink RX0 77 arraycopyName ∈ wsA := wa_in (List.mem_append_right _ (List.mem_append_right _ (List.mem_append_left _ (List.mem_of_getElem? (i := 82) rfl)))) rfl
theorem mw301 : Cond.methodLink RX3 85 yX1_shareSheets ∈ wsA := wa_in (List.mem_append_right _ (List.mem_append_right _ (List.mem_append_left _ (List.mem_of_getElem? (i := 83) rfl)))) rfl
theorem mw302 : Cond.instanceMethod yX1_shareSheets ∈ wsA := wa_in (List.mem_append_right _ (List.mem_append_right _ (List.mem_append_left _ (List.mem_of_getElem? (i := 84) rfl)))) rfl
theorem mw303 : Cond.selects RX1 yX1_shareSheets yX1_shareSheets ∈ wsA := wa_in (List.mem_append_right _ (List.mem_append_right _ (List.mem_append_left _ (List.mem_of_getElem? (i := 85) rfl)))) rfl
theorem mw304 : Cond.code yX1_shareSheets cX1_shareSheets 5 none ∈ wsA := wa_in (List.mem_append_right _ (List.mem_append_right _ (List.mem_append_left _ (List.mem_of_getElem? (i := 86) rfl)))) rfl
theorem mw305 : Cond.methodLink RL 47 yX5_copy ∈ wsA := wa_in (List.mem_append_right _ (List.mem_append_right _ (List.mem_append_right _ (List.mem_append_left _ (List.mem_of_getElem? (i := 210) rfl))))) rfl
theorem mw306 : Cond.instanceMethod yX5_copy ∈ wsA := wa_in (List.mem_append_right _ (List.mem_append_right _ (List.mem_append_right _ (List.mem_append_left _ (List.mem_of_getElem? (i := 211) rfl))))) rfl
theorem mw307 : Cond.selects RX5 yX5_copy yX5_copy ∈ wsA := wa_in (List.mem_append_right _ (List.mem_append_right _ (List.mem_append_right _ (List.mem_append_left _ (List.mem_of_getElem? (i := 212) rfl))))) rfl
theorem mw308 : Cond.code yX5_copy cX5_copy 4 (some .int) ∈ wsA := wa_in (List.mem_append_right _ (List.mem_append_right _ (List.mem_append_right _ (List.mem_append_left _ (List.mem_of_getElem? (i := 213) rfl))))) rfl
theorem mw309 : Cond.methodLink RX5 69 yX4_copy ∈ wsA := wa_in (List.mem_append_right _ (List.mem_append_right _ (List.mem_append_right _ (List.mem_append_left _ (List.mem_of_getElem? (i := 214) rfl))))) rfl
theorem mw310 : Cond.instanceMethod yX4_copy ∈ wsA := wa_in (List.mem_append_right _ (List.mem_append_right _ (List.mem_append_right _ (List.mem_append_left _ (List.mem_of_getElem? (i := 215) rfl))))) rfl
theorem mw311 : Cond.selects RX4 yX4_copy yX4_copy ∈ wsA := wa_in (List.mem_append_right _ (List.mem_append_right _ (List.mem_append_right _ (List.mem_append_left _ (List.mem_of_getElem? (i := 216) rfl))))) rfl
theorem mw312 : Cond.code yX4_copy cX4_copy 3 none ∈ wsA := wa_in (List.mem_append_right _ (List.mem_append_right _ (List.mem_append_right _ (List.mem_append_left _ (List.mem_of_getElem? (i := 217) rfl))))) rfl
theorem mw313 : Cond.methodLink RL 48 yX3_drop ∈ wsA := wa_in (List.mem_append_right _ (List.mem_append_right _ (List.mem_append_left _ (List.mem_of_getElem? (i := 87) rfl)))) rfl
theorem mw314 : Cond.instanceMethod yX3_drop ∈ wsA := wa_in (List.mem_append_right _ (List.mem_append_right _ (List.mem_append_left _ (List.mem_of_getElem? (i := 88) rfl)))) rfl
theorem mw315 : Cond.selects RX3 yX3_drop yX3_drop ∈ wsA := wa_in (List.mem_append_right _ (List.mem_append_right _ (List.mem_append_left _ (List.mem_of_getElem? (i := 89) rfl)))) rfl
theorem mw316 : Cond.code yX3_drop cX3_drop 3 (some .int) ∈ wsA := wa_in (List.mem_append_right _ (List.mem_append_right _ (List.mem_append_left _ (List.mem_of_getElem? (i := 90) rfl)))) rfl
theorem mw317 : Cond.methodLink RX3 89 yX1_release ∈ wsA := wa_in (List.mem_append_right _ (List.mem_append_right _ (List.mem_append_left _ (List.mem_of_getElem? (i := 91) rfl)))) rfl
theorem mw318 : Cond.instanceMethod yX1_release ∈ wsA := wa_in (List.mem_append_right _ (List.mem_append_right _ (List.mem_append_left _ (List.mem_of_getElem? (i := 92) rfl)))) rfl
theorem mw319 : Cond.selects RX1 yX1_release yX1_release ∈ wsA := wa_in (List.mem_append_right _ (List.mem_append_right _ (List.mem_append_left _ (List.mem_of_getElem? (i := 93) rfl)))) rfl
theorem mw320 : Cond.code yX1_release cX1_release 4 none ∈ wsA := wa_in (List.mem_append_right _ (List.mem_append_right _ (List.mem_append_left _ (List.mem_of_getElem? (i := 94) rfl)))) rfl
theorem mw321 : Cond.methodLink RX1 69 yX1_freeSheet ∈ wsA := wa_in (List.mem_append_right _ (List.mem_append_right _ (List.mem_append_left _ (List.mem_of_getElem? (i := 95) rfl)))) rfl
theorem mw322 : Cond.instanceMethod yX1_freeSheet ∈ wsA := wa_in (List.mem_append_right _ (List.mem_append_right _ (List.mem_append_left _ (List.mem_of_getElem? (i := 97) rfl)))) rfl
theorem mw323 : Cond.selects RX1 yX1_freeSheet yX1_freeSheet ∈ wsA := wa_in (List.mem_append_left _ (List.mem_of_getElem? (i := 9) rfl)) rfl
theorem mw324 : Cond.code yX1_freeSheet cX1_freeSheet 3 none ∈ wsA := wa_in (List.mem_append_right _ (List.mem_append_right _ (List.mem_append_left _ (List.mem_of_getElem? (i := 98) rfl)))) rfl
theorem mw325 : Cond.methodLink RL 51 yX5_drop ∈ wsA := wa_in (List.mem_append_right _ (List.mem_append_right _ (List.mem_append_right _ (List.mem_append_left _ (List.mem_of_getElem? (i := 218) rfl))))) rfl
theorem mw326 : Cond.instanceMethod yX5_drop ∈ wsA := wa_in (List.mem_append_right _ (List.mem_append_right _ (List.mem_append_right _ (List.mem_append_left _ (List.mem_of_getElem? (i := 219) rfl))))) rfl
theorem mw327 : Cond.selects RX5 yX5_drop yX5_drop ∈ wsA := wa_in (List.mem_append_right _ (List.mem_append_right _ (List.mem_append_right _ (List.mem_append_left _ (List.mem_of_getElem? (i := 220) rfl))))) rfl
theorem mw328 : Cond.code yX5_drop cX5_drop 2 (some .int) ∈ wsA := wa_in (List.mem_append_right _ (List.mem_append_right _ (List.mem_append_right _ (List.mem_append_left _ (List.mem_of_getElem? (i := 221) rfl))))) rfl
theorem mw329 : Cond.methodLink RL 52 yX3_run ∈ wsA := wa_in (List.mem_append_right _ (List.mem_append_right _ (List.mem_append_left _ (List.mem_of_getElem? (i := 99) rfl)))) rfl
theorem mw330 : Cond.instanceMethod yX3_run ∈ wsA := wa_in (List.mem_append_right _ (List.mem_append_right _ (List.mem_append_left _ (List.mem_of_getElem? (i := 100) rfl)))) rfl
theorem mw331 : Cond.selects RX3 yX3_run yX3_run ∈ wsA := wa_in (List.mem_append_right _ (List.mem_append_right _ (List.mem_append_left _ (List.mem_of_getElem? (i := 101) rfl)))) rfl
theorem mw332 : Cond.code yX3_run cX3_run 4 (some .int) ∈ wsA := wa_in (List.mem_append_right _ (List.mem_append_right _ (List.mem_append_left _ (List.mem_of_getElem? (i := 102) rfl)))) rfl
theorem mw333 : Cond.methodLink RX3 96 yX3_nextTurn ∈ wsA := wa_in (List.mem_append_right _ (List.mem_append_right _ (List.mem_append_left _ (List.mem_of_getElem? (i := 103) rfl)))) rfl
theorem mw334 : Cond.instanceMethod yX3_nextTurn ∈ wsA := wa_in (List.mem_append_right _ (List.mem_append_right _ (List.mem_append_left _ (List.mem_of_getElem? (i := 105) rfl)))) rfl
theorem mw335 : Cond.selects RX3 yX3_nextTurn yX3_nextTurn ∈ wsA := wa_in (List.mem_append_left _ (List.mem_of_getElem? (i := 10) rfl)) rfl
theorem mw336 : Cond.code yX3_nextTurn cX3_nextTurn 4 (some (.object "GuestHouse$Guest")) ∈ wsA := wa_in (List.mem_append_right _ (List.mem_append_right _ (List.mem_append_left _ (List.mem_of_getElem? (i := 106) rfl)))) rfl
theorem mw337 : Cond.methodLink RX3 100 yX2_step ∈ wsA := wa_in (List.mem_append_right _ (List.mem_append_right _ (List.mem_append_left _ (List.mem_of_getElem? (i := 107) rfl)))) rfl
theorem mw338 : Cond.instanceMethod yX2_step ∈ wsA := wa_in (List.mem_append_right _ (List.mem_append_right _ (List.mem_append_left _ (List.mem_of_getElem? (i := 108) rfl)))) rfl
theorem mw339 : Cond.selects RX2 yX2_step yX2_step ∈ wsA := wa_in (List.mem_append_right _ (List.mem_append_right _ (List.mem_append_left _ (List.mem_of_getElem? (i := 109) rfl)))) rfl
theorem mw340 : Cond.code yX2_step cX2_step 5 none ∈ wsA := wa_in (List.mem_append_right _ (List.mem_append_right _ (List.mem_append_left _ (List.mem_of_getElem? (i := 110) rfl)))) rfl
theorem mw341 : Cond.fieldLink RX2 19 "GuestHouse$Processor" "trap" "I" ∈ wsA := wa_in (List.mem_append_right _ (List.mem_append_left _ (List.mem_of_getElem? (i := 73) rfl))) rfl
theorem mw342 : Cond.fieldLink RX2 23 "GuestHouse$Processor" "bad" "I" ∈ wsA := wa_in (List.mem_append_right _ (List.mem_append_left _ (List.mem_of_getElem? (i := 74) rfl))) rfl
theorem mw343 : Cond.fieldLink RX2 31 "GuestHouse$Processor" "next" "I" ∈ wsA := wa_in (List.mem_append_right _ (List.mem_append_left _ (List.mem_of_getElem? (i := 75) rfl))) rfl
theorem mw344 : Cond.fieldLink RX2 38 "GuestHouse$Processor" "count" "I" ∈ wsA := wa_in (List.mem_append_right _ (List.mem_append_left _ (List.mem_of_getElem? (i := 76) rfl))) rfl
theorem mw345 : Cond.methodLink RX2 15 yX2_lineTrap ∈ wsA := wa_in (List.mem_append_right _ (List.mem_append_right _ (List.mem_append_left _ (List.mem_of_getElem? (i := 111) rfl)))) rfl
theorem mw346 : Cond.static yX2_lineTrap ∈ wsA := wa_in (List.mem_append_right _ (List.mem_append_right _ (List.mem_append_left _ (List.mem_of_getElem? (i := 112) rfl)))) rfl
theorem mw347 : Cond.code yX2_lineTrap cX2_lineTrap 2 (some .int) ∈ wsA := wa_in (List.mem_append_right _ (List.mem_append_right _ (List.mem_append_left _ (List.mem_of_getElem? (i := 113) rfl)))) rfl
theorem mw348 : Cond.methodLink RX2 85 yX0_timerIsUp ∈ wsA := wa_in (List.mem_append_right _ (List.mem_append_right _ (List.mem_append_left _ (List.mem_of_getElem? (i := 114) rfl)))) rfl
theorem mw349 : Cond.instanceMethod yX0_timerIsUp ∈ wsA := wa_in (List.mem_append_right _ (List.mem_append_right _ (List.mem_append_left _ (List.mem_of_getElem? (i := 115) rfl)))) rfl
theorem mw350 : Cond.selects RX0 yX0_timerIsUp yX0_timerIsUp ∈ wsA := wa_in (List.mem_append_right _ (List.mem_append_right _ (List.mem_append_left _ (List.mem_of_getElem? (i := 116) rfl)))) rfl
theorem mw351 : Cond.code yX0_timerIsUp cX0_timerIsUp 1 (some .boolean) ∈ wsA := wa_in (List.mem_append_right _ (List.mem_append_right _ (List.mem_append_left _ (List.mem_of_getElem? (i := 117) rfl)))) rfl
theorem mw352 : Cond.methodLink RX2 41 yX2_locate ∈ wsA := wa_in (List.mem_append_right _ (List.mem_append_right _ (List.mem_append_left _ (List.mem_of_getElem? (i := 118) rfl)))) rfl
theorem mw353 : Cond.instanceMethod yX2_locate ∈ wsA := wa_in (List.mem_append_right _ (List.mem_append_right _ (List.mem_append_left _ (List.mem_of_getElem? (i := 120) rfl)))) rfl
theorem mw354 : Cond.selects RX2 yX2_locate yX2_locate ∈ wsA := wa_in (List.mem_append_left _ (List.mem_of_getElem? (i := 11) rfl)) rfl
theorem mw355 : Cond.code yX2_locate cX2_locate 10 (some .int) ∈ wsA := wa_in (List.mem_append_right _ (List.mem_append_right _ (List.mem_append_left _ (List.mem_of_getElem? (i := 121) rfl)))) rfl
theorem mw356 : Cond.methodLink RX2 92 yX0_hasWord ∈ wsA := wa_in (List.mem_append_right _ (List.mem_append_right _ (List.mem_append_left _ (List.mem_of_getElem? (i := 122) rfl)))) rfl
theorem mw357 : Cond.methodLink RX2 68 yX2_refuse ∈ wsA := wa_in (List.mem_append_right _ (List.mem_append_right _ (List.mem_append_left _ (List.mem_of_getElem? (i := 123) rfl)))) rfl
theorem mw358 : Cond.instanceMethod yX2_refuse ∈ wsA := wa_in (List.mem_append_right _ (List.mem_append_right _ (List.mem_append_left _ (List.mem_of_getElem? (i := 125) rfl)))) rfl
theorem mw359 : Cond.selects RX2 yX2_refuse yX2_refuse ∈ wsA := wa_in (List.mem_append_left _ (List.mem_of_getElem? (i := 12) rfl)) rfl
theorem mw360 : Cond.code yX2_refuse cX2_refuse 3 (some .int) ∈ wsA := wa_in (List.mem_append_right _ (List.mem_append_right _ (List.mem_append_left _ (List.mem_of_getElem? (i := 126) rfl)))) rfl
theorem mw361 : Cond.methodLink RX2 45 yX1_read ∈ wsA := wa_in (List.mem_append_right _ (List.mem_append_right _ (List.mem_append_left _ (List.mem_of_getElem? (i := 127) rfl)))) rfl
theorem mw362 : Cond.instanceMethod yX1_read ∈ wsA := wa_in (List.mem_append_right _ (List.mem_append_right _ (List.mem_append_left _ (List.mem_of_getElem? (i := 128) rfl)))) rfl
theorem mw363 : Cond.selects RX1 yX1_read yX1_read ∈ wsA := wa_in (List.mem_append_right _ (List.mem_append_right _ (List.mem_append_left _ (List.mem_of_getElem? (i := 129) rfl)))) rfl
theorem mw364 : Cond.code yX1_read cX1_read 4 (some .int) ∈ wsA := wa_in (List.mem_append_right _ (List.mem_append_right _ (List.mem_append_left _ (List.mem_of_getElem? (i := 130) rfl)))) rfl
theorem mw365 : Cond.methodLink RX2 102 yX1_write ∈ wsA := wa_in (List.mem_append_right _ (List.mem_append_right _ (List.mem_append_left _ (List.mem_of_getElem? (i := 131) rfl)))) rfl
theorem mw366 : Cond.methodLink RX2 51 yX2_sum ∈ wsA := wa_in (List.mem_append_right _ (List.mem_append_right _ (List.mem_append_left _ (List.mem_of_getElem? (i := 132) rfl)))) rfl
theorem mw367 : Cond.static yX2_sum ∈ wsA := wa_in (List.mem_append_right _ (List.mem_append_right _ (List.mem_append_left _ (List.mem_of_getElem? (i := 133) rfl)))) rfl
theorem mw368 : Cond.code yX2_sum cX2_sum 4 (some .int) ∈ wsA := wa_in (List.mem_append_right _ (List.mem_append_right _ (List.mem_append_left _ (List.mem_of_getElem? (i := 134) rfl)))) rfl
theorem mw369 : Cond.methodLink RX2 105 yX2_valueA ∈ wsA := wa_in (List.mem_append_right _ (List.mem_append_right _ (List.mem_append_left _ (List.mem_of_getElem? (i := 135) rfl)))) rfl
theorem mw370 : Cond.static yX2_valueA ∈ wsA := wa_in (List.mem_append_right _ (List.mem_append_right _ (List.mem_append_left _ (List.mem_of_getElem? (i := 136) rfl)))) rfl
theorem mw371 : Cond.code yX2_valueA cX2_valueA 2 (some .int) ∈ wsA := wa_in (List.mem_append_right _ (List.mem_append_right _ (List.mem_append_left _ (List.mem_of_getElem? (i := 137) rfl)))) rfl
theorem mw372 : Cond.methodLink RX2 108 yX2_valueB ∈ wsA := wa_in (List.mem_append_right _ (List.mem_append_right _ (List.mem_append_left _ (List.mem_of_getElem? (i := 138) rfl)))) rfl
theorem mw373 : Cond.static yX2_valueB ∈ wsA := wa_in (List.mem_append_right _ (List.mem_append_right _ (List.mem_append_left _ (List.mem_of_getElem? (i := 139) rfl)))) rfl
theorem mw374 : Cond.code yX2_valueB cX2_valueB 2 (some .int) ∈ wsA := wa_in (List.mem_append_right _ (List.mem_append_right _ (List.mem_append_left _ (List.mem_of_getElem? (i := 140) rfl)))) rfl
theorem mw375 : Cond.methodLink RX2 111 yX2_number ∈ wsA := wa_in (List.mem_append_right _ (List.mem_append_right _ (List.mem_append_left _ (List.mem_of_getElem? (i := 141) rfl)))) rfl
theorem mw376 : Cond.static yX2_number ∈ wsA := wa_in (List.mem_append_right _ (List.mem_append_right _ (List.mem_append_left _ (List.mem_of_getElem? (i := 142) rfl)))) rfl
theorem mw377 : Cond.code yX2_number cX2_number 1 (some .int) ∈ wsA := wa_in (List.mem_append_right _ (List.mem_append_right _ (List.mem_append_left _ (List.mem_of_getElem? (i := 143) rfl)))) rfl
theorem mw378 : Cond.methodLink RX2 54 yX2_setD ∈ wsA := wa_in (List.mem_append_right _ (List.mem_append_right _ (List.mem_append_left _ (List.mem_of_getElem? (i := 144) rfl)))) rfl
theorem mw379 : Cond.static yX2_setD ∈ wsA := wa_in (List.mem_append_right _ (List.mem_append_right _ (List.mem_append_left _ (List.mem_of_getElem? (i := 145) rfl)))) rfl
theorem mw380 : Cond.code yX2_setD cX2_setD 3 none ∈ wsA := wa_in (List.mem_append_right _ (List.mem_append_right _ (List.mem_append_left _ (List.mem_of_getElem? (i := 146) rfl)))) rfl
theorem mw381 : Cond.methodLink RX2 58 yX2_useMemory ∈ wsA := wa_in (List.mem_append_right _ (List.mem_append_right _ (List.mem_append_left _ (List.mem_of_getElem? (i := 147) rfl)))) rfl
theorem mw382 : Cond.instanceMethod yX2_useMemory ∈ wsA := wa_in (List.mem_append_right _ (List.mem_append_right _ (List.mem_append_left _ (List.mem_of_getElem? (i := 149) rfl)))) rfl
theorem mw383 : Cond.selects RX2 yX2_useMemory yX2_useMemory ∈ wsA := wa_in (List.mem_append_left _ (List.mem_of_getElem? (i := 13) rfl)) rfl
theorem mw384 : Cond.code yX2_useMemory cX2_useMemory 6 none ∈ wsA := wa_in (List.mem_append_right _ (List.mem_append_right _ (List.mem_append_left _ (List.mem_of_getElem? (i := 150) rfl)))) rfl
theorem mw385 : Cond.methodLink RX2 62 yX2_jump ∈ wsA := wa_in (List.mem_append_right _ (List.mem_append_right _ (List.mem_append_left _ (List.mem_of_getElem? (i := 151) rfl)))) rfl
theorem mw386 : Cond.instanceMethod yX2_jump ∈ wsA := wa_in (List.mem_append_right _ (List.mem_append_right _ (List.mem_append_left _ (List.mem_of_getElem? (i := 153) rfl)))) rfl
theorem mw387 : Cond.selects RX2 yX2_jump yX2_jump ∈ wsA := wa_in (List.mem_append_left _ (List.mem_of_getElem? (i := 14) rfl)) rfl
theorem mw388 : Cond.code yX2_jump cX2_jump 6 none ∈ wsA := wa_in (List.mem_append_right _ (List.mem_append_right _ (List.mem_append_left _ (List.mem_of_getElem? (i := 154) rfl)))) rfl
theorem mw389 : Cond.methodLink RX2 65 yX2_callOrTime ∈ wsA := wa_in (List.mem_append_right _ (List.mem_append_right _ (List.mem_append_left _ (List.mem_of_getElem? (i := 155) rfl)))) rfl
theorem mw390 : Cond.instanceMethod yX2_callOrTime ∈ wsA := wa_in (List.mem_append_right _ (List.mem_append_right _ (List.mem_append_left _ (List.mem_of_getElem? (i := 157) rfl)))) rfl
theorem mw391 : Cond.selects RX2 yX2_callOrTime yX2_callOrTime ∈ wsA := wa_in (List.mem_append_left _ (List.mem_of_getElem? (i := 15) rfl)) rfl
theorem mw392 : Cond.code yX2_callOrTime cX2_callOrTime 3 none ∈ wsA := wa_in (List.mem_append_right _ (List.mem_append_right _ (List.mem_append_left _ (List.mem_of_getElem? (i := 158) rfl)))) rfl
theorem mw393 : Cond.methodLink RX2 75 yX2_supervise ∈ wsA := wa_in (List.mem_append_right _ (List.mem_append_right _ (List.mem_append_left _ (List.mem_of_getElem? (i := 159) rfl)))) rfl
theorem mw394 : Cond.instanceMethod yX2_supervise ∈ wsA := wa_in (List.mem_append_right _ (List.mem_append_right _ (List.mem_append_left _ (List.mem_of_getElem? (i := 161) rfl)))) rfl
theorem mw395 : Cond.selects RX2 yX2_supervise yX2_supervise ∈ wsA := wa_in (List.mem_append_left _ (List.mem_of_getElem? (i := 16) rfl)) rfl
theorem mw396 : Cond.code yX2_supervise cX2_supervise 4 none ∈ wsA := wa_in (List.mem_append_right _ (List.mem_append_right _ (List.mem_append_left _ (List.mem_of_getElem? (i := 162) rfl)))) rfl
theorem mw397 : Cond.methodLink RX2 115 yX2_readControl ∈ wsA := wa_in (List.mem_append_right _ (List.mem_append_right _ (List.mem_append_left _ (List.mem_of_getElem? (i := 163) rfl)))) rfl
theorem mw398 : Cond.instanceMethod yX2_readControl ∈ wsA := wa_in (List.mem_append_right _ (List.mem_append_right _ (List.mem_append_left _ (List.mem_of_getElem? (i := 165) rfl)))) rfl
theorem mw399 : Cond.selects RX2 yX2_readControl yX2_readControl ∈ wsA := wa_in (List.mem_append_left _ (List.mem_of_getElem? (i := 17) rfl)) rfl
theorem mw400 : Cond.code yX2_readControl cX2_readControl 4 none ∈ wsA := wa_in (List.mem_append_right _ (List.mem_append_right _ (List.mem_append_left _ (List.mem_of_getElem? (i := 166) rfl)))) rfl
theorem mw401 : Cond.methodLink RX2 118 yX2_writeControl ∈ wsA := wa_in (List.mem_append_right _ (List.mem_append_right _ (List.mem_append_left _ (List.mem_of_getElem? (i := 167) rfl)))) rfl
theorem mw402 : Cond.instanceMethod yX2_writeControl ∈ wsA := wa_in (List.mem_append_right _ (List.mem_append_right _ (List.mem_append_left _ (List.mem_of_getElem? (i := 169) rfl)))) rfl
theorem mw403 : Cond.selects RX2 yX2_writeControl yX2_writeControl ∈ wsA := wa_in (List.mem_append_left _ (List.mem_of_getElem? (i := 18) rfl)) rfl
theorem mw404 : Cond.code yX2_writeControl cX2_writeControl 5 none ∈ wsA := wa_in (List.mem_append_right _ (List.mem_append_right _ (List.mem_append_left _ (List.mem_of_getElem? (i := 170) rfl)))) rfl
theorem mw405 : Cond.methodLink RX2 124 yX0_emptyCache ∈ wsA := wa_in (List.mem_append_right _ (List.mem_append_right _ (List.mem_append_left _ (List.mem_of_getElem? (i := 171) rfl)))) rfl
theorem mw406 : Cond.methodLink RX2 121 yX0_leaveTrap ∈ wsA := wa_in (List.mem_append_right _ (List.mem_append_right _ (List.mem_append_left _ (List.mem_of_getElem? (i := 172) rfl)))) rfl
theorem mw407 : Cond.instanceMethod yX0_leaveTrap ∈ wsA := wa_in (List.mem_append_right _ (List.mem_append_right _ (List.mem_append_left _ (List.mem_of_getElem? (i := 173) rfl)))) rfl
theorem mw408 : Cond.selects RX0 yX0_leaveTrap yX0_leaveTrap ∈ wsA := wa_in (List.mem_append_right _ (List.mem_append_right _ (List.mem_append_left _ (List.mem_of_getElem? (i := 174) rfl)))) rfl
theorem mw409 : Cond.code yX0_leaveTrap cX0_leaveTrap 3 none ∈ wsA := wa_in (List.mem_append_right _ (List.mem_append_right _ (List.mem_append_left _ (List.mem_of_getElem? (i := 175) rfl)))) rfl
theorem mw410 : Cond.methodLink RX2 127 yX2_waitForLine ∈ wsA := wa_in (List.mem_append_right _ (List.mem_append_right _ (List.mem_append_left _ (List.mem_of_getElem? (i := 176) rfl)))) rfl
theorem mw411 : Cond.instanceMethod yX2_waitForLine ∈ wsA := wa_in (List.mem_append_right _ (List.mem_append_right _ (List.mem_append_left _ (List.mem_of_getElem? (i := 178) rfl)))) rfl
theorem mw412 : Cond.selects RX2 yX2_waitForLine yX2_waitForLine ∈ wsA := wa_in (List.mem_append_left _ (List.mem_of_getElem? (i := 19) rfl)) rfl
theorem mw413 : Cond.code yX2_waitForLine cX2_waitForLine 2 none ∈ wsA := wa_in (List.mem_append_right _ (List.mem_append_right _ (List.mem_append_left _ (List.mem_of_getElem? (i := 179) rfl)))) rfl
theorem mw414 : Cond.methodLink RX2 134 yX2_takeIn ∈ wsA := wa_in (List.mem_append_right _ (List.mem_append_right _ (List.mem_append_left _ (List.mem_of_getElem? (i := 180) rfl)))) rfl
theorem mw415 : Cond.static yX2_takeIn ∈ wsA := wa_in (List.mem_append_right _ (List.mem_append_right _ (List.mem_append_left _ (List.mem_of_getElem? (i := 181) rfl)))) rfl
theorem mw416 : Cond.code yX2_takeIn cX2_takeIn 2 (some .int) ∈ wsA := wa_in (List.mem_append_right _ (List.mem_append_right _ (List.mem_append_left _ (List.mem_of_getElem? (i := 182) rfl)))) rfl
theorem mw417 : Cond.methodLink RX2 140 yX0_takeOldest ∈ wsA := wa_in (List.mem_append_right _ (List.mem_append_right _ (List.mem_append_left _ (List.mem_of_getElem? (i := 183) rfl)))) rfl
theorem mw418 : Cond.instanceMethod yX0_takeOldest ∈ wsA := wa_in (List.mem_append_right _ (List.mem_append_right _ (List.mem_append_left _ (List.mem_of_getElem? (i := 184) rfl)))) rfl
theorem mw419 : Cond.selects RX0 yX0_takeOldest yX0_takeOldest ∈ wsA := wa_in (List.mem_append_right _ (List.mem_append_right _ (List.mem_append_left _ (List.mem_of_getElem? (i := 185) rfl)))) rfl
theorem mw420 : Cond.code yX0_takeOldest cX0_takeOldest 2 (some .int) ∈ wsA := wa_in (List.mem_append_right _ (List.mem_append_right _ (List.mem_append_left _ (List.mem_of_getElem? (i := 186) rfl)))) rfl
theorem mw421 : Cond.methodLink RX2 137 yX2_giveOut ∈ wsA := wa_in (List.mem_append_right _ (List.mem_append_right _ (List.mem_append_left _ (List.mem_of_getElem? (i := 187) rfl)))) rfl
theorem mw422 : Cond.instanceMethod yX2_giveOut ∈ wsA := wa_in (List.mem_append_right _ (List.mem_append_right _ (List.mem_append_left _ (List.mem_of_getElem? (i := 189) rfl)))) rfl
theorem mw423 : Cond.selects RX2 yX2_giveOut yX2_giveOut ∈ wsA := wa_in (List.mem_append_left _ (List.mem_of_getElem? (i := 20) rfl)) rfl
theorem mw424 : Cond.code yX2_giveOut cX2_giveOut 4 none ∈ wsA := wa_in (List.mem_append_right _ (List.mem_append_right _ (List.mem_append_left _ (List.mem_of_getElem? (i := 190) rfl)))) rfl
theorem mw425 : Cond.methodLink RX2 150 yX0_putOut ∈ wsA := wa_in (List.mem_append_right _ (List.mem_append_right _ (List.mem_append_left _ (List.mem_of_getElem? (i := 191) rfl)))) rfl
theorem mw426 : Cond.instanceMethod yX0_putOut ∈ wsA := wa_in (List.mem_append_right _ (List.mem_append_right _ (List.mem_append_left _ (List.mem_of_getElem? (i := 192) rfl)))) rfl
theorem mw427 : Cond.selects RX0 yX0_putOut yX0_putOut ∈ wsA := wa_in (List.mem_append_right _ (List.mem_append_right _ (List.mem_append_left _ (List.mem_of_getElem? (i := 193) rfl)))) rfl
theorem mw428 : Cond.code yX0_putOut cX0_putOut 2 none ∈ wsA := wa_in (List.mem_append_right _ (List.mem_append_right _ (List.mem_append_left _ (List.mem_of_getElem? (i := 194) rfl)))) rfl
theorem mw429 : Cond.methodLink RX2 154 yX1_saveFrame ∈ wsA := wa_in (List.mem_append_right _ (List.mem_append_right _ (List.mem_append_left _ (List.mem_of_getElem? (i := 195) rfl)))) rfl
theorem mw430 : Cond.instanceMethod yX1_saveFrame ∈ wsA := wa_in (List.mem_append_right _ (List.mem_append_right _ (List.mem_append_left _ (List.mem_of_getElem? (i := 196) rfl)))) rfl
theorem mw431 : Cond.selects RX1 yX1_saveFrame yX1_saveFrame ∈ wsA := wa_in (List.mem_append_right _ (List.mem_append_right _ (List.mem_append_left _ (List.mem_of_getElem? (i := 197) rfl)))) rfl
theorem mw432 : Cond.code yX1_saveFrame cX1_saveFrame 5 none ∈ wsA := wa_in (List.mem_append_right _ (List.mem_append_right _ (List.mem_append_left _ (List.mem_of_getElem? (i := 198) rfl)))) rfl
theorem mw433 : Cond.methodLink RX2 157 yX1_loadFrame ∈ wsA := wa_in (List.mem_append_right _ (List.mem_append_right _ (List.mem_append_left _ (List.mem_of_getElem? (i := 199) rfl)))) rfl
theorem mw434 : Cond.instanceMethod yX1_loadFrame ∈ wsA := wa_in (List.mem_append_right _ (List.mem_append_right _ (List.mem_append_left _ (List.mem_of_getElem? (i := 200) rfl)))) rfl
theorem mw435 : Cond.selects RX1 yX1_loadFrame yX1_loadFrame ∈ wsA := wa_in (List.mem_append_right _ (List.mem_append_right _ (List.mem_append_left _ (List.mem_of_getElem? (i := 201) rfl)))) rfl
theorem mw436 : Cond.code yX1_loadFrame cX1_loadFrame 5 none ∈ wsA := wa_in (List.mem_append_right _ (List.mem_append_right _ (List.mem_append_left _ (List.mem_of_getElem? (i := 202) rfl)))) rfl
theorem mw437 : Cond.methodLink RX2 78 yX0_enterTrap ∈ wsA := wa_in (List.mem_append_right _ (List.mem_append_right _ (List.mem_append_left _ (List.mem_of_getElem? (i := 203) rfl)))) rfl
theorem mw438 : Cond.instanceMethod yX0_enterTrap ∈ wsA := wa_in (List.mem_append_right _ (List.mem_append_right _ (List.mem_append_left _ (List.mem_of_getElem? (i := 204) rfl)))) rfl
theorem mw439 : Cond.selects RX0 yX0_enterTrap yX0_enterTrap ∈ wsA := wa_in (List.mem_append_right _ (List.mem_append_right _ (List.mem_append_left _ (List.mem_of_getElem? (i := 205) rfl)))) rfl
theorem mw440 : Cond.code yX0_enterTrap cX0_enterTrap 5 none ∈ wsA := wa_in (List.mem_append_right _ (List.mem_append_right _ (List.mem_append_left _ (List.mem_of_getElem? (i := 206) rfl)))) rfl
theorem mw441 : Cond.methodLink RL 55 yX5_run ∈ wsA := wa_in (List.mem_append_right _ (List.mem_append_right _ (List.mem_append_right _ (List.mem_append_left _ (List.mem_of_getElem? (i := 222) rfl))))) rfl
theorem mw442 : Cond.instanceMethod yX5_run ∈ wsA := wa_in (List.mem_append_right _ (List.mem_append_right _ (List.mem_append_right _ (List.mem_append_left _ (List.mem_of_getElem? (i := 223) rfl))))) rfl
theorem mw443 : Cond.selects RX5 yX5_run yX5_run ∈ wsA := wa_in (List.mem_append_right _ (List.mem_append_right _ (List.mem_append_right _ (List.mem_append_left _ (List.mem_of_getElem? (i := 224) rfl))))) rfl
theorem mw444 : Cond.code yX5_run cX5_run 3 (some .int) ∈ wsA := wa_in (List.mem_append_right _ (List.mem_append_right _ (List.mem_append_right _ (List.mem_append_left _ (List.mem_of_getElem? (i := 225) rfl))))) rfl
theorem mw445 : Cond.methodLink RX5 79 yX5_turn ∈ wsA := wa_in (List.mem_append_right _ (List.mem_append_right _ (List.mem_append_right _ (List.mem_append_left _ (List.mem_of_getElem? (i := 226) rfl))))) rfl
theorem mw446 : Cond.instanceMethod yX5_turn ∈ wsA := wa_in (List.mem_append_right _ (List.mem_append_right _ (List.mem_append_right _ (List.mem_append_left _ (List.mem_of_getElem? (i := 228) rfl))))) rfl
theorem mw447 : Cond.selects RX5 yX5_turn yX5_turn ∈ wsA := wa_in (List.mem_append_left _ (List.mem_of_getElem? (i := 30) rfl)) rfl
theorem mw448 : Cond.code yX5_turn cX5_turn 3 (some .boolean) ∈ wsA := wa_in (List.mem_append_right _ (List.mem_append_right _ (List.mem_append_right _ (List.mem_append_left _ (List.mem_of_getElem? (i := 229) rfl))))) rfl
theorem mw449 : Cond.methodLink RX5 73 yX5_isRunning ∈ wsA := wa_in (List.mem_append_right _ (List.mem_append_right _ (List.mem_append_right _ (List.mem_append_left _ (List.mem_of_getElem? (i := 230) rfl))))) rfl
theorem mw450 : Cond.instanceMethod yX5_isRunning ∈ wsA := wa_in (List.mem_append_right _ (List.mem_append_right _ (List.mem_append_right _ (List.mem_append_left _ (List.mem_of_getElem? (i := 232) rfl))))) rfl
theorem mw451 : Cond.selects RX5 yX5_isRunning yX5_isRunning ∈ wsA := wa_in (List.mem_append_left _ (List.mem_of_getElem? (i := 31) rfl)) rfl
theorem mw452 : Cond.code yX5_isRunning cX5_isRunning 2 (some .boolean) ∈ wsA := wa_in (List.mem_append_right _ (List.mem_append_right _ (List.mem_append_right _ (List.mem_append_left _ (List.mem_of_getElem? (i := 233) rfl))))) rfl
theorem mw453 : Cond.methodLink RX5 76 yX4_step ∈ wsA := wa_in (List.mem_append_right _ (List.mem_append_right _ (List.mem_append_right _ (List.mem_append_left _ (List.mem_of_getElem? (i := 234) rfl))))) rfl
theorem mw454 : Cond.instanceMethod yX4_step ∈ wsA := wa_in (List.mem_append_right _ (List.mem_append_right _ (List.mem_append_right _ (List.mem_append_left _ (List.mem_of_getElem? (i := 235) rfl))))) rfl
theorem mw455 : Cond.selects RX4 yX4_step yX4_step ∈ wsA := wa_in (List.mem_append_right _ (List.mem_append_right _ (List.mem_append_right _ (List.mem_append_left _ (List.mem_of_getElem? (i := 236) rfl))))) rfl
theorem mw456 : Cond.code yX4_step cX4_step 2 none ∈ wsA := wa_in (List.mem_append_right _ (List.mem_append_right _ (List.mem_append_right _ (List.mem_append_left _ (List.mem_of_getElem? (i := 237) rfl))))) rfl
theorem mw457 : Cond.fieldLink RX4 76 "GuestHouseModel$Bare" "code" "I" ∈ wsA := wa_in (List.mem_append_right _ (List.mem_append_right _ (List.mem_append_right _ (List.mem_append_left _ (List.mem_of_getElem? (i := 96) rfl))))) rfl
theorem mw458 : Cond.fieldLink RX4 98 "GuestHouseModel$Bare" "told" "I" ∈ wsA := wa_in (List.mem_append_right _ (List.mem_append_right _ (List.mem_append_right _ (List.mem_append_left _ (List.mem_of_getElem? (i := 97) rfl))))) rfl
theorem mw459 : Cond.methodLink RX4 79 yX4_hasStatus ∈ wsA := wa_in (List.mem_append_right _ (List.mem_append_right _ (List.mem_append_right _ (List.mem_append_left _ (List.mem_of_getElem? (i := 238) rfl))))) rfl
theorem mw460 : Cond.instanceMethod yX4_hasStatus ∈ wsA := wa_in (List.mem_append_right _ (List.mem_append_right _ (List.mem_append_right _ (List.mem_append_right _ (List.mem_of_getElem? (i := 0) rfl))))) rfl
theorem mw461 : Cond.selects RX4 yX4_hasStatus yX4_hasStatus ∈ wsA := wa_in (List.mem_append_left _ (List.mem_of_getElem? (i := 32) rfl)) rfl
theorem mw462 : Cond.code yX4_hasStatus cX4_hasStatus 2 (some .boolean) ∈ wsA := wa_in (List.mem_append_right _ (List.mem_append_right _ (List.mem_append_right _ (List.mem_append_right _ (List.mem_of_getElem? (i := 1) rfl))))) rfl
theorem mw463 : Cond.methodLink RX4 83 yX4_isTimeUp ∈ wsA := wa_in (List.mem_append_right _ (List.mem_append_right _ (List.mem_append_right _ (List.mem_append_right _ (List.mem_of_getElem? (i := 2) rfl))))) rfl
theorem mw464 : Cond.instanceMethod yX4_isTimeUp ∈ wsA := wa_in (List.mem_append_right _ (List.mem_append_right _ (List.mem_append_right _ (List.mem_append_right _ (List.mem_of_getElem? (i := 4) rfl))))) rfl
theorem mw465 : Cond.selects RX4 yX4_isTimeUp yX4_isTimeUp ∈ wsA := wa_in (List.mem_append_left _ (List.mem_of_getElem? (i := 33) rfl)) rfl
theorem mw466 : Cond.code yX4_isTimeUp cX4_isTimeUp 1 (some .boolean) ∈ wsA := wa_in (List.mem_append_right _ (List.mem_append_right _ (List.mem_append_right _ (List.mem_append_right _ (List.mem_of_getElem? (i := 5) rfl))))) rfl
theorem mw467 : Cond.methodLink RX4 87 yX4_fail ∈ wsA := wa_in (List.mem_append_right _ (List.mem_append_right _ (List.mem_append_right _ (List.mem_append_right _ (List.mem_of_getElem? (i := 6) rfl))))) rfl
theorem mw468 : Cond.instanceMethod yX4_fail ∈ wsA := wa_in (List.mem_append_right _ (List.mem_append_right _ (List.mem_append_right _ (List.mem_append_right _ (List.mem_of_getElem? (i := 8) rfl))))) rfl
theorem mw469 : Cond.selects RX4 yX4_fail yX4_fail ∈ wsA := wa_in (List.mem_append_left _ (List.mem_of_getElem? (i := 34) rfl)) rfl
theorem mw470 : Cond.code yX4_fail cX4_fail 3 none ∈ wsA := wa_in (List.mem_append_right _ (List.mem_append_right _ (List.mem_append_right _ (List.mem_append_right _ (List.mem_of_getElem? (i := 9) rfl))))) rfl
theorem mw471 : Cond.methodLink RX4 91 yX4_reach ∈ wsA := wa_in (List.mem_append_right _ (List.mem_append_right _ (List.mem_append_right _ (List.mem_append_right _ (List.mem_of_getElem? (i := 10) rfl))))) rfl
theorem mw472 : Cond.instanceMethod yX4_reach ∈ wsA := wa_in (List.mem_append_right _ (List.mem_append_right _ (List.mem_append_right _ (List.mem_append_right _ (List.mem_of_getElem? (i := 12) rfl))))) rfl
theorem mw473 : Cond.selects RX4 yX4_reach yX4_reach ∈ wsA := wa_in (List.mem_append_left _ (List.mem_of_getElem? (i := 35) rfl)) rfl
theorem mw474 : Cond.code yX4_reach cX4_reach 4 (some .int) ∈ wsA := wa_in (List.mem_append_right _ (List.mem_append_right _ (List.mem_append_right _ (List.mem_append_right _ (List.mem_of_getElem? (i := 13) rfl))))) rfl
theorem mw475 : Cond.methodLink RX4 101 yX4_isMemory ∈ wsA := wa_in (List.mem_append_right _ (List.mem_append_right _ (List.mem_append_right _ (List.mem_append_right _ (List.mem_of_getElem? (i := 14) rfl))))) rfl
theorem mw476 : Cond.methodLink RX4 104 yX4_fill ∈ wsA := wa_in (List.mem_append_right _ (List.mem_append_right _ (List.mem_append_right _ (List.mem_append_right _ (List.mem_of_getElem? (i := 15) rfl))))) rfl
theorem mw477 : Cond.instanceMethod yX4_fill ∈ wsA := wa_in (List.mem_append_right _ (List.mem_append_right _ (List.mem_append_right _ (List.mem_append_right _ (List.mem_of_getElem? (i := 17) rfl))))) rfl
theorem mw478 : Cond.selects RX4 yX4_fill yX4_fill ∈ wsA := wa_in (List.mem_append_left _ (List.mem_of_getElem? (i := 36) rfl)) rfl
theorem mw479 : Cond.code yX4_fill cX4_fill 7 none ∈ wsA := wa_in (List.mem_append_right _ (List.mem_append_right _ (List.mem_append_right _ (List.mem_append_right _ (List.mem_of_getElem? (i := 18) rfl))))) rfl
theorem mw480 : Cond.methodLink RX4 108 yX4_tableWord ∈ wsA := wa_in (List.mem_append_right _ (List.mem_append_right _ (List.mem_append_right _ (List.mem_append_right _ (List.mem_of_getElem? (i := 19) rfl))))) rfl
theorem mw481 : Cond.instanceMethod yX4_tableWord ∈ wsA := wa_in (List.mem_append_right _ (List.mem_append_right _ (List.mem_append_right _ (List.mem_append_right _ (List.mem_of_getElem? (i := 21) rfl))))) rfl
theorem mw482 : Cond.selects RX4 yX4_tableWord yX4_tableWord ∈ wsA := wa_in (List.mem_append_left _ (List.mem_of_getElem? (i := 37) rfl)) rfl
theorem mw483 : Cond.code yX4_tableWord cX4_tableWord 2 (some .int) ∈ wsA := wa_in (List.mem_append_right _ (List.mem_append_right _ (List.mem_append_right _ (List.mem_append_right _ (List.mem_of_getElem? (i := 22) rfl))))) rfl
theorem mw484 : Cond.methodLink RX4 95 yX4_work ∈ wsA := wa_in (List.mem_append_right _ (List.mem_append_right _ (List.mem_append_right _ (List.mem_append_right _ (List.mem_of_getElem? (i := 23) rfl))))) rfl
theorem mw485 : Cond.instanceMethod yX4_work ∈ wsA := wa_in (List.mem_append_right _ (List.mem_append_right _ (List.mem_append_right _ (List.mem_append_right _ (List.mem_of_getElem? (i := 25) rfl))))) rfl
theorem mw486 : Cond.selects RX4 yX4_work yX4_work ∈ wsA := wa_in (List.mem_append_left _ (List.mem_of_getElem? (i := 38) rfl)) rfl
theorem mw487 : Cond.code yX4_work cX4_work 9 none ∈ wsA := wa_in (List.mem_append_right _ (List.mem_append_right _ (List.mem_append_right _ (List.mem_append_right _ (List.mem_of_getElem? (i := 26) rfl))))) rfl
theorem mw488 : Cond.methodLink RX4 112 yX4_made ∈ wsA := wa_in (List.mem_append_right _ (List.mem_append_right _ (List.mem_append_right _ (List.mem_append_right _ (List.mem_of_getElem? (i := 27) rfl))))) rfl
theorem mw489 : Cond.static yX4_made ∈ wsA := wa_in (List.mem_append_right _ (List.mem_append_right _ (List.mem_append_right _ (List.mem_append_right _ (List.mem_of_getElem? (i := 28) rfl))))) rfl
theorem mw490 : Cond.code yX4_made cX4_made 4 (some .int) ∈ wsA := wa_in (List.mem_append_right _ (List.mem_append_right _ (List.mem_append_right _ (List.mem_append_right _ (List.mem_of_getElem? (i := 29) rfl))))) rfl
theorem mw491 : Cond.methodLink RX4 116 yX4_moved ∈ wsA := wa_in (List.mem_append_right _ (List.mem_append_right _ (List.mem_append_right _ (List.mem_append_right _ (List.mem_of_getElem? (i := 30) rfl))))) rfl
theorem mw492 : Cond.instanceMethod yX4_moved ∈ wsA := wa_in (List.mem_append_right _ (List.mem_append_right _ (List.mem_append_right _ (List.mem_append_right _ (List.mem_of_getElem? (i := 32) rfl))))) rfl
theorem mw493 : Cond.selects RX4 yX4_moved yX4_moved ∈ wsA := wa_in (List.mem_append_left _ (List.mem_of_getElem? (i := 39) rfl)) rfl
theorem mw494 : Cond.code yX4_moved cX4_moved 7 none ∈ wsA := wa_in (List.mem_append_right _ (List.mem_append_right _ (List.mem_append_right _ (List.mem_append_right _ (List.mem_of_getElem? (i := 33) rfl))))) rfl
theorem mw495 : Cond.methodLink RX4 120 yX4_goes ∈ wsA := wa_in (List.mem_append_right _ (List.mem_append_right _ (List.mem_append_right _ (List.mem_append_right _ (List.mem_of_getElem? (i := 34) rfl))))) rfl
theorem mw496 : Cond.static yX4_goes ∈ wsA := wa_in (List.mem_append_right _ (List.mem_append_right _ (List.mem_append_right _ (List.mem_append_right _ (List.mem_of_getElem? (i := 35) rfl))))) rfl
theorem mw497 : Cond.code yX4_goes cX4_goes 3 (some .boolean) ∈ wsA := wa_in (List.mem_append_right _ (List.mem_append_right _ (List.mem_append_right _ (List.mem_append_right _ (List.mem_of_getElem? (i := 36) rfl))))) rfl
theorem mw498 : Cond.methodLink RX4 124 yX4_own ∈ wsA := wa_in (List.mem_append_right _ (List.mem_append_right _ (List.mem_append_right _ (List.mem_append_right _ (List.mem_of_getElem? (i := 37) rfl))))) rfl
theorem mw499 : Cond.instanceMethod yX4_own ∈ wsA := wa_in (List.mem_append_right _ (List.mem_append_right _ (List.mem_append_right _ (List.mem_append_right _ (List.mem_of_getElem? (i := 39) rfl))))) rfl
theorem mw500 : Cond.selects RX4 yX4_own yX4_own ∈ wsA := wa_in (List.mem_append_left _ (List.mem_of_getElem? (i := 40) rfl)) rfl
theorem mw501 : Cond.code yX4_own cX4_own 5 none ∈ wsA := wa_in (List.mem_append_right _ (List.mem_append_right _ (List.mem_append_right _ (List.mem_append_right _ (List.mem_of_getElem? (i := 40) rfl))))) rfl
theorem mw502 : Cond.methodLink RX4 127 yX4_taken ∈ wsA := wa_in (List.mem_append_right _ (List.mem_append_right _ (List.mem_append_right _ (List.mem_append_right _ (List.mem_of_getElem? (i := 41) rfl))))) rfl
theorem mw503 : Cond.instanceMethod yX4_taken ∈ wsA := wa_in (List.mem_append_right _ (List.mem_append_right _ (List.mem_append_right _ (List.mem_append_right _ (List.mem_of_getElem? (i := 43) rfl))))) rfl
theorem mw504 : Cond.selects RX4 yX4_taken yX4_taken ∈ wsA := wa_in (List.mem_append_left _ (List.mem_of_getElem? (i := 41) rfl)) rfl
theorem mw505 : Cond.code yX4_taken cX4_taken 3 (some .int) ∈ wsA := wa_in (List.mem_append_right _ (List.mem_append_right _ (List.mem_append_right _ (List.mem_append_right _ (List.mem_of_getElem? (i := 44) rfl))))) rfl
theorem mw506 : Cond.methodLink RX4 131 yX4_put ∈ wsA := wa_in (List.mem_append_right _ (List.mem_append_right _ (List.mem_append_right _ (List.mem_append_right _ (List.mem_of_getElem? (i := 45) rfl))))) rfl
theorem mw507 : Cond.instanceMethod yX4_put ∈ wsA := wa_in (List.mem_append_right _ (List.mem_append_right _ (List.mem_append_right _ (List.mem_append_right _ (List.mem_of_getElem? (i := 47) rfl))))) rfl
theorem mw508 : Cond.selects RX4 yX4_put yX4_put ∈ wsA := wa_in (List.mem_append_left _ (List.mem_of_getElem? (i := 42) rfl)) rfl
theorem mw509 : Cond.code yX4_put cX4_put 6 none ∈ wsA := wa_in (List.mem_append_right _ (List.mem_append_right _ (List.mem_append_right _ (List.mem_append_right _ (List.mem_of_getElem? (i := 48) rfl))))) rfl
theorem mw510 : Cond.methodLink RL 56 yX3_only ∈ wsA := wa_in (List.mem_append_right _ (List.mem_append_right _ (List.mem_append_left _ (List.mem_of_getElem? (i := 207) rfl)))) rfl
theorem mw511 : Cond.instanceMethod yX3_only ∈ wsA := wa_in (List.mem_append_right _ (List.mem_append_right _ (List.mem_append_left _ (List.mem_of_getElem? (i := 208) rfl)))) rfl
theorem mw512 : Cond.selects RX3 yX3_only yX3_only ∈ wsA := wa_in (List.mem_append_right _ (List.mem_append_right _ (List.mem_append_left _ (List.mem_of_getElem? (i := 209) rfl)))) rfl
theorem mw513 : Cond.code yX3_only cX3_only 5 (some .int) ∈ wsA := wa_in (List.mem_append_right _ (List.mem_append_right _ (List.mem_append_left _ (List.mem_of_getElem? (i := 210) rfl)))) rfl
theorem mw514 : Cond.methodLink RL 59 yX5_only ∈ wsA := wa_in (List.mem_append_right _ (List.mem_append_right _ (List.mem_append_right _ (List.mem_append_right _ (List.mem_of_getElem? (i := 49) rfl))))) rfl
theorem mw515 : Cond.instanceMethod yX5_only ∈ wsA := wa_in (List.mem_append_right _ (List.mem_append_right _ (List.mem_append_right _ (List.mem_append_right _ (List.mem_of_getElem? (i := 50) rfl))))) rfl
theorem mw516 : Cond.selects RX5 yX5_only yX5_only ∈ wsA := wa_in (List.mem_append_right _ (List.mem_append_right _ (List.mem_append_right _ (List.mem_append_right _ (List.mem_of_getElem? (i := 51) rfl))))) rfl
theorem mw517 : Cond.code yX5_only cX5_only 5 (some .int) ∈ wsA := wa_in (List.mem_append_right _ (List.mem_append_right _ (List.mem_append_right _ (List.mem_append_right _ (List.mem_of_getElem? (i := 52) rfl))))) rfl
theorem mw518 : Cond.methodLink RL 60 yX3_state ∈ wsA := wa_in (List.mem_append_right _ (List.mem_append_right _ (List.mem_append_left _ (List.mem_of_getElem? (i := 211) rfl)))) rfl
theorem mw519 : Cond.instanceMethod yX3_state ∈ wsA := wa_in (List.mem_append_right _ (List.mem_append_right _ (List.mem_append_left _ (List.mem_of_getElem? (i := 212) rfl)))) rfl
theorem mw520 : Cond.selects RX3 yX3_state yX3_state ∈ wsA := wa_in (List.mem_append_right _ (List.mem_append_right _ (List.mem_append_left _ (List.mem_of_getElem? (i := 213) rfl)))) rfl
theorem mw521 : Cond.code yX3_state cX3_state 3 (some .int) ∈ wsA := wa_in (List.mem_append_right _ (List.mem_append_right _ (List.mem_append_left _ (List.mem_of_getElem? (i := 214) rfl)))) rfl
theorem mw522 : Cond.methodLink RL 63 yX5_state ∈ wsA := wa_in (List.mem_append_right _ (List.mem_append_right _ (List.mem_append_right _ (List.mem_append_right _ (List.mem_of_getElem? (i := 53) rfl))))) rfl
theorem mw523 : Cond.instanceMethod yX5_state ∈ wsA := wa_in (List.mem_append_right _ (List.mem_append_right _ (List.mem_append_right _ (List.mem_append_right _ (List.mem_of_getElem? (i := 54) rfl))))) rfl
theorem mw524 : Cond.selects RX5 yX5_state yX5_state ∈ wsA := wa_in (List.mem_append_right _ (List.mem_append_right _ (List.mem_append_right _ (List.mem_append_right _ (List.mem_of_getElem? (i := 55) rfl))))) rfl
theorem mw525 : Cond.code yX5_state cX5_state 2 (some .int) ∈ wsA := wa_in (List.mem_append_right _ (List.mem_append_right _ (List.mem_append_right _ (List.mem_append_right _ (List.mem_of_getElem? (i := 56) rfl))))) rfl
theorem mw526 : Cond.methodLink RL 64 yX3_told ∈ wsA := wa_in (List.mem_append_right _ (List.mem_append_right _ (List.mem_append_left _ (List.mem_of_getElem? (i := 215) rfl)))) rfl
theorem mw527 : Cond.instanceMethod yX3_told ∈ wsA := wa_in (List.mem_append_right _ (List.mem_append_right _ (List.mem_append_left _ (List.mem_of_getElem? (i := 216) rfl)))) rfl
theorem mw528 : Cond.selects RX3 yX3_told yX3_told ∈ wsA := wa_in (List.mem_append_right _ (List.mem_append_right _ (List.mem_append_left _ (List.mem_of_getElem? (i := 217) rfl)))) rfl
theorem mw529 : Cond.code yX3_told cX3_told 4 (some .int) ∈ wsA := wa_in (List.mem_append_right _ (List.mem_append_right _ (List.mem_append_left _ (List.mem_of_getElem? (i := 218) rfl)))) rfl
theorem mw530 : Cond.methodLink RX3 109 yX0_tell ∈ wsA := wa_in (List.mem_append_right _ (List.mem_append_right _ (List.mem_append_left _ (List.mem_of_getElem? (i := 219) rfl)))) rfl
theorem mw531 : Cond.instanceMethod yX0_tell ∈ wsA := wa_in (List.mem_append_right _ (List.mem_append_right _ (List.mem_append_left _ (List.mem_of_getElem? (i := 220) rfl)))) rfl
theorem mw532 : Cond.selects RX0 yX0_tell yX0_tell ∈ wsA := wa_in (List.mem_append_right _ (List.mem_append_right _ (List.mem_append_left _ (List.mem_of_getElem? (i := 221) rfl)))) rfl
theorem mw533 : Cond.code yX0_tell cX0_tell 2 (some .int) ∈ wsA := wa_in (List.mem_append_right _ (List.mem_append_right _ (List.mem_append_left _ (List.mem_of_getElem? (i := 222) rfl)))) rfl
theorem mw534 : Cond.methodLink RL 67 yX5_told ∈ wsA := wa_in (List.mem_append_right _ (List.mem_append_right _ (List.mem_append_right _ (List.mem_append_right _ (List.mem_of_getElem? (i := 57) rfl))))) rfl
theorem mw535 : Cond.instanceMethod yX5_told ∈ wsA := wa_in (List.mem_append_right _ (List.mem_append_right _ (List.mem_append_right _ (List.mem_append_right _ (List.mem_of_getElem? (i := 58) rfl))))) rfl
theorem mw536 : Cond.selects RX5 yX5_told yX5_told ∈ wsA := wa_in (List.mem_append_right _ (List.mem_append_right _ (List.mem_append_right _ (List.mem_append_right _ (List.mem_of_getElem? (i := 59) rfl))))) rfl
theorem mw537 : Cond.code yX5_told cX5_told 4 (some .int) ∈ wsA := wa_in (List.mem_append_right _ (List.mem_append_right _ (List.mem_append_right _ (List.mem_append_right _ (List.mem_of_getElem? (i := 60) rfl))))) rfl
theorem mw538 : Cond.fieldLink RX5 83 "GuestHouseModel$Bare" "\x72" "[I" ∈ wsA := wa_in (List.mem_append_right _ (List.mem_append_right _ (List.mem_append_right _ (List.mem_append_left _ (List.mem_of_getElem? (i := 71) rfl))))) rfl
theorem mw539 : Cond.fieldLink RX5 86 "GuestHouseModel$Bare" "control" "[I" ∈ wsA := wa_in (List.mem_append_right _ (List.mem_append_right _ (List.mem_append_right _ (List.mem_append_left _ (List.mem_of_getElem? (i := 73) rfl))))) rfl
theorem mw540 : Cond.fieldLink RX5 89 "GuestHouseModel$Bare" "pc" "I" ∈ wsA := wa_in (List.mem_append_right _ (List.mem_append_right _ (List.mem_append_right _ (List.mem_append_left _ (List.mem_of_getElem? (i := 83) rfl))))) rfl
theorem mw541 : Cond.fieldLink RX5 92 "GuestHouseModel$Bare" "mode" "I" ∈ wsA := wa_in (List.mem_append_right _ (List.mem_append_right _ (List.mem_append_right _ (List.mem_append_left _ (List.mem_of_getElem? (i := 85) rfl))))) rfl
theorem mw542 : Cond.fieldLink RX5 95 "GuestHouseModel$Bare" "frames" "I" ∈ wsA := wa_in (List.mem_append_right _ (List.mem_append_right _ (List.mem_append_right _ (List.mem_append_left _ (List.mem_of_getElem? (i := 63) rfl))))) rfl
theorem mw543 : Cond.fieldLink RX5 98 "GuestHouseModel$Bare" "outs" "I" ∈ wsA := wa_in (List.mem_append_right _ (List.mem_append_right _ (List.mem_append_right _ (List.mem_append_left _ (List.mem_of_getElem? (i := 93) rfl))))) rfl
theorem mw544 : Cond.fieldLink RX5 101 "GuestHouseModel$Bare" "place" "I" ∈ wsA := wa_in (List.mem_append_right _ (List.mem_append_right _ (List.mem_append_right _ (List.mem_append_left _ (List.mem_of_getElem? (i := 89) rfl))))) rfl
theorem mw545 : Cond.fieldLink RX5 104 "GuestHouseModel$Bare" "traps" "I" ∈ wsA := wa_in (List.mem_append_right _ (List.mem_append_right _ (List.mem_append_right _ (List.mem_append_left _ (List.mem_of_getElem? (i := 95) rfl))))) rfl
theorem mw546 : Cond.methodLink RL 68 yX3_peek ∈ wsA := wa_in (List.mem_append_right _ (List.mem_append_right _ (List.mem_append_left _ (List.mem_of_getElem? (i := 223) rfl)))) rfl
theorem mw547 : Cond.instanceMethod yX3_peek ∈ wsA := wa_in (List.mem_append_right _ (List.mem_append_right _ (List.mem_append_left _ (List.mem_of_getElem? (i := 224) rfl)))) rfl
theorem mw548 : Cond.selects RX3 yX3_peek yX3_peek ∈ wsA := wa_in (List.mem_append_right _ (List.mem_append_right _ (List.mem_append_left _ (List.mem_of_getElem? (i := 225) rfl)))) rfl
theorem mw549 : Cond.code yX3_peek cX3_peek 4 (some .int) ∈ wsA := wa_in (List.mem_append_right _ (List.mem_append_right _ (List.mem_append_left _ (List.mem_of_getElem? (i := 226) rfl)))) rfl
theorem mw550 : Cond.methodLink RX3 113 yX1_read ∈ wsA := wa_in (List.mem_append_right _ (List.mem_append_right _ (List.mem_append_left _ (List.mem_of_getElem? (i := 227) rfl)))) rfl
theorem mw551 : Cond.methodLink RL 71 yX5_peek ∈ wsA := wa_in (List.mem_append_right _ (List.mem_append_right _ (List.mem_append_right _ (List.mem_append_right _ (List.mem_of_getElem? (i := 61) rfl))))) rfl
theorem mw552 : Cond.instanceMethod yX5_peek ∈ wsA := wa_in (List.mem_append_right _ (List.mem_append_right _ (List.mem_append_right _ (List.mem_append_right _ (List.mem_of_getElem? (i := 62) rfl))))) rfl
theorem mw553 : Cond.selects RX5 yX5_peek yX5_peek ∈ wsA := wa_in (List.mem_append_right _ (List.mem_append_right _ (List.mem_append_right _ (List.mem_append_right _ (List.mem_of_getElem? (i := 63) rfl))))) rfl
theorem mw554 : Cond.code yX5_peek cX5_peek 3 (some .int) ∈ wsA := wa_in (List.mem_append_right _ (List.mem_append_right _ (List.mem_append_right _ (List.mem_append_right _ (List.mem_of_getElem? (i := 64) rfl))))) rfl
theorem mw555 : Cond.methodLink RL 72 yX3_disk ∈ wsA := wa_in (List.mem_append_right _ (List.mem_append_right _ (List.mem_append_left _ (List.mem_of_getElem? (i := 228) rfl)))) rfl
theorem mw556 : Cond.instanceMethod yX3_disk ∈ wsA := wa_in (List.mem_append_right _ (List.mem_append_right _ (List.mem_append_left _ (List.mem_of_getElem? (i := 229) rfl)))) rfl
theorem mw557 : Cond.selects RX3 yX3_disk yX3_disk ∈ wsA := wa_in (List.mem_append_right _ (List.mem_append_right _ (List.mem_append_left _ (List.mem_of_getElem? (i := 230) rfl)))) rfl
theorem mw558 : Cond.code yX3_disk cX3_disk 4 (some .int) ∈ wsA := wa_in (List.mem_append_right _ (List.mem_append_right _ (List.mem_append_left _ (List.mem_of_getElem? (i := 231) rfl)))) rfl
theorem mw559 : Cond.methodLink RL 75 yX5_disk ∈ wsA := wa_in (List.mem_append_right _ (List.mem_append_right _ (List.mem_append_right _ (List.mem_append_right _ (List.mem_of_getElem? (i := 65) rfl))))) rfl
theorem mw560 : Cond.instanceMethod yX5_disk ∈ wsA := wa_in (List.mem_append_right _ (List.mem_append_right _ (List.mem_append_right _ (List.mem_append_right _ (List.mem_of_getElem? (i := 66) rfl))))) rfl
theorem mw561 : Cond.selects RX5 yX5_disk yX5_disk ∈ wsA := wa_in (List.mem_append_right _ (List.mem_append_right _ (List.mem_append_right _ (List.mem_append_right _ (List.mem_of_getElem? (i := 67) rfl))))) rfl
theorem mw562 : Cond.code yX5_disk cX5_disk 3 (some .int) ∈ wsA := wa_in (List.mem_append_right _ (List.mem_append_right _ (List.mem_append_right _ (List.mem_append_right _ (List.mem_of_getElem? (i := 68) rfl))))) rfl
theorem mw563 : Cond.methodLink RL 76 yX3_out ∈ wsA := wa_in (List.mem_append_right _ (List.mem_append_right _ (List.mem_append_left _ (List.mem_of_getElem? (i := 232) rfl)))) rfl
theorem mw564 : Cond.instanceMethod yX3_out ∈ wsA := wa_in (List.mem_append_right _ (List.mem_append_right _ (List.mem_append_left _ (List.mem_of_getElem? (i := 233) rfl)))) rfl
theorem mw565 : Cond.selects RX3 yX3_out yX3_out ∈ wsA := wa_in (List.mem_append_right _ (List.mem_append_right _ (List.mem_append_left _ (List.mem_of_getElem? (i := 234) rfl)))) rfl
theorem mw566 : Cond.code yX3_out cX3_out 4 (some .int) ∈ wsA := wa_in (List.mem_append_right _ (List.mem_append_right _ (List.mem_append_left _ (List.mem_of_getElem? (i := 235) rfl)))) rfl
theorem mw567 : Cond.methodLink RX3 117 yX0_keptCount ∈ wsA := wa_in (List.mem_append_right _ (List.mem_append_right _ (List.mem_append_left _ (List.mem_of_getElem? (i := 236) rfl)))) rfl
theorem mw568 : Cond.instanceMethod yX0_keptCount ∈ wsA := wa_in (List.mem_append_right _ (List.mem_append_right _ (List.mem_append_left _ (List.mem_of_getElem? (i := 237) rfl)))) rfl
theorem mw569 : Cond.selects RX0 yX0_keptCount yX0_keptCount ∈ wsA := wa_in (List.mem_append_right _ (List.mem_append_right _ (List.mem_append_left _ (List.mem_of_getElem? (i := 238) rfl)))) rfl
theorem mw570 : Cond.code yX0_keptCount cX0_keptCount 1 (some .int) ∈ wsA := wa_in (List.mem_append_right _ (List.mem_append_right _ (List.mem_append_left _ (List.mem_of_getElem? (i := 239) rfl)))) rfl
theorem mw571 : Cond.methodLink RX0 83 Lib.Math.min.name ∈ wsA := wa_in (List.mem_append_right _ (List.mem_append_right _ (List.mem_append_right _ (List.mem_append_left _ (List.mem_of_getElem? (i := 0) rfl))))) rfl
theorem mw572 : Cond.methodLink RL 79 yX5_out ∈ wsA := wa_in (List.mem_append_right _ (List.mem_append_right _ (List.mem_append_right _ (List.mem_append_right _ (List.mem_of_getElem? (i := 69) rfl))))) rfl
theorem mw573 : Cond.instanceMethod yX5_out ∈ wsA := wa_in (List.mem_append_right _ (List.mem_append_right _ (List.mem_append_right _ (List.mem_append_right _ (List.mem_of_getElem? (i := 70) rfl))))) rfl
theorem mw574 : Cond.selects RX5 yX5_out yX5_out ∈ wsA := wa_in (List.mem_append_right _ (List.mem_append_right _ (List.mem_append_right _ (List.mem_append_right _ (List.mem_of_getElem? (i := 71) rfl))))) rfl
theorem mw575 : Cond.code yX5_out cX5_out 3 (some .int) ∈ wsA := wa_in (List.mem_append_right _ (List.mem_append_right _ (List.mem_append_right _ (List.mem_append_right _ (List.mem_of_getElem? (i := 72) rfl))))) rfl
theorem mw576 : Cond.fieldLink RX5 107 "GuestHouseModel$Bare" "out" "[I" ∈ wsA := wa_in (List.mem_append_right _ (List.mem_append_right _ (List.mem_append_right _ (List.mem_append_left _ (List.mem_of_getElem? (i := 81) rfl))))) rfl
theorem mw577 : Cond.methodLink RL 80 yX3_cached ∈ wsA := wa_in (List.mem_append_right _ (List.mem_append_right _ (List.mem_append_right _ (List.mem_append_left _ (List.mem_of_getElem? (i := 1) rfl))))) rfl
theorem mw578 : Cond.instanceMethod yX3_cached ∈ wsA := wa_in (List.mem_append_right _ (List.mem_append_right _ (List.mem_append_right _ (List.mem_append_left _ (List.mem_of_getElem? (i := 2) rfl))))) rfl
theorem mw579 : Cond.selects RX3 yX3_cached yX3_cached ∈ wsA := wa_in (List.mem_append_right _ (List.mem_append_right _ (List.mem_append_right _ (List.mem_append_left _ (List.mem_of_getElem? (i := 3) rfl))))) rfl
theorem mw580 : Cond.code yX3_cached cX3_cached 4 (some .int) ∈ wsA := wa_in (List.mem_append_right _ (List.mem_append_right _ (List.mem_append_right _ (List.mem_append_left _ (List.mem_of_getElem? (i := 4) rfl))))) rfl
theorem mw581 : Cond.methodLink RL 83 yX5_cached ∈ wsA := wa_in (List.mem_append_right _ (List.mem_append_right _ (List.mem_append_right _ (List.mem_append_right _ (List.mem_of_getElem? (i := 73) rfl))))) rfl
theorem mw582 : Cond.instanceMethod yX5_cached ∈ wsA := wa_in (List.mem_append_right _ (List.mem_append_right _ (List.mem_append_right _ (List.mem_append_right _ (List.mem_of_getElem? (i := 74) rfl))))) rfl
theorem mw583 : Cond.selects RX5 yX5_cached yX5_cached ∈ wsA := wa_in (List.mem_append_right _ (List.mem_append_right _ (List.mem_append_right _ (List.mem_append_right _ (List.mem_of_getElem? (i := 75) rfl))))) rfl
theorem mw584 : Cond.code yX5_cached cX5_cached 3 (some .int) ∈ wsA := wa_in (List.mem_append_right _ (List.mem_append_right _ (List.mem_append_right _ (List.mem_append_right _ (List.mem_of_getElem? (i := 76) rfl))))) rfl
theorem mw585 : Cond.fieldLink RX5 110 "GuestHouseModel$Bare" "frameOf" "[I" ∈ wsA := wa_in (List.mem_append_right _ (List.mem_append_right _ (List.mem_append_right _ (List.mem_append_left _ (List.mem_of_getElem? (i := 75) rfl))))) rfl
theorem mw586 : Cond.fieldLink RX5 113 "GuestHouseModel$Bare" "bits" "[I" ∈ wsA := wa_in (List.mem_append_right _ (List.mem_append_right _ (List.mem_append_right _ (List.mem_append_left _ (List.mem_of_getElem? (i := 77) rfl))))) rfl
theorem mw587 : Cond.methodLink RL 84 yX3_house ∈ wsA := wa_in (List.mem_append_right _ (List.mem_append_right _ (List.mem_append_right _ (List.mem_append_left _ (List.mem_of_getElem? (i := 5) rfl))))) rfl
theorem mw588 : Cond.instanceMethod yX3_house ∈ wsA := wa_in (List.mem_append_right _ (List.mem_append_right _ (List.mem_append_right _ (List.mem_append_left _ (List.mem_of_getElem? (i := 6) rfl))))) rfl
theorem mw589 : Cond.selects RX3 yX3_house yX3_house ∈ wsA := wa_in (List.mem_append_right _ (List.mem_append_right _ (List.mem_append_right _ (List.mem_append_left _ (List.mem_of_getElem? (i := 7) rfl))))) rfl
theorem mw590 : Cond.code yX3_house cX3_house 2 (some .int) ∈ wsA := wa_in (List.mem_append_right _ (List.mem_append_right _ (List.mem_append_right _ (List.mem_append_left _ (List.mem_of_getElem? (i := 8) rfl))))) rfl
theorem mw591 : Cond.methodLink RX3 129 yX3_countGuests ∈ wsA := wa_in (List.mem_append_right _ (List.mem_append_right _ (List.mem_append_right _ (List.mem_append_left _ (List.mem_of_getElem? (i := 9) rfl))))) rfl
theorem mw592 : Cond.instanceMethod yX3_countGuests ∈ wsA := wa_in (List.mem_append_right _ (List.mem_append_right _ (List.mem_append_right _ (List.mem_append_left _ (List.mem_of_getElem? (i := 11) rfl))))) rfl
theorem mw593 : Cond.selects RX3 yX3_countGuests yX3_countGuests ∈ wsA := wa_in (List.mem_append_left _ (List.mem_of_getElem? (i := 21) rfl)) rfl
theorem mw594 : Cond.code yX3_countGuests cX3_countGuests 3 (some .int) ∈ wsA := wa_in (List.mem_append_right _ (List.mem_append_right _ (List.mem_append_right _ (List.mem_append_left _ (List.mem_of_getElem? (i := 12) rfl))))) rfl
theorem mw595 : Cond.methodLink RL 87 yX5_house ∈ wsA := wa_in (List.mem_append_right _ (List.mem_append_right _ (List.mem_append_right _ (List.mem_append_right _ (List.mem_of_getElem? (i := 77) rfl))))) rfl
theorem mw596 : Cond.instanceMethod yX5_house ∈ wsA := wa_in (List.mem_append_right _ (List.mem_append_right _ (List.mem_append_right _ (List.mem_append_right _ (List.mem_of_getElem? (i := 78) rfl))))) rfl
theorem mw597 : Cond.selects RX5 yX5_house yX5_house ∈ wsA := wa_in (List.mem_append_right _ (List.mem_append_right _ (List.mem_append_right _ (List.mem_append_right _ (List.mem_of_getElem? (i := 79) rfl))))) rfl
theorem mw598 : Cond.code yX5_house cX5_house 4 (some .int) ∈ wsA := wa_in (List.mem_append_right _ (List.mem_append_right _ (List.mem_append_right _ (List.mem_append_right _ (List.mem_of_getElem? (i := 80) rfl))))) rfl
theorem mw599 : Cond.methodLink RL 88 yX3_audit ∈ wsA := wa_in (List.mem_append_right _ (List.mem_append_right _ (List.mem_append_right _ (List.mem_append_left _ (List.mem_of_getElem? (i := 13) rfl))))) rfl
theorem mw600 : Cond.instanceMethod yX3_audit ∈ wsA := wa_in (List.mem_append_right _ (List.mem_append_right _ (List.mem_append_right _ (List.mem_append_left _ (List.mem_of_getElem? (i := 14) rfl))))) rfl
theorem mw601 : Cond.selects RX3 yX3_audit yX3_audit ∈ wsA := wa_in (List.mem_append_right _ (List.mem_append_right _ (List.mem_append_right _ (List.mem_append_left _ (List.mem_of_getElem? (i := 15) rfl))))) rfl
theorem mw602 : Cond.code yX3_audit cX3_audit 4 (some .int) ∈ wsA := wa_in (List.mem_append_right _ (List.mem_append_right _ (List.mem_append_right _ (List.mem_append_left _ (List.mem_of_getElem? (i := 16) rfl))))) rfl
theorem mw603 : Cond.methodLink RX3 132 yX1_countFaults ∈ wsA := wa_in (List.mem_append_right _ (List.mem_append_right _ (List.mem_append_right _ (List.mem_append_left _ (List.mem_of_getElem? (i := 17) rfl))))) rfl
theorem mw604 : Cond.instanceMethod yX1_countFaults ∈ wsA := wa_in (List.mem_append_right _ (List.mem_append_right _ (List.mem_append_right _ (List.mem_append_left _ (List.mem_of_getElem? (i := 18) rfl))))) rfl
theorem mw605 : Cond.selects RX1 yX1_countFaults yX1_countFaults ∈ wsA := wa_in (List.mem_append_right _ (List.mem_append_right _ (List.mem_append_right _ (List.mem_append_left _ (List.mem_of_getElem? (i := 19) rfl))))) rfl
theorem mw606 : Cond.code yX1_countFaults cX1_countFaults 2 (some .int) ∈ wsA := wa_in (List.mem_append_right _ (List.mem_append_right _ (List.mem_append_right _ (List.mem_append_left _ (List.mem_of_getElem? (i := 20) rfl))))) rfl
theorem mw607 : Cond.methodLink RX1 93 yX1_countWrongUses ∈ wsA := wa_in (List.mem_append_right _ (List.mem_append_right _ (List.mem_append_right _ (List.mem_append_left _ (List.mem_of_getElem? (i := 21) rfl))))) rfl
theorem mw608 : Cond.instanceMethod yX1_countWrongUses ∈ wsA := wa_in (List.mem_append_right _ (List.mem_append_right _ (List.mem_append_right _ (List.mem_append_left _ (List.mem_of_getElem? (i := 23) rfl))))) rfl
theorem mw609 : Cond.selects RX1 yX1_countWrongUses yX1_countWrongUses ∈ wsA := wa_in (List.mem_append_left _ (List.mem_of_getElem? (i := 22) rfl)) rfl
theorem mw610 : Cond.code yX1_countWrongUses cX1_countWrongUses 6 (some .int) ∈ wsA := wa_in (List.mem_append_right _ (List.mem_append_right _ (List.mem_append_right _ (List.mem_append_left _ (List.mem_of_getElem? (i := 24) rfl))))) rfl
theorem mw611 : Cond.methodLink RX1 97 yX1_countWrongSheets ∈ wsA := wa_in (List.mem_append_right _ (List.mem_append_right _ (List.mem_append_right _ (List.mem_append_left _ (List.mem_of_getElem? (i := 25) rfl))))) rfl
theorem mw612 : Cond.instanceMethod yX1_countWrongSheets ∈ wsA := wa_in (List.mem_append_right _ (List.mem_append_right _ (List.mem_append_right _ (List.mem_append_left _ (List.mem_of_getElem? (i := 27) rfl))))) rfl
theorem mw613 : Cond.selects RX1 yX1_countWrongSheets yX1_countWrongSheets ∈ wsA := wa_in (List.mem_append_left _ (List.mem_of_getElem? (i := 23) rfl)) rfl
theorem mw614 : Cond.code yX1_countWrongSheets cX1_countWrongSheets 4 (some .int) ∈ wsA := wa_in (List.mem_append_right _ (List.mem_append_right _ (List.mem_append_right _ (List.mem_append_left _ (List.mem_of_getElem? (i := 28) rfl))))) rfl
theorem mw615 : Cond.methodLink RX1 131 yX1_countDifferent ∈ wsA := wa_in (List.mem_append_right _ (List.mem_append_right _ (List.mem_append_right _ (List.mem_append_left _ (List.mem_of_getElem? (i := 29) rfl))))) rfl
theorem mw616 : Cond.instanceMethod yX1_countDifferent ∈ wsA := wa_in (List.mem_append_right _ (List.mem_append_right _ (List.mem_append_right _ (List.mem_append_left _ (List.mem_of_getElem? (i := 31) rfl))))) rfl
theorem mw617 : Cond.selects RX1 yX1_countDifferent yX1_countDifferent ∈ wsA := wa_in (List.mem_append_left _ (List.mem_of_getElem? (i := 24) rfl)) rfl
theorem mw618 : Cond.code yX1_countDifferent cX1_countDifferent 5 (some .int) ∈ wsA := wa_in (List.mem_append_right _ (List.mem_append_right _ (List.mem_append_right _ (List.mem_append_left _ (List.mem_of_getElem? (i := 32) rfl))))) rfl
theorem mw619 : Cond.methodLink RX1 101 yX1_countWrongFrames ∈ wsA := wa_in (List.mem_append_right _ (List.mem_append_right _ (List.mem_append_right _ (List.mem_append_left _ (List.mem_of_getElem? (i := 33) rfl))))) rfl
theorem mw620 : Cond.instanceMethod yX1_countWrongFrames ∈ wsA := wa_in (List.mem_append_right _ (List.mem_append_right _ (List.mem_append_right _ (List.mem_append_left _ (List.mem_of_getElem? (i := 35) rfl))))) rfl
theorem mw621 : Cond.selects RX1 yX1_countWrongFrames yX1_countWrongFrames ∈ wsA := wa_in (List.mem_append_left _ (List.mem_of_getElem? (i := 25) rfl)) rfl
theorem mw622 : Cond.code yX1_countWrongFrames cX1_countWrongFrames 5 (some .int) ∈ wsA := wa_in (List.mem_append_right _ (List.mem_append_right _ (List.mem_append_right _ (List.mem_append_left _ (List.mem_of_getElem? (i := 36) rfl))))) rfl
theorem mw623 : Cond.methodLink RX1 104 yX1_countWrongFree ∈ wsA := wa_in (List.mem_append_right _ (List.mem_append_right _ (List.mem_append_right _ (List.mem_append_left _ (List.mem_of_getElem? (i := 37) rfl))))) rfl
theorem mw624 : Cond.instanceMethod yX1_countWrongFree ∈ wsA := wa_in (List.mem_append_right _ (List.mem_append_right _ (List.mem_append_right _ (List.mem_append_left _ (List.mem_of_getElem? (i := 39) rfl))))) rfl
theorem mw625 : Cond.selects RX1 yX1_countWrongFree yX1_countWrongFree ∈ wsA := wa_in (List.mem_append_left _ (List.mem_of_getElem? (i := 26) rfl)) rfl
theorem mw626 : Cond.code yX1_countWrongFree cX1_countWrongFree 4 (some .int) ∈ wsA := wa_in (List.mem_append_right _ (List.mem_append_right _ (List.mem_append_right _ (List.mem_append_left _ (List.mem_of_getElem? (i := 40) rfl))))) rfl
theorem mw627 : Cond.methodLink RX1 134 Lib.Math.abs.name ∈ wsA := wa_in (List.mem_append_right _ (List.mem_append_right _ (List.mem_append_right _ (List.mem_append_left _ (List.mem_of_getElem? (i := 41) rfl))))) rfl
theorem mw628 : Cond.static Lib.Math.abs.name ∈ wsA := wa_in (List.mem_append_right _ (List.mem_append_right _ (List.mem_append_right _ (List.mem_append_left _ (List.mem_of_getElem? (i := 42) rfl))))) rfl
theorem mw629 : Cond.code Lib.Math.abs.name Lib.Math.abs.code 1 (some .int) ∈ wsA := wa_in (List.mem_append_right _ (List.mem_append_right _ (List.mem_append_right _ (List.mem_append_left _ (List.mem_of_getElem? (i := 43) rfl))))) rfl
theorem mw630 : Cond.methodLink RX3 136 yX0_countFaults ∈ wsA := wa_in (List.mem_append_right _ (List.mem_append_right _ (List.mem_append_right _ (List.mem_append_left _ (List.mem_of_getElem? (i := 44) rfl))))) rfl
theorem mw631 : Cond.instanceMethod yX0_countFaults ∈ wsA := wa_in (List.mem_append_right _ (List.mem_append_right _ (List.mem_append_right _ (List.mem_append_left _ (List.mem_of_getElem? (i := 45) rfl))))) rfl
theorem mw632 : Cond.selects RX0 yX0_countFaults yX0_countFaults ∈ wsA := wa_in (List.mem_append_right _ (List.mem_append_right _ (List.mem_append_right _ (List.mem_append_left _ (List.mem_of_getElem? (i := 46) rfl))))) rfl
theorem mw633 : Cond.code yX0_countFaults cX0_countFaults 7 (some .int) ∈ wsA := wa_in (List.mem_append_right _ (List.mem_append_right _ (List.mem_append_right _ (List.mem_append_left _ (List.mem_of_getElem? (i := 47) rfl))))) rfl
theorem mw634 : Cond.methodLink RX0 89 yX0_hasWord ∈ wsA := wa_in (List.mem_append_right _ (List.mem_append_right _ (List.mem_append_right _ (List.mem_append_left _ (List.mem_of_getElem? (i := 48) rfl))))) rfl
theorem mw635 : Cond.methodLink RL 92 yX5_audit ∈ wsA := wa_in (List.mem_append_right _ (List.mem_append_right _ (List.mem_append_right _ (List.mem_append_right _ (List.mem_of_getElem? (i := 81) rfl))))) rfl
theorem mw636 : Cond.instanceMethod yX5_audit ∈ wsA := wa_in (List.mem_append_right _ (List.mem_append_right _ (List.mem_append_right _ (List.mem_append_right _ (List.mem_of_getElem? (i := 82) rfl))))) rfl
theorem mw637 : Cond.selects RX5 yX5_audit yX5_audit ∈ wsA := wa_in (List.mem_append_right _ (List.mem_append_right _ (List.mem_append_right _ (List.mem_append_right _ (List.mem_of_getElem? (i := 83) rfl))))) rfl
theorem mw638 : Cond.code yX5_audit cX5_audit 1 (some .int) ∈ wsA := wa_in (List.mem_append_right _ (List.mem_append_right _ (List.mem_append_right _ (List.mem_append_right _ (List.mem_of_getElem? (i := 84) rfl))))) rfl
theorem mw639 : Cond.methodLinkNest RX3 11 yX1_init "GuestHouse" ∈ lw_tbl := List.mem_append_right _ (List.mem_append_left _ (List.mem_of_getElem? (i := 20) rfl))
theorem mw640 : Cond.methodLinkNest RX3 142 yX0_init "GuestHouse" ∈ lw_tbl := List.mem_append_right _ (List.mem_append_left _ (List.mem_of_getElem? (i := 144) rfl))
theorem mw641 : Cond.fieldLinkNest RX3 92 "GuestHouse$Guest" "here" "Z" "GuestHouse" ∈ lw_tbl := List.mem_append_right _ (List.mem_append_left _ (List.mem_of_getElem? (i := 149) rfl))
theorem mw642 : Cond.fieldLinkNest RX1 127 "GuestHouse$Guest" "here" "Z" "GuestHouse" ∈ lw_tbl := List.mem_append_right _ (List.mem_append_left _ (List.mem_of_getElem? (i := 150) rfl))
theorem mw643 : Cond.fieldLinkNest RX3 54 "GuestHouse$Guest" "phase" "I" "GuestHouse" ∈ lw_tbl := List.mem_append_right _ (List.mem_append_left _ (List.mem_of_getElem? (i := 152) rfl))
theorem mw644 : Cond.fieldLinkNest RX2 131 "GuestHouse$Guest" "phase" "I" "GuestHouse" ∈ lw_tbl := List.mem_append_right _ (List.mem_append_left _ (List.mem_of_getElem? (i := 153) rfl))
theorem mw645 : Cond.fieldLinkNest RX2 26 "GuestHouse$Guest" "pc" "I" "GuestHouse" ∈ lw_tbl := List.mem_append_right _ (List.mem_append_left _ (List.mem_of_getElem? (i := 154) rfl))
theorem mw646 : Cond.fieldLinkNest RX3 73 "GuestHouse$Guest" "pc" "I" "GuestHouse" ∈ lw_tbl := List.mem_append_right _ (List.mem_append_left _ (List.mem_of_getElem? (i := 156) rfl))
theorem mw647 : Cond.fieldLinkNest RX2 72 "GuestHouse$Guest" "mode" "I" "GuestHouse" ∈ lw_tbl := List.mem_append_right _ (List.mem_append_left _ (List.mem_of_getElem? (i := 157) rfl))
theorem mw648 : Cond.fieldLinkNest RX3 76 "GuestHouse$Guest" "mode" "I" "GuestHouse" ∈ lw_tbl := List.mem_append_right _ (List.mem_append_left _ (List.mem_of_getElem? (i := 159) rfl))
theorem mw649 : Cond.fieldLinkNest RX2 147 "GuestHouse$Guest" "place" "I" "GuestHouse" ∈ lw_tbl := List.mem_append_right _ (List.mem_append_left _ (List.mem_of_getElem? (i := 161) rfl))
theorem mw650 : Cond.fieldLinkNest RX1 59 "GuestHouse$Guest" "frames" "I" "GuestHouse" ∈ lw_tbl := List.mem_append_right _ (List.mem_append_left _ (List.mem_of_getElem? (i := 164) rfl))
theorem mw651 : Cond.fieldLinkNest RX2 99 "GuestHouse$Guest" "frames" "I" "GuestHouse" ∈ lw_tbl := List.mem_append_right _ (List.mem_append_left _ (List.mem_of_getElem? (i := 165) rfl))
theorem mw652 : Cond.fieldLinkNest RX1 62 "GuestHouse$Guest" "sheets" "[I" "GuestHouse" ∈ lw_tbl := List.mem_append_right _ (List.mem_append_left _ (List.mem_of_getElem? (i := 167) rfl))
theorem mw653 : Cond.fieldLinkNest RX3 66 "GuestHouse$Guest" "sectors" "[I" "GuestHouse" ∈ lw_tbl := List.mem_append_right _ (List.mem_append_left _ (List.mem_of_getElem? (i := 169) rfl))
theorem mw654 : Cond.fieldLinkNest RX1 84 "GuestHouse$Guest" "sectors" "[I" "GuestHouse" ∈ lw_tbl := List.mem_append_right _ (List.mem_append_left _ (List.mem_of_getElem? (i := 170) rfl))
theorem mw655 : Cond.fieldLinkNest RX2 82 "GuestHouse$Guest" "registers" "[I" "GuestHouse" ∈ lw_tbl := List.mem_append_right _ (List.mem_append_left _ (List.mem_of_getElem? (i := 172) rfl))
theorem mw656 : Cond.fieldLinkNest RX2 34 "GuestHouse$Guest" "controls" "[I" "GuestHouse" ∈ lw_tbl := List.mem_append_right _ (List.mem_append_left _ (List.mem_of_getElem? (i := 174) rfl))
theorem mw657 : Cond.fieldLinkNest RX2 96 "GuestHouse$Guest" "cache" "[I" "GuestHouse" ∈ lw_tbl := List.mem_append_right _ (List.mem_append_left _ (List.mem_of_getElem? (i := 176) rfl))
theorem mw658 : Cond.fieldLinkNest RX3 123 "GuestHouse$Guest" "cache" "[I" "GuestHouse" ∈ lw_tbl := List.mem_append_right _ (List.mem_append_left _ (List.mem_of_getElem? (i := 177) rfl))
theorem mw659 : Cond.fieldLinkNest RX2 89 "GuestHouse$Guest" "waiting" "I" "GuestHouse" ∈ lw_tbl := List.mem_append_right _ (List.mem_append_left _ (List.mem_of_getElem? (i := 181) rfl))
theorem mw660 : Cond.fieldLinkNest RX3 120 "GuestHouse$Guest" "kept" "[I" "GuestHouse" ∈ lw_tbl := List.mem_append_right _ (List.mem_append_left _ (List.mem_of_getElem? (i := 183) rfl))
theorem mw661 : Cond.fieldLinkNest RX2 144 "GuestHouse$Guest" "putCount" "I" "GuestHouse" ∈ lw_tbl := List.mem_append_right _ (List.mem_append_left _ (List.mem_of_getElem? (i := 185) rfl))
theorem mw662 : Cond.methodLinkNest RX5 23 yX4_init "GuestHouseModel" ∈ lw_tbl := List.mem_append_right _ (List.mem_append_right _ (List.mem_append_right _ (List.mem_append_left _ (List.mem_of_getElem? (i := 58) rfl))))
theorem mw663 : Cond.methodLinkNest RX4 72 yX5_isBelow "GuestHouseModel" ∈ lw_tbl := List.mem_append_right _ (List.mem_append_right _ (List.mem_append_right _ (List.mem_append_left _ (List.mem_of_getElem? (i := 189) rfl))))
theorem ly0_0 : u_lay RX0 TX0 0 ∈ wsA := wa_in (List.mem_append_right _ (List.mem_append_left _ (List.mem_of_getElem? (i := 186) rfl))) rfl
theorem ly0_1 : u_lay RX0 TX0 1 ∈ wsA := wa_in (List.mem_append_right _ (List.mem_append_left _ (List.mem_of_getElem? (i := 188) rfl))) rfl
theorem ly0_2 : u_lay RX0 TX0 2 ∈ wsA := wa_in (List.mem_append_right _ (List.mem_append_left _ (List.mem_of_getElem? (i := 190) rfl))) rfl
theorem ly0_3 : u_lay RX0 TX0 3 ∈ wsA := wa_in (List.mem_append_right _ (List.mem_append_left _ (List.mem_of_getElem? (i := 192) rfl))) rfl
theorem ly0_4 : u_lay RX0 TX0 4 ∈ wsA := wa_in (List.mem_append_right _ (List.mem_append_left _ (List.mem_of_getElem? (i := 194) rfl))) rfl
theorem ly0_5 : u_lay RX0 TX0 5 ∈ wsA := wa_in (List.mem_append_right _ (List.mem_append_left _ (List.mem_of_getElem? (i := 196) rfl))) rfl
theorem ly0_6 : u_lay RX0 TX0 6 ∈ wsA := wa_in (List.mem_append_right _ (List.mem_append_left _ (List.mem_of_getElem? (i := 198) rfl))) rfl
theorem ly0_7 : u_lay RX0 TX0 7 ∈ wsA := wa_in (List.mem_append_right _ (List.mem_append_left _ (List.mem_of_getElem? (i := 200) rfl))) rfl
theorem ly0_8 : u_lay RX0 TX0 8 ∈ wsA := wa_in (List.mem_append_right _ (List.mem_append_left _ (List.mem_of_getElem? (i := 202) rfl))) rfl
theorem ly0_9 : u_lay RX0 TX0 9 ∈ wsA := wa_in (List.mem_append_right _ (List.mem_append_left _ (List.mem_of_getElem? (i := 204) rfl))) rfl
theorem ly0_10 : u_lay RX0 TX0 10 ∈ wsA := wa_in (List.mem_append_right _ (List.mem_append_left _ (List.mem_of_getElem? (i := 206) rfl))) rfl
theorem ly0_11 : u_lay RX0 TX0 11 ∈ wsA := wa_in (List.mem_append_right _ (List.mem_append_left _ (List.mem_of_getElem? (i := 208) rfl))) rfl
theorem ly0_12 : u_lay RX0 TX0 12 ∈ wsA := wa_in (List.mem_append_right _ (List.mem_append_left _ (List.mem_of_getElem? (i := 210) rfl))) rfl
theorem ly0_13 : u_lay RX0 TX0 13 ∈ wsA := wa_in (List.mem_append_right _ (List.mem_append_left _ (List.mem_of_getElem? (i := 212) rfl))) rfl
theorem ly0_14 : u_lay RX0 TX0 14 ∈ wsA := wa_in (List.mem_append_right _ (List.mem_append_left _ (List.mem_of_getElem? (i := 214) rfl))) rfl
theorem ly0_15 : u_lay RX0 TX0 15 ∈ wsA := wa_in (List.mem_append_right _ (List.mem_append_left _ (List.mem_of_getElem? (i := 216) rfl))) rfl
theorem ly0_16 : u_lay RX0 TX0 16 ∈ wsA := wa_in (List.mem_append_right _ (List.mem_append_left _ (List.mem_of_getElem? (i := 218) rfl))) rfl
theorem inA0 : ∀ w ∈ u_ws RX0 TX0 17, w ∈ wsA := List.forall_mem_cons.mpr ⟨ly0_0, List.forall_mem_cons.mpr ⟨ly0_1, List.forall_mem_cons.mpr ⟨ly0_2, List.forall_mem_cons.mpr ⟨ly0_3, List.forall_mem_cons.mpr ⟨ly0_4, List.forall_mem_cons.mpr ⟨ly0_5, List.forall_mem_cons.mpr ⟨ly0_6, List.forall_mem_cons.mpr ⟨ly0_7, List.forall_mem_cons.mpr ⟨ly0_8, List.forall_mem_cons.mpr ⟨ly0_9, List.forall_mem_cons.mpr ⟨ly0_10, List.forall_mem_cons.mpr ⟨ly0_11, List.forall_mem_cons.mpr ⟨ly0_12, List.forall_mem_cons.mpr ⟨ly0_13, List.forall_mem_cons.mpr ⟨ly0_14, List.forall_mem_cons.mpr ⟨ly0_15, List.forall_mem_cons.mpr ⟨ly0_16, fun _ h => absurd h List.not_mem_nil⟩⟩⟩⟩⟩⟩⟩⟩⟩⟩⟩⟩⟩⟩⟩⟩⟩
theorem ly1_0 : u_lay RX1 TX1 0 ∈ wsA := wa_in (List.mem_append_right _ (List.mem_append_left _ (List.mem_of_getElem? (i := 37) rfl))) rfl
theorem ly1_1 : u_lay RX1 TX1 1 ∈ wsA := wa_in (List.mem_append_right _ (List.mem_append_left _ (List.mem_of_getElem? (i := 39) rfl))) rfl
theorem ly1_2 : u_lay RX1 TX1 2 ∈ wsA := wa_in (List.mem_append_right _ (List.mem_append_left _ (List.mem_of_getElem? (i := 41) rfl))) rfl
theorem ly1_3 : u_lay RX1 TX1 3 ∈ wsA := wa_in (List.mem_append_right _ (List.mem_append_left _ (List.mem_of_getElem? (i := 43) rfl))) rfl
theorem ly1_4 : u_lay RX1 TX1 4 ∈ wsA := wa_in (List.mem_append_right _ (List.mem_append_left _ (List.mem_of_getElem? (i := 45) rfl))) rfl
theorem ly1_5 : u_lay RX1 TX1 5 ∈ wsA := wa_in (List.mem_append_right _ (List.mem_append_left _ (List.mem_of_getElem? (i := 47) rfl))) rfl
theorem ly1_6 : u_lay RX1 TX1 6 ∈ wsA := wa_in (List.mem_append_right _ (List.mem_append_left _ (List.mem_of_getElem? (i := 49) rfl))) rfl
theorem ly1_7 : u_lay RX1 TX1 7 ∈ wsA := wa_in (List.mem_append_right _ (List.mem_append_left _ (List.mem_of_getElem? (i := 51) rfl))) rfl
theorem ly1_8 : u_lay RX1 TX1 8 ∈ wsA := wa_in (List.mem_append_right _ (List.mem_append_left _ (List.mem_of_getElem? (i := 53) rfl))) rfl
theorem ly1_9 : u_lay RX1 TX1 9 ∈ wsA := wa_in (List.mem_append_right _ (List.mem_append_left _ (List.mem_of_getElem? (i := 55) rfl))) rfl
theorem ly1_10 : u_lay RX1 TX1 10 ∈ wsA := wa_in (List.mem_append_right _ (List.mem_append_left _ (List.mem_of_getElem? (i := 57) rfl))) rfl
theorem ly1_11 : u_lay RX1 TX1 11 ∈ wsA := wa_in (List.mem_append_right _ (List.mem_append_left _ (List.mem_of_getElem? (i := 59) rfl))) rfl
theorem ly1_12 : u_lay RX1 TX1 12 ∈ wsA := wa_in (List.mem_append_right _ (List.mem_append_left _ (List.mem_of_getElem? (i := 61) rfl))) rfl
theorem inA1 : ∀ w ∈ u_ws RX1 TX1 13, w ∈ wsA := List.forall_mem_cons.mpr ⟨ly1_0, List.forall_mem_cons.mpr ⟨ly1_1, List.forall_mem_cons.mpr ⟨ly1_2, List.forall_mem_cons.mpr ⟨ly1_3, List.forall_mem_cons.mpr ⟨ly1_4, List.forall_mem_cons.mpr ⟨ly1_5, List.forall_mem_cons.mpr ⟨ly1_6, List.forall_mem_cons.mpr ⟨ly1_7, List.forall_mem_cons.mpr ⟨ly1_8, List.forall_mem_cons.mpr ⟨ly1_9, List.forall_mem_cons.mpr ⟨ly1_10, List.forall_mem_cons.mpr ⟨ly1_11, List.forall_mem_cons.mpr ⟨ly1_12, fun _ h => absurd h List.not_mem_nil⟩⟩⟩⟩⟩⟩⟩⟩⟩⟩⟩⟩⟩
theorem ly2_0 : u_lay RX2 TX2 0 ∈ wsA := wa_in (List.mem_append_right _ (List.mem_append_left _ (List.mem_of_getElem? (i := 77) rfl))) rfl
theorem ly2_1 : u_lay RX2 TX2 1 ∈ wsA := wa_in (List.mem_append_right _ (List.mem_append_left _ (List.mem_of_getElem? (i := 79) rfl))) rfl
theorem ly2_2 : u_lay RX2 TX2 2 ∈ wsA := wa_in (List.mem_append_right _ (List.mem_append_left _ (List.mem_of_getElem? (i := 81) rfl))) rfl
theorem ly2_3 : u_lay RX2 TX2 3 ∈ wsA := wa_in (List.mem_append_right _ (List.mem_append_left _ (List.mem_of_getElem? (i := 83) rfl))) rfl
theorem ly2_4 : u_lay RX2 TX2 4 ∈ wsA := wa_in (List.mem_append_right _ (List.mem_append_left _ (List.mem_of_getElem? (i := 85) rfl))) rfl
theorem inA2 : ∀ w ∈ u_ws RX2 TX2 5, w ∈ wsA := List.forall_mem_cons.mpr ⟨ly2_0, List.forall_mem_cons.mpr ⟨ly2_1, List.forall_mem_cons.mpr ⟨ly2_2, List.forall_mem_cons.mpr ⟨ly2_3, List.forall_mem_cons.mpr ⟨ly2_4, fun _ h => absurd h List.not_mem_nil⟩⟩⟩⟩⟩
theorem ly3_0 : u_lay RX3 TX3 0 ∈ wsA := wa_in (List.mem_append_right _ (List.mem_append_left _ (List.mem_of_getElem? (i := 108) rfl))) rfl
theorem ly3_1 : u_lay RX3 TX3 1 ∈ wsA := wa_in (List.mem_append_right _ (List.mem_append_left _ (List.mem_of_getElem? (i := 110) rfl))) rfl
theorem ly3_2 : u_lay RX3 TX3 2 ∈ wsA := wa_in (List.mem_append_right _ (List.mem_append_left _ (List.mem_of_getElem? (i := 112) rfl))) rfl
theorem ly3_3 : u_lay RX3 TX3 3 ∈ wsA := wa_in (List.mem_append_right _ (List.mem_append_left _ (List.mem_of_getElem? (i := 114) rfl))) rfl
theorem ly3_4 : u_lay RX3 TX3 4 ∈ wsA := wa_in (List.mem_append_right _ (List.mem_append_left _ (List.mem_of_getElem? (i := 116) rfl))) rfl
theorem ly3_5 : u_lay RX3 TX3 5 ∈ wsA := wa_in (List.mem_append_right _ (List.mem_append_left _ (List.mem_of_getElem? (i := 118) rfl))) rfl
theorem ly3_6 : u_lay RX3 TX3 6 ∈ wsA := wa_in (List.mem_append_right _ (List.mem_append_left _ (List.mem_of_getElem? (i := 120) rfl))) rfl
theorem inA3 : ∀ w ∈ u_ws RX3 TX3 7, w ∈ wsA := List.forall_mem_cons.mpr ⟨ly3_0, List.forall_mem_cons.mpr ⟨ly3_1, List.forall_mem_cons.mpr ⟨ly3_2, List.forall_mem_cons.mpr ⟨ly3_3, List.forall_mem_cons.mpr ⟨ly3_4, List.forall_mem_cons.mpr ⟨ly3_5, List.forall_mem_cons.mpr ⟨ly3_6, fun _ h => absurd h List.not_mem_nil⟩⟩⟩⟩⟩⟩⟩
theorem ly4_0 : u_lay RX4 TX4 0 ∈ wsA := wa_in (List.mem_append_right _ (List.mem_append_right _ (List.mem_append_right _ (List.mem_append_left _ (List.mem_of_getElem? (i := 98) rfl))))) rfl
theorem ly4_1 : u_lay RX4 TX4 1 ∈ wsA := wa_in (List.mem_append_right _ (List.mem_append_right _ (List.mem_append_right _ (List.mem_append_left _ (List.mem_of_getElem? (i := 100) rfl))))) rfl
theorem ly4_2 : u_lay RX4 TX4 2 ∈ wsA := wa_in (List.mem_append_right _ (List.mem_append_right _ (List.mem_append_right _ (List.mem_append_left _ (List.mem_of_getElem? (i := 102) rfl))))) rfl
theorem ly4_3 : u_lay RX4 TX4 3 ∈ wsA := wa_in (List.mem_append_right _ (List.mem_append_right _ (List.mem_append_right _ (List.mem_append_left _ (List.mem_of_getElem? (i := 104) rfl))))) rfl
theorem ly4_4 : u_lay RX4 TX4 4 ∈ wsA := wa_in (List.mem_append_right _ (List.mem_append_right _ (List.mem_append_right _ (List.mem_append_left _ (List.mem_of_getElem? (i := 106) rfl))))) rfl
theorem ly4_5 : u_lay RX4 TX4 5 ∈ wsA := wa_in (List.mem_append_right _ (List.mem_append_right _ (List.mem_append_right _ (List.mem_append_left _ (List.mem_of_getElem? (i := 108) rfl))))) rfl
theorem ly4_6 : u_lay RX4 TX4 6 ∈ wsA := wa_in (List.mem_append_right _ (List.mem_append_right _ (List.mem_append_right _ (List.mem_append_left _ (List.mem_of_getElem? (i := 110) rfl))))) rfl
theorem ly4_7 : u_lay RX4 TX4 7 ∈ wsA := wa_in (List.mem_append_right _ (List.mem_append_right _ (List.mem_append_right _ (List.mem_append_left _ (List.mem_of_getElem? (i := 112) rfl))))) rfl
theorem ly4_8 : u_lay RX4 TX4 8 ∈ wsA := wa_in (List.mem_append_right _ (List.mem_append_right _ (List.mem_append_right _ (List.mem_append_left _ (List.mem_of_getElem? (i := 114) rfl))))) rfl
theorem ly4_9 : u_lay RX4 TX4 9 ∈ wsA := wa_in (List.mem_append_right _ (List.mem_append_right _ (List.mem_append_right _ (List.mem_append_left _ (List.mem_of_getElem? (i := 116) rfl))))) rfl
theorem ly4_10 : u_lay RX4 TX4 10 ∈ wsA := wa_in (List.mem_append_right _ (List.mem_append_right _ (List.mem_append_right _ (List.mem_append_left _ (List.mem_of_getElem? (i := 118) rfl))))) rfl
theorem ly4_11 : u_lay RX4 TX4 11 ∈ wsA := wa_in (List.mem_append_right _ (List.mem_append_right _ (List.mem_append_right _ (List.mem_append_left _ (List.mem_of_getElem? (i := 120) rfl))))) rfl
theorem ly4_12 : u_lay RX4 TX4 12 ∈ wsA := wa_in (List.mem_append_right _ (List.mem_append_right _ (List.mem_append_right _ (List.mem_append_left _ (List.mem_of_getElem? (i := 122) rfl))))) rfl
theorem ly4_13 : u_lay RX4 TX4 13 ∈ wsA := wa_in (List.mem_append_right _ (List.mem_append_right _ (List.mem_append_right _ (List.mem_append_left _ (List.mem_of_getElem? (i := 124) rfl))))) rfl
theorem ly4_14 : u_lay RX4 TX4 14 ∈ wsA := wa_in (List.mem_append_right _ (List.mem_append_right _ (List.mem_append_right _ (List.mem_append_left _ (List.mem_of_getElem? (i := 126) rfl))))) rfl
theorem ly4_15 : u_lay RX4 TX4 15 ∈ wsA := wa_in (List.mem_append_right _ (List.mem_append_right _ (List.mem_append_right _ (List.mem_append_left _ (List.mem_of_getElem? (i := 128) rfl))))) rfl
theorem ly4_16 : u_lay RX4 TX4 16 ∈ wsA := wa_in (List.mem_append_right _ (List.mem_append_right _ (List.mem_append_right _ (List.mem_append_left _ (List.mem_of_getElem? (i := 130) rfl))))) rfl
theorem ly4_17 : u_lay RX4 TX4 17 ∈ wsA := wa_in (List.mem_append_right _ (List.mem_append_right _ (List.mem_append_right _ (List.mem_append_left _ (List.mem_of_getElem? (i := 132) rfl))))) rfl
theorem ly4_18 : u_lay RX4 TX4 18 ∈ wsA := wa_in (List.mem_append_right _ (List.mem_append_right _ (List.mem_append_right _ (List.mem_append_left _ (List.mem_of_getElem? (i := 134) rfl))))) rfl
theorem inA4 : ∀ w ∈ u_ws RX4 TX4 19, w ∈ wsA := List.forall_mem_cons.mpr ⟨ly4_0, List.forall_mem_cons.mpr ⟨ly4_1, List.forall_mem_cons.mpr ⟨ly4_2, List.forall_mem_cons.mpr ⟨ly4_3, List.forall_mem_cons.mpr ⟨ly4_4, List.forall_mem_cons.mpr ⟨ly4_5, List.forall_mem_cons.mpr ⟨ly4_6, List.forall_mem_cons.mpr ⟨ly4_7, List.forall_mem_cons.mpr ⟨ly4_8, List.forall_mem_cons.mpr ⟨ly4_9, List.forall_mem_cons.mpr ⟨ly4_10, List.forall_mem_cons.mpr ⟨ly4_11, List.forall_mem_cons.mpr ⟨ly4_12, List.forall_mem_cons.mpr ⟨ly4_13, List.forall_mem_cons.mpr ⟨ly4_14, List.forall_mem_cons.mpr ⟨ly4_15, List.forall_mem_cons.mpr ⟨ly4_16, List.forall_mem_cons.mpr ⟨ly4_17, List.forall_mem_cons.mpr ⟨ly4_18, fun _ h => absurd h List.not_mem_nil⟩⟩⟩⟩⟩⟩⟩⟩⟩⟩⟩⟩⟩⟩⟩⟩⟩⟩⟩
theorem ly5_0 : u_lay RX5 TX5 0 ∈ wsA := wa_in (List.mem_append_right _ (List.mem_append_right _ (List.mem_append_right _ (List.mem_append_left _ (List.mem_of_getElem? (i := 142) rfl))))) rfl
theorem ly5_1 : u_lay RX5 TX5 1 ∈ wsA := wa_in (List.mem_append_right _ (List.mem_append_right _ (List.mem_append_right _ (List.mem_append_left _ (List.mem_of_getElem? (i := 144) rfl))))) rfl
theorem ly5_2 : u_lay RX5 TX5 2 ∈ wsA := wa_in (List.mem_append_right _ (List.mem_append_right _ (List.mem_append_right _ (List.mem_append_left _ (List.mem_of_getElem? (i := 146) rfl))))) rfl
theorem ly5_3 : u_lay RX5 TX5 3 ∈ wsA := wa_in (List.mem_append_right _ (List.mem_append_right _ (List.mem_append_right _ (List.mem_append_left _ (List.mem_of_getElem? (i := 148) rfl))))) rfl
theorem ly5_4 : u_lay RX5 TX5 4 ∈ wsA := wa_in (List.mem_append_right _ (List.mem_append_right _ (List.mem_append_right _ (List.mem_append_left _ (List.mem_of_getElem? (i := 150) rfl))))) rfl
theorem inA5 : ∀ w ∈ u_ws RX5 TX5 5, w ∈ wsA := List.forall_mem_cons.mpr ⟨ly5_0, List.forall_mem_cons.mpr ⟨ly5_1, List.forall_mem_cons.mpr ⟨ly5_2, List.forall_mem_cons.mpr ⟨ly5_3, List.forall_mem_cons.mpr ⟨ly5_4, fun _ h => absurd h List.not_mem_nil⟩⟩⟩⟩⟩
end
section
/-! ===== contracts that count what was made, not what could be ===== -/
section XM
variable {l : Launch} {R : Room} {p : Program} {e : Env} {below : List Frame} {s : State} {sargs : Array Value} {y : MethodName} {len Wt : Nat}
def xMet (l : Launch) (y : MethodName) (ws : List Cond) (rm : Room) (Pc : Array Value → State → Prop) (Qc : Array Value → State → Outcome → State → Nat → Nat → Prop) (free : Addr → Prop) : Prop :=
  MetFree l y (headSpec ws rm) Pc (fun _ _ _ _ _ => True) (fun a st o t => ∃ (L : List Loc) (k n : Nat), FrameEnd st o t L k n ∧ (∀ q ∈ L, free q.base) ∧ Qc a st o t k n)
def xPost (Qc : Array Value → State → Outcome → State → Nat → Nat → Prop) (free : Addr → Prop) : Pt → Array Value → Option Value → Pt → Prop := fun A a v B =>
  ∃ (g : JFrame) (mk : MethodId) (t : State) (L : List Loc) (k n : Nat), B.U.heap = t.heap ∧ B.U.vm = t.vm ∧ Qc a (A.U.calling g mk a) (.returned v) t k n ∧ B.locs = A.locs ++ L ∧ (∀ q ∈ L, free q.base) ∧ B.cells = A.cells + k ∧ B.slots = A.slots + n
theorem xback {ws : List Cond} {rm : Room} {Pc : Array Value → State → Prop} {Qc : Array Value → State → Outcome → State → Nat → Nat → Prop} {free : Addr → Prop} {bytes : ByteArray} {maxL : Nat} {ret : Option FieldType}
    (hM : xMet l y ws rm Pc Qc free) (hblind : FrameBlind Pc)
    (hframes : rm.frames + 1 ≤ R.frames) (hlocals : Wt + (maxL + 11) + rm.locals ≤ R.locals)
    (hws : ∀ w ∈ ws, ∀ a' U, s.WarmedH U.vm → w.before a' U = true) (hcode : Cond.code y bytes maxL ret ∈ ws) (hinit : ∀ a' U, s.WarmedH U.vm → (Cond.initialized y.cls).before a' U = true) :
    Back l R p e below s sargs y len Wt (PreOf R rm.cells rm.slots Pc) (xPost Qc free) := by
  refine Back.of_free (S := headSpec ws rm) (P := Pc) (K := fun _ _ _ _ _ => True) (Q := fun a st o t => ∃ (L : List Loc) (k n : Nat), FrameEnd st o t L k n ∧ (∀ q ∈ L, free q.base) ∧ Qc a st o t k n) (bytes := bytes) (maxL := maxL) (ret := ret)
    (E := fun a st o t L k n => (∀ q ∈ L, free q.base) ∧ Qc a st o t k n) hM hframes hlocals ?_ ?_ (fun _ _ _ _ _ _ _ _ _ => trivial) ?_ ?_
  · intro m meth c A a X hp
    exact ⟨atoms_intro fun w hw => hws w hw _ _ X.warmed, hws _ hcode _ _ X.warmed, hinit _ _ X.warmed, hp.1, hp.2.1⟩
  · intro m meth c A a g mk X hp
    exact hblind _ _ _ _ hp.2.2
  · intro a st o t hq
    exact hq
  · intro m meth c A a g mk v t L k n X hp hq hF hE
    exact ⟨g, mk, t, L, k, n, rfl, rfl, hE.2, rfl, hE.1, rfl, rfl⟩
def xQ (below : List Frame) (Qc : Array Value → State → Outcome → State → Nat → Nat → Prop) (a : Array Value) (s : State) (free : Addr → Prop) : State → Prop := fun t =>
  ∃ o, t.status = .running ∧ Ended t below o ∧ ∃ (L : List Loc) (k n : Nat), FrameEnd s o t L k n ∧ (∀ q ∈ L, free q.base) ∧ Qc a s o t k n
theorem xMet.ofW {ws ws' : List Cond} {rm : Room} {Pc : Array Value → State → Prop} {Qc : Array Value → State → Outcome → State → Nat → Nat → Prop} {free : Addr → Prop} {cc : ByteArray} {maxL : Nat} {ret : Option FieldType}
    (hy : plainName y.cls = true) (hw : ws = Cond.code y cc maxL ret :: ws')
    (body : ∀ p e s m args below meth c s₁, BodyLoose p l y (headSpec ws rm) cc maxL ret e s m args below meth c s₁ → c.maxLocals = maxL → Pc args s →
      W p l e rm s m args below meth c s.heap [] 0 0 (xQ below Qc args s free) (entryFrame m args maxL)) : xMet l y ws rm Pc Qc free := by
  refine MetFree.of_bodyS (code := cc) (maxLocals := maxL) (ret := ret) hy ?_ ?_
  · intro args s m h hn
    obtain ⟨meth, c, h1, h2, h3, h4, h5, h6, -, -⟩ := Cond.code_spec hn (atoms_spec (ws := ws) h _ (by rw [hw]; exact List.mem_cons_self))
    exact ⟨meth, c, h1, h2, h3, h4, h5, h6⟩
  · intro p e s m args below meth c s₁ B hml hP _
    have hh0 : s₁.heap = s.heap := by rw [B.state]; rfl
    obtain ⟨t, a1, o, b1, b2, b3⟩ := body p e s m args below meth c s₁ B hml hP s₁ hh0 (Stand.of_body B)
    exact ⟨t, o, a1, b1, b2, b3⟩
end XM
/-! ===== one list of words for every method ===== -/
abbrev wsM (y : MethodName) (b : ByteArray) (n : Nat) (ret : Option FieldType) : List Cond := .code y b n ret :: wsA
theorem wm_law {y : MethodName} {b : ByteArray} {n : Nat} {ret : Option FieldType} (h : Cond.code y b n ret ∈ wsA) : GoodIn wsA (wsM y b n ret) := fun w hw => by
  have h1 : w ∈ wsA := by
    rcases List.mem_cons.mp hw with rfl | h2
    · exact h
    · exact h2
  exact ⟨h1, good_of_word (wa_good h1)⟩
/-! ===== locals by place ===== -/
def lo (ls : Array Slot) (L : List (Option Value)) : Prop := lv_has ls L.length [] ∧ ∀ (k : Nat) (v : Value), L[k]? = some (some v) → ls[k]? = some (.val v) ∧ v.category = 1
theorem lo.at {ls : Array Slot} {L : List (Option Value)} (h : lo ls L) {k : Nat} {v : Value} (hk : L[k]? = some (some v)) : ls[k]? = some (.val v) := (h.2 k v hk).1
def lo_ps (L : List (Option Value)) : List (Nat × Value) := (List.range L.length).filterMap (fun k => match L[k]? with | some (some v) => some (k, v) | _ => none)
theorem lo_ps_in {L : List (Option Value)} {k : Nat} {v : Value} : (k, v) ∈ lo_ps L ↔ L[k]? = some (some v) := by
  unfold lo_ps
  rw [List.mem_filterMap]
  constructor
  · rintro ⟨a, -, h⟩
    split at h
    · rename_i v' hv
      simp only [Option.some.injEq, Prod.mk.injEq] at h
      obtain ⟨rfl, rfl⟩ := h
      exact hv
    · cases h
  · intro h
    refine ⟨k, List.mem_range.mpr (List.getElem?_eq_some_iff.mp h).1, ?_⟩
    simp [h]
theorem lo.ps {ls : Array Slot} {L : List (Option Value)} (h : lo ls L) : lv_has ls L.length (lo_ps L) := ⟨h.1.1, h.1.2.1, fun q hq => h.at (lo_ps_in.mp hq)⟩
theorem lo.st {ls ls' : Array Slot} {L : List (Option Value)} {i : Nat} {v : Value} (h : lo ls L) (hi : i < L.length) (hc : v.category = 1) (h' : lv_has ls' L.length ((i, v) :: (lo_ps L).filter (fun q => !(q.1 == i) && !(q.1 + 1 == i && q.2.category == 2)))) : lo ls' (L.set i (some v)) := by
  refine ⟨⟨by rw [List.length_set]; exact h'.1, h'.2.1, fun q hq => by cases hq⟩, fun k w hk => ?_⟩
  by_cases hki : k = i
  · subst hki
    rw [List.getElem?_set_self hi] at hk
    cases hk
    exact ⟨h'.2.2 (k, v) List.mem_cons_self, hc⟩
  · rw [List.getElem?_set_ne (Ne.symm hki)] at hk
    obtain ⟨-, h2⟩ := h.2 k w hk
    refine ⟨h'.2.2 (k, w) (List.mem_cons_of_mem _ (List.mem_filter.mpr ⟨lo_ps_in.mpr hk, ?_⟩)), h2⟩
    simp [hki, h2]
theorem lo_args : ∀ (vs : List Value) (i : Nat), (∀ v ∈ vs, v.category = 1) → ∀ (k : Nat) (v : Value), vs[k]? = some v → (i + k, v) ∈ lv_args i vs
  | [], _, _, k, v, h => by simp at h
  | a :: vs, i, hc, k, v, h => by
    have ha : ¬ a.category = 2 := by rw [hc a List.mem_cons_self]; decide
    unfold lv_args
    rw [if_neg ha]
    cases k with
    | zero =>
      rw [List.getElem?_cons_zero] at h
      cases h
      exact List.mem_cons_self
    | succ k =>
      rw [List.getElem?_cons_succ] at h
      have := lo_args vs (i + 1) (fun v hv => hc v (List.mem_cons_of_mem _ hv)) k v h
      rw [show i + (k + 1) = i + 1 + k by omega]
      exact List.mem_cons_of_mem _ this
theorem lo_entry (vs : List Value) {n : Nat} (hc : ∀ v ∈ vs, v.category = 1) (h : vs.length ≤ n) : lo ((lg_sl vs ++ List.replicate (n - (lg_sl vs).length) Slot.unset).toArray) (vs.map some ++ List.replicate (n - vs.length) none) := by
  have hl : (lg_sl vs).length = vs.length := by
    clear h
    unfold lg_sl
    induction vs with
    | nil => rfl
    | cons a vs ih =>
      have ha : ¬ a.category = 2 := by rw [hc a List.mem_cons_self]; decide
      rw [List.flatMap_cons, if_neg ha, List.length_append, ih (fun v hv => hc v (List.mem_cons_of_mem _ hv))]
      simp
      omega
  have hE := lv_entry vs (n := n) (by rw [hl]; exact h)
  refine ⟨⟨?_, hE.2.1, fun q hq => by cases hq⟩, fun k v hk => ?_⟩
  · rw [hE.1]
    simp
    omega
  · have hk2 : vs[k]? = some v := by
      by_cases hkl : k < vs.length
      · rw [List.getElem?_append_left (by simpa using hkl), List.getElem?_map] at hk
        cases hv : vs[k]? with
        | none => rw [hv] at hk; cases hk
        | some w => rw [hv] at hk; simp at hk; rw [hk]
      · rw [List.getElem?_append_right (by simpa using Nat.le_of_not_lt hkl), List.getElem?_replicate] at hk
        split at hk <;> cases hk
    have := lo_args vs 0 hc k v hk2
    rw [Nat.zero_add] at this
    exact ⟨hE.2.2 (k, v) this, hc v (List.mem_of_getElem? hk2)⟩
section LO
variable {p : Program} {l : Launch} {e : Env} {R : Room} {s : State} {m : MethodId} {args : Array Value} {below : List Frame} {meth : Method} {c : Code} {H : Heap} {locs : List Loc} {cells slots : Nat} {Q : State → Prop}
variable {cc : ByteArray} {pc : Nat} {ls : Array Slot} {rest : List Value} {L : List (Option Value)}
theorem w_istore_n (hx : p.tables.exec = Jvm.exec) (hb : c.code = cc) {k : Fin 4} {i : Nat} {x : Int32} (hdg : decode cc pc = .ok (.istore_n k, 1)) (hi : (k : Nat) = i) (h : lo ls L) (hn : i < L.length)
    (kk : ∀ ls' : Array Slot, lo ls' (L.set i (some (.int x))) → W p l e R s m args below meth c H locs cells slots Q (F0 m (pc + 1) ls' rest)) : W p l e R s m args below meth c H locs cells slots Q (F0 m pc ls (.int x :: rest)) :=
  lv_istore_n hx hb hdg hi h.ps hn rfl (fun ls' h' => kk ls' (h.st hn rfl h'))
theorem w_istore (hx : p.tables.exec = Jvm.exec) (hb : c.code = cc) {i : Nat} {x : Int32} (hdg : decode cc pc = .ok (.istore i, 2)) (h : lo ls L) (hn : i < L.length)
    (kk : ∀ ls' : Array Slot, lo ls' (L.set i (some (.int x))) → W p l e R s m args below meth c H locs cells slots Q (F0 m (pc + 2) ls' rest)) : W p l e R s m args below meth c H locs cells slots Q (F0 m pc ls (.int x :: rest)) :=
  lv_istore hx hb hdg h.ps hn rfl (fun ls' h' => kk ls' (h.st hn rfl h'))
theorem w_astore_n (hx : p.tables.exec = Jvm.exec) (hb : c.code = cc) {k : Fin 4} {i : Nat} {x : Nat} (hdg : decode cc pc = .ok (.astore_n k, 1)) (hi : (k : Nat) = i) (h : lo ls L) (hn : i < L.length)
    (kk : ∀ ls' : Array Slot, lo ls' (L.set i (some (.ref x))) → W p l e R s m args below meth c H locs cells slots Q (F0 m (pc + 1) ls' rest)) : W p l e R s m args below meth c H locs cells slots Q (F0 m pc ls (.ref x :: rest)) :=
  lv_astore_n hx hb hdg hi h.ps hn rfl (fun ls' h' => kk ls' (h.st hn rfl h'))
theorem w_astore (hx : p.tables.exec = Jvm.exec) (hb : c.code = cc) {i : Nat} {x : Nat} (hdg : decode cc pc = .ok (.astore i, 2)) (h : lo ls L) (hn : i < L.length)
    (kk : ∀ ls' : Array Slot, lo ls' (L.set i (some (.ref x))) → W p l e R s m args below meth c H locs cells slots Q (F0 m (pc + 2) ls' rest)) : W p l e R s m args below meth c H locs cells slots Q (F0 m pc ls (.ref x :: rest)) :=
  lv_astore hx hb hdg h.ps hn rfl (fun ls' h' => kk ls' (h.st hn rfl h'))
theorem w_astore_nN (hx : p.tables.exec = Jvm.exec) (hb : c.code = cc) {k : Fin 4} {i : Nat} (hdg : decode cc pc = .ok (.astore_n k, 1)) (hi : (k : Nat) = i) (h : lo ls L) (hn : i < L.length)
    (kk : ∀ ls' : Array Slot, lo ls' (L.set i (some .null)) → W p l e R s m args below meth c H locs cells slots Q (F0 m (pc + 1) ls' rest)) : W p l e R s m args below meth c H locs cells slots Q (F0 m pc ls (.null :: rest)) :=
  lv_astore_nN hx hb hdg hi h.ps hn rfl (fun ls' h' => kk ls' (h.st hn rfl h'))
theorem w_astoreN (hx : p.tables.exec = Jvm.exec) (hb : c.code = cc) {i : Nat} (hdg : decode cc pc = .ok (.astore i, 2)) (h : lo ls L) (hn : i < L.length)
    (kk : ∀ ls' : Array Slot, lo ls' (L.set i (some .null)) → W p l e R s m args below meth c H locs cells slots Q (F0 m (pc + 2) ls' rest)) : W p l e R s m args below meth c H locs cells slots Q (F0 m pc ls (.null :: rest)) :=
  lv_astoreN hx hb hdg h.ps hn rfl (fun ls' h' => kk ls' (h.st hn rfl h'))
theorem w_iinc (hx : p.tables.exec = Jvm.exec) (hb : c.code = cc) {i : Nat} {n : Int} {x v : Int32} (hdg : decode cc pc = .ok (.iinc i n, 3)) (h : lo ls L) (hk : L[i]? = some (some (.int x))) (hv : x + Int32.ofInt n = v)
    (kk : ∀ ls' : Array Slot, lo ls' (L.set i (some (.int v))) → W p l e R s m args below meth c H locs cells slots Q (F0 m (pc + 3) ls' rest)) : W p l e R s m args below meth c H locs cells slots Q (F0 m pc ls rest) := by
  have hn : i < L.length := (List.getElem?_eq_some_iff.mp hk).1
  obtain ⟨k, hk2⟩ := List.getElem?_of_mem (lo_ps_in.mpr hk)
  exact lv_iinc hx hb hdg h.ps hk2 hv hn rfl (fun ls' h' => kk ls' (h.st hn rfl h'))
end LO
theorem W.monoQ {p : Program} {l : Launch} {e : Env} {R : Room} {s : State} {m : MethodId} {args : Array Value} {below : List Frame} {meth : Method} {c : Code} {H : Heap} {locs : List Loc} {cells slots : Nat} {Q Q' : State → Prop} {g : JFrame} (h : ∀ t, Q t → Q' t) (k : W p l e R s m args below meth c H locs cells slots Q g) : W p l e R s m args below meth c H locs cells slots Q' g := fun T hT X => by
  obtain ⟨t, a, b⟩ := k T hT X
  exact ⟨t, a, h t b⟩
end
section
/-! ===== the heap by roles: kind, instance, slot ===== -/
abbrev ZT : Type := Nat → Nat → Nat → Int32
def upr (Z : ZT) (c i : Nat) (f : Nat → Int32) : ZT := fun c' i' => if c' = c ∧ i' = i then f else Z c' i'
theorem upr_s {Z : ZT} {c i : Nat} {f : Nat → Int32} : upr Z c i f c i = f := by simp [upr]
theorem upr_n {Z : ZT} {c i c' i' : Nat} {f : Nat → Int32} (h : ¬ (c' = c ∧ i' = i)) : upr Z c i f c' i' = Z c' i' := by simp [upr, h]
theorem upr_k {Z : ZT} {c i c' i' : Nat} {f : Nat → Int32} (h : c' ≠ c) : upr Z c i f c' i' = Z c' i' := upr_n (fun q => h q.1)
theorem upr_i {Z : ZT} {c i c' i' : Nat} {f : Nat → Int32} (h : i' ≠ i) : upr Z c i f c' i' = Z c' i' := upr_n (fun q => h q.2)
/-- addresses by role; the lengths of the two rows that grow; which guests are made; the roles that are there -/
abbrev Sh : Type := (Nat → Nat → Nat) × (Nat → Nat) × (Nat → Bool) × List (Nat × Nat)
def Ec (cs : Nat → ClassId) (X : Sh) (c i : Nat) (z : Nat → Int32) : va_E :=
  match c with
  | 0 => .inr (3, [.ref (X.1 2 0), .ref (X.1 12 0), .ref (X.1 1 0), .int (z 3), .int (z 4), .int (z 5), .int (z 6)])
  | 1 => .inl (cs 2, 8, .inr (.inr (.inr (.inr (fun j => if X.2.2.1 j then some (X.1 20 j) else none)))))
  | 2 => .inr (1, [.int (z 0), .int (z 1), .int (z 2), .int (z 3), .ref (X.2.1 13), .ref (X.2.1 14), .ref (X.1 5 0), .ref (X.1 6 0), .ref (X.1 7 0), .ref (X.1 8 0), .ref (X.1 9 0), .ref (X.1 10 0), .ref (X.1 11 0)])
  | 3 => .inl (cs 0, X.2.1 3, .inl z)
  | 4 => .inl (cs 0, X.2.1 4, .inl z)
  | 5 => .inl (cs 0, 256, .inl z)
  | 6 => .inl (cs 1, 256, .inl z)
  | 7 => .inl (cs 0, 513, .inl z)
  | 8 => .inl (cs 0, 513, .inl z)
  | 9 => .inl (cs 1, 513, .inl z)
  | 10 => .inl (cs 0, 513, .inl z)
  | 11 => .inl (cs 0, 513, .inl z)
  | 12 => .inr (2, [.ref (X.1 2 0), .int (z 1), .int (z 2), .int (z 3), .int (z 4)])
  | 20 => .inr (0, [.int (z 0), .int (z 1), .int (z 2), .int (z 3), .int (z 4), .int (z 5), .int (z 6), .ref (X.1 21 i), .ref (X.1 22 i), .ref (X.1 23 i), .ref (X.1 24 i), .ref (X.1 25 i), .ref (X.1 26 i), .int (z 13), .int (z 14), .ref (X.1 27 i), .int (z 16)])
  | 21 => .inl (cs 0, 64, .inl z)
  | 22 => .inl (cs 0, 1024, .inl z)
  | 23 => .inl (cs 0, 8, .inl z)
  | 24 => .inl (cs 0, 10, .inl z)
  | 25 => .inl (cs 0, 256, .inl z)
  | 26 => .inl (cs 0, 64, .inl z)
  | 27 => .inl (cs 0, 1000, .inl z)
  | 30 => .inr (5, [.ref (X.1 31 0), .int (z 1), .int (z 2), .int (z 3), .int (z 4)])
  | 31 => .inl (cs 3, 8, .inr (.inr (.inr (.inr (fun j => if X.2.2.1 (100 + j) then some (X.1 40 j) else none)))))
  | 40 => .inr (4, [.int (z 0), .int (z 1), .ref (X.1 41 i), .ref (X.1 42 i), .ref (X.1 43 i), .ref (X.1 44 i), .ref (X.1 45 i), .ref (X.1 46 i), .ref (X.1 47 i), .ref (X.1 48 i), .int (z 10), .int (z 11), .int (z 12), .int (z 13), .int (z 14), .int (z 15), .int (z 16), .int (z 17), .int (z 18)])
  | 41 => .inl (cs 0, 4096, .inl z)
  | 42 => .inl (cs 0, 1024, .inl z)
  | 43 => .inl (cs 0, 8, .inl z)
  | 44 => .inl (cs 0, 9, .inl z)
  | 45 => .inl (cs 0, 256, .inl z)
  | 46 => .inl (cs 0, 256, .inl z)
  | 47 => .inl (cs 0, 64, .inl z)
  | 48 => .inl (cs 0, 1000, .inl z)
  | _ => .inl (cs 0, 0, .inl z)
def adr (X : Sh) (c i : Nat) : Nat := match c with
  | 3 => X.2.1 13
  | 4 => X.2.1 14
  | _ => X.1 c i
def Wl (cs : Nat → ClassId) (X : Sh) (Z : ZT) : va_W := X.2.2.2.map (fun r => (adr X r.1 r.2, Ec cs X r.1 r.2 (Z r.1 r.2)))
theorem wl_len {cs : Nat → ClassId} {X : Sh} {Z : ZT} : (Wl cs X Z).length = X.2.2.2.length := by simp [Wl]
theorem wl_at {cs : Nat → ClassId} {X : Sh} {Z : ZT} {Y : va_W} {k c i : Nat} (h : X.2.2.2[k]? = some (c, i)) : (Wl cs X Z ++ Y)[k]? = some (adr X c i, Ec cs X c i (Z c i)) := by
  have hl := (List.getElem?_eq_some_iff.mp h).1
  rw [List.getElem?_append_left (by rw [wl_len]; exact hl)]
  simp [Wl, h]
theorem wl_pos {cs : Nat → ClassId} {X : Sh} {Z : ZT} {Y : va_W} {c i : Nat} (h : (c, i) ∈ X.2.2.2) : ∃ k : Nat, (Wl cs X Z ++ Y)[k]? = some (adr X c i, Ec cs X c i (Z c i)) := by
  obtain ⟨k, hk⟩ := List.getElem?_of_mem h
  exact ⟨k, wl_at hk⟩
theorem wl_set {cs : Nat → ClassId} {X : Sh} {Z : ZT} {Y : va_W} {A : Nat → Prop} (hD : va_D A (Wl cs X Z ++ Y)) {k c i : Nat} {e0 : va_E} (hk : (Wl cs X Z ++ Y)[k]? = some (adr X c i, e0)) (hm : (c, i) ∈ X.2.2.2) (f : Nat → Int32) :
    (Wl cs X Z ++ Y).set k (adr X c i, Ec cs X c i f) = Wl cs X (upr Z c i f) ++ Y := by
  obtain ⟨k', hk'⟩ := List.getElem?_of_mem hm
  have hp := wl_at (cs := cs) (Z := Z) (Y := Y) hk'
  have hkk : k = k' := hD.1 k k' _ _ hk hp rfl
  subst hkk
  have hl := (List.getElem?_eq_some_iff.mp hk).1
  apply List.ext_getElem?
  intro j
  by_cases hj : j = k
  · subst hj
    rw [List.getElem?_set_self hl, wl_at (Z := upr Z c i f) hk', upr_s]
  · rw [List.getElem?_set_ne (Ne.symm hj)]
    by_cases hjl : j < X.2.2.2.length
    · obtain ⟨r, hr⟩ : ∃ r, X.2.2.2[j]? = some r := ⟨_, List.getElem?_eq_getElem hjl⟩
      obtain ⟨c', i'⟩ := r
      rw [wl_at hr, wl_at hr, upr_n]
      rintro ⟨rfl, rfl⟩
      exact hj (hD.1 j k _ _ (wl_at hr) hk rfl)
    · rw [List.getElem?_append_right (by rw [wl_len]; omega), List.getElem?_append_right (by rw [wl_len]; omega), wl_len, wl_len]
/-- links between nest mates: they hold of the state itself -/
def isNest : Cond → Bool
  | .fieldLinkNest _ _ _ _ _ _ => true
  | .methodLinkNest _ _ _ _ => true
  | _ => false
def NW (U : State) : Prop := ∀ w ∈ lw_tbl, isNest w = true → va_Nw w U
theorem NW.warm {s U : State} (hW : s.WarmedH U.vm) (h : NW s) : NW U := fun w hw hn => by
  have h1 := h w hw hn
  cases w <;> first | (cases hn; done) | exact va_Nw.warmF hW h1 | exact va_Nw.warmM hW h1
theorem NW.same {s U : State} (hv : s.vm = U.vm) (h : NW s) : NW U := fun w hw hn => by
  have h1 := h w hw hn
  cases w <;> first | (cases hn; done) | exact va_Nw.same rfl hv h1
def Asz (sz0 : Nat) : Nat → Prop := fun q => sz0 ≤ q
abbrev tysA (cs : Nat → ClassId) : List (ClassId × FieldType) := [(cs 0, .int), (cs 1, .boolean), (cs 2, .object RX0), (cs 3, .object RX4)]
def Wd0 (sz0 : Nat) (D : va_G) (cs : Nat → ClassId) (X : Sh) (Z : ZT) (Y : va_W) (U : State) : Prop := va_K D vwCl (tysA cs) U ∧ va_P D vwCl (Wl cs X Z ++ Y) U.heap ∧ va_D (Asz sz0) (Wl cs X Z ++ Y) ∧ sz0 ≤ U.heap.size
def Wd (sz0 : Nat) (D : va_G) (cs : Nat → ClassId) (s : State) (X : Sh) (Z : ZT) (Y : va_W) (H : Heap) (locs : List Loc) : Prop :=
  va_K D vwCl (tysA cs) s ∧ va_P D vwCl (Wl cs X Z ++ Y) H ∧ va_D (Asz sz0) (Wl cs X Z ++ Y) ∧ va_S (Asz sz0) s.heap H locs ∧ sz0 ≤ s.heap.size
def CQ (sz0 : Nat) (D : va_G) (cs : Nat → ClassId) (Post : Sh → ZT → va_W → Option Value → Nat → Nat → Prop) : Array Value → State → Outcome → State → Nat → Nat → Prop := fun _ st oc t k n => (∃ (X' : Sh) (Z' : ZT) (Y' : va_W) (v : Option Value), oc = .returned v ∧ Wd0 sz0 D cs X' Z' Y' t ∧ Post X' Z' Y' v k n) ∧ va_F (Asz sz0) st t
def CP (sz0 : Nat) (D : va_G) (cs : Nat → ClassId) (av : List Value) (X : Sh) (Z : ZT) (Y : va_W) : Array Value → State → Prop := fun a U => a = av.toArray ∧ NW U ∧ Wd0 sz0 D cs X Z Y U
/-- a contract: from a world, to a world -/
def Ctr (l : Launch) (y : MethodName) (ws : List Cond) (rm : Room) (sz0 : Nat) (D : va_G) (cs : Nat → ClassId) (av : List Value) (X : Sh) (Z : ZT) (Y : va_W) (Post : Sh → ZT → va_W → Option Value → Nat → Nat → Prop) : Prop :=
  xMet l y ws rm (CP sz0 D cs av X Z Y) (CQ sz0 D cs Post) (Asz sz0)
/-- the post of a method that makes nothing -/
def Pz (X : Sh) (Y : va_W) (P : ZT → Option Value → Prop) : Sh → ZT → va_W → Option Value → Nat → Nat → Prop := fun X' Z' Y' v k n => X = X' ∧ Y = Y' ∧ k = 0 ∧ n = 0 ∧ P Z' v
theorem CP.blind {sz0 : Nat} {D : va_G} {cs : Nat → ClassId} {av : List Value} {X : Sh} {Z : ZT} {Y : va_W} : FrameBlind (CP sz0 D cs av X Z Y) := fun a U g mk q => by
  obtain ⟨q0, qn, q1, q2, q3, q4⟩ := q
  exact ⟨q0, NW.same (s := U) (U := U.calling g mk a) rfl qn, va_K.moved (u := U) (U := U.calling g mk a) (Vm.Alike.refl U.vm) q1, q2, q3, q4⟩
theorem Ctr.ofW {l : Launch} {y : MethodName} {cc : ByteArray} {maxL : Nat} {ret : Option FieldType} {rm : Room} {sz0 : Nat} {D : va_G} {cs : Nat → ClassId} {av : List Value} {X : Sh} {Z : ZT} {Y : va_W} {Post : Sh → ZT → va_W → Option Value → Nat → Nat → Prop}
    (hy : plainName y.cls = true) (hc : ∀ v ∈ av, v.category = 1) (hn : av.length ≤ maxL)
    (body : ∀ (p : Program) (e : Env) (s : State) (m : MethodId) (below : List Frame) (meth : Method) (c : Code) (ls : Array Slot), CallFix p m c cc maxL s av.toArray wsA y.cls → meth.sig.returnType = ret → meth.locks = false → meth.name = y.name →
      lo ls (av.map some ++ List.replicate (maxL - av.length) none) → NW s → Wd sz0 D cs s X Z Y s.heap [] →
      W p l e rm s m av.toArray below meth c s.heap [] 0 0 (xQ below (CQ sz0 D cs Post) av.toArray s (Asz sz0)) (F0 m 0 ls [])) :
    Ctr l y (wsM y cc maxL ret) rm sz0 D cs av X Z Y Post := by
  refine xMet.ofW (cc := cc) (maxL := maxL) (ret := ret) hy rfl ?_
  intro p e s m args below meth c s₁ B hml hv
  obtain ⟨rfl, hN, hK, hP, hD, hsz⟩ := hv
  have hts := atoms_spec (ws := wsM y cc maxL ret) B.pre
  have hown : s.vm.findClass y.cls = some m.cls := findClass_of_methodNamed B.named
  rw [lg_entry_eq]
  exact body p e s m below meth c _ ⟨B.exec, B.bytes, hml, hown, fun w hw => hts w (List.mem_cons_of_mem _ hw)⟩ B.returns B.notSynchronized (name_of_methodNamed B.named B.method).1 (lo_entry av hc hn) hN ⟨hK, hP, hD, va_S.rf, hsz⟩
section WR
variable {p : Program} {l : Launch} {e : Env} {R : Room} {s : State} {m : MethodId} {args : Array Value} {below : List Frame} {meth : Method} {c : Code} {H : Heap} {locs : List Loc} {cells slots : Nat} {Q : State → Prop}
variable {cc : ByteArray} {pc nL : Nat} {ls : Array Slot} {rest : List Value} {own : String}
variable {sz0 : Nat} {D : va_G} {cs : Nat → ClassId} {X : Sh} {Z : ZT} {Y : va_W}
theorem vpk {i : Int32} {n : Nat} (h : (decide (0 ≤ i.toInt) && decide (i.toInt < n)) = true) : vp_in i n := by
  simp only [Bool.and_eq_true, decide_eq_true_eq] at h
  exact vp_in_iff.mpr h
theorem w_get (C : CallFix p m c cc nL s args wsA own) (hw : Wd sz0 D cs s X Z Y H locs) {ref Cn : String} {T : u_T} {N ci index c0 i0 : Nat} {fs : List Value} {v : Value} (hcl : vwCl[ci]? = some (Cn, T, N)) (hin : ∀ w ∈ u_ws Cn T N, w ∈ wsA) (k : Nat) (hk : k < N) (hlk : Cond.fieldLink own index ref (T k).2.1 (T k).2.2.1 ∈ wsA) (href : (T k).1 = ref) (hdg : decode cc pc = .ok (.getfield index, 3))
    (hm : (c0, i0) ∈ X.2.2.2) {a : Nat} (ha : adr X c0 i0 = a) (he : Ec cs X c0 i0 (Z c0 i0) = .inr (ci, fs)) (hv : fs[k]? = some v)
    (kk : W p l e R s m args below meth c H locs cells slots Q (F0 m (pc + 3) ls (v :: rest))) : W p l e R s m args below meth c H locs cells slots Q (F0 m pc ls (.ref a :: rest)) := by
  subst ha
  obtain ⟨hx, hb, -, hown, hts⟩ := C
  obtain ⟨q0, hq⟩ := wl_pos (cs := cs) (Z := Z) (Y := Y) hm
  rw [he] at hq
  exact va_get hx hb hts hin hown hw.1 hw.2.1 q0 hq hcl k hk (hts _ hlk) (fun _ h9 => href ▸ h9) hv hdg kk
theorem w_put (C : CallFix p m c cc nL s args wsA own) (hw : Wd sz0 D cs s X Z Y H locs) {ref Cn : String} {T : u_T} {ty0 : Nat → FieldType} {ty : FieldType} {N ci index c0 i0 : Nat} {fs : List Value} {v : Int32} (hcl : vwCl[ci]? = some (Cn, T, N)) (hin : ∀ w ∈ u_ws Cn T N, w ∈ wsA) (hty : ∀ k, k < N → parseFieldDescriptor (T k).2.2.1 = some (ty0 k)) (hnm : ∀ a, a < N → ∀ b, b < N → a ≠ b → (T a).2.1 ≠ (T b).2.1) (k : Nat) (hk : k < N) (hlk : Cond.fieldLink own index ref (T k).2.1 (T k).2.2.1 ∈ wsA) (href : (T k).1 = ref) (hfin : (T k).2.2.2 = false) (htk : ty0 k = ty) (hdg : decode cc pc = .ok (.putfield index, 3))
    (hm : (c0, i0) ∈ X.2.2.2) {a : Nat} (ha : adr X c0 i0 = a) (hn : narrow ty (.int v) = .int v) (hfit : fits ty (.int v) = true) (he : Ec cs X c0 i0 (Z c0 i0) = .inr (ci, fs)) (hl : k < fs.length) (he' : Ec cs X c0 i0 (upd (Z c0 i0) k v) = .inr (ci, fs.set k (.int v)))
    (kk : ∀ (H1 : Heap) (locs1 : List Loc), Wd sz0 D cs s X (upr Z c0 i0 (upd (Z c0 i0) k v)) Y H1 locs1 → W p l e R s m args below meth c H1 locs1 cells slots Q (F0 m (pc + 3) ls rest)) : W p l e R s m args below meth c H locs cells slots Q (F0 m pc ls (.int v :: .ref a :: rest)) := by
  subst ha
  obtain ⟨hx, hb, -, hown, hts⟩ := C
  obtain ⟨hK, hP, hD, hS, hsz⟩ := hw
  obtain ⟨q0, hq⟩ := wl_pos (cs := cs) (Z := Z) (Y := Y) hm
  have hq2 := hq
  rw [he] at hq2
  refine va_put hx hb hts hin ty0 hty hnm hown hK hP hD hS q0 hq2 hcl k hk (hts _ hlk) (fun _ h9 => href ▸ h9) hfin (ty := ty) (by rw [← htk]; exact hty k hk) hn hfit hl hdg (fun H1 locs1 h1 h2 h3 => ?_)
  rw [← he', wl_set hD hq hm] at h1 h2
  exact kk H1 locs1 ⟨hK, h1, h2, h3, hsz⟩
theorem w_getN (C : CallFix p m c cc nL s args wsA own) (hN : NW s) (hw : Wd sz0 D cs s X Z Y H locs) {ref Cn host : String} {T : u_T} {N ci index c0 i0 : Nat} {fs : List Value} {v : Value} (hcl : vwCl[ci]? = some (Cn, T, N)) (hin : ∀ w ∈ u_ws Cn T N, w ∈ wsA) (k : Nat) (hk : k < N) (hlk : Cond.fieldLinkNest own index ref (T k).2.1 (T k).2.2.1 host ∈ lw_tbl) (href : (T k).1 = ref) (hdg : decode cc pc = .ok (.getfield index, 3))
    (hm : (c0, i0) ∈ X.2.2.2) {a : Nat} (ha : adr X c0 i0 = a) (he : Ec cs X c0 i0 (Z c0 i0) = .inr (ci, fs)) (hv : fs[k]? = some v)
    (kk : W p l e R s m args below meth c H locs cells slots Q (F0 m (pc + 3) ls (v :: rest))) : W p l e R s m args below meth c H locs cells slots Q (F0 m pc ls (.ref a :: rest)) := by
  subst ha
  obtain ⟨hx, hb, -, hown, hts⟩ := C
  obtain ⟨q0, hq⟩ := wl_pos (cs := cs) (Z := Z) (Y := Y) hm
  rw [he] at hq
  exact va_getN hx hb hts hin hown hw.1 hw.2.1 q0 hq hcl k hk (va_Nw.use rfl (hN _ hlk rfl)) (fun _ h9 => href ▸ h9) hv hdg kk
theorem w_putN (C : CallFix p m c cc nL s args wsA own) (hN : NW s) (hw : Wd sz0 D cs s X Z Y H locs) {ref Cn host : String} {T : u_T} {ty0 : Nat → FieldType} {ty : FieldType} {N ci index c0 i0 : Nat} {fs : List Value} {v : Int32} (hcl : vwCl[ci]? = some (Cn, T, N)) (hin : ∀ w ∈ u_ws Cn T N, w ∈ wsA) (hty : ∀ k, k < N → parseFieldDescriptor (T k).2.2.1 = some (ty0 k)) (hnm : ∀ a, a < N → ∀ b, b < N → a ≠ b → (T a).2.1 ≠ (T b).2.1) (k : Nat) (hk : k < N) (hlk : Cond.fieldLinkNest own index ref (T k).2.1 (T k).2.2.1 host ∈ lw_tbl) (href : (T k).1 = ref) (hfin : (T k).2.2.2 = false) (htk : ty0 k = ty) (hdg : decode cc pc = .ok (.putfield index, 3))
    (hm : (c0, i0) ∈ X.2.2.2) {a : Nat} (ha : adr X c0 i0 = a) (hn : narrow ty (.int v) = .int v) (hfit : fits ty (.int v) = true) (he : Ec cs X c0 i0 (Z c0 i0) = .inr (ci, fs)) (hl : k < fs.length) (he' : Ec cs X c0 i0 (upd (Z c0 i0) k v) = .inr (ci, fs.set k (.int v)))
    (kk : ∀ (H1 : Heap) (locs1 : List Loc), Wd sz0 D cs s X (upr Z c0 i0 (upd (Z c0 i0) k v)) Y H1 locs1 → W p l e R s m args below meth c H1 locs1 cells slots Q (F0 m (pc + 3) ls rest)) : W p l e R s m args below meth c H locs cells slots Q (F0 m pc ls (.int v :: .ref a :: rest)) := by
  subst ha
  obtain ⟨hx, hb, -, hown, hts⟩ := C
  obtain ⟨hK, hP, hD, hS, hsz⟩ := hw
  obtain ⟨q0, hq⟩ := wl_pos (cs := cs) (Z := Z) (Y := Y) hm
  have hq2 := hq
  rw [he] at hq2
  refine va_putN hx hb hts hin ty0 hty hnm hown hK hP hD hS q0 hq2 hcl k hk (va_Nw.use rfl (hN _ hlk rfl)) (fun _ h9 => href ▸ h9) hfin (ty := ty) (by rw [← htk]; exact hty k hk) hn hfit hl hdg (fun H1 locs1 h1 h2 h3 => ?_)
  rw [← he', wl_set hD hq hm] at h1 h2
  exact kk H1 locs1 ⟨hK, h1, h2, h3, hsz⟩
theorem w_ild (C : CallFix p m c cc nL s args wsA own) (hw : Wd sz0 D cs s X Z Y H locs) {c0 i0 n : Nat} {i : Int32} (hdg : decode cc pc = .ok (.iaload, 1)) (hm : (c0, i0) ∈ X.2.2.2) {a : Nat} (ha : adr X c0 i0 = a) (he : Ec cs X c0 i0 (Z c0 i0) = .inl (cs 0, n, .inl (Z c0 i0))) (hi : vp_in i n) {j : Nat} (hj : i.toNatClampNeg = j)
    (kk : W p l e R s m args below meth c H locs cells slots Q (F0 m (pc + 1) ls (.int (Z c0 i0 j) :: rest))) : W p l e R s m args below meth c H locs cells slots Q (F0 m pc ls (.int i :: .ref a :: rest)) := by
  subst ha; subst hj
  obtain ⟨q0, hq⟩ := wl_pos (cs := cs) (Z := Z) (Y := Y) hm
  rw [he] at hq
  exact va_iald C.1 C.2.1 hw.1 hw.2.1 q0 0 hq rfl hi hdg kk
theorem w_zld (C : CallFix p m c cc nL s args wsA own) (hw : Wd sz0 D cs s X Z Y H locs) {c0 i0 n : Nat} {i : Int32} (hdg : decode cc pc = .ok (.baload, 1)) (hm : (c0, i0) ∈ X.2.2.2) {a : Nat} (ha : adr X c0 i0 = a) (he : Ec cs X c0 i0 (Z c0 i0) = .inl (cs 1, n, .inl (Z c0 i0))) (hi : vp_in i n) {j : Nat} (hj : i.toNatClampNeg = j)
    (kk : W p l e R s m args below meth c H locs cells slots Q (F0 m (pc + 1) ls (.int (Z c0 i0 j) :: rest))) : W p l e R s m args below meth c H locs cells slots Q (F0 m pc ls (.int i :: .ref a :: rest)) := by
  subst ha; subst hj
  obtain ⟨q0, hq⟩ := wl_pos (cs := cs) (Z := Z) (Y := Y) hm
  rw [he] at hq
  exact va_zald C.1 C.2.1 hw.1 hw.2.1 q0 1 hq rfl hi hdg kk
theorem w_ist (C : CallFix p m c cc nL s args wsA own) (hw : Wd sz0 D cs s X Z Y H locs) {c0 i0 n : Nat} {i x : Int32} (hdg : decode cc pc = .ok (.iastore, 1)) (hm : (c0, i0) ∈ X.2.2.2) {a : Nat} (ha : adr X c0 i0 = a) (he : ∀ f, Ec cs X c0 i0 f = .inl (cs 0, n, .inl f)) (hi : vp_in i n) {j : Nat} (hj : i.toNatClampNeg = j)
    (kk : ∀ (H1 : Heap) (locs1 : List Loc), Wd sz0 D cs s X (upr Z c0 i0 (upd (Z c0 i0) j x)) Y H1 locs1 → W p l e R s m args below meth c H1 locs1 cells slots Q (F0 m (pc + 1) ls rest)) : W p l e R s m args below meth c H locs cells slots Q (F0 m pc ls (.int x :: .int i :: .ref a :: rest)) := by
  subst ha; subst hj
  obtain ⟨hK, hP, hD, hS, hsz⟩ := hw
  obtain ⟨q0, hq⟩ := wl_pos (cs := cs) (Z := Z) (Y := Y) hm
  have hq2 := hq
  rw [he] at hq2
  refine va_iast C.1 C.2.1 hK hP hD hS q0 0 hq2 rfl hi hdg (fun H1 locs1 h1 h2 h3 => ?_)
  rw [← he, wl_set hD hq hm] at h1 h2
  exact kk H1 locs1 ⟨hK, h1, h2, h3, hsz⟩
theorem w_zst (C : CallFix p m c cc nL s args wsA own) (hw : Wd sz0 D cs s X Z Y H locs) {c0 i0 n : Nat} {i x : Int32} (hdg : decode cc pc = .ok (.bastore, 1)) (hm : (c0, i0) ∈ X.2.2.2) {a : Nat} (ha : adr X c0 i0 = a) (he : ∀ f, Ec cs X c0 i0 f = .inl (cs 1, n, .inl f)) (hi : vp_in i n) {j : Nat} (hj : i.toNatClampNeg = j) (hz : vp_nar .boolean x = x)
    (kk : ∀ (H1 : Heap) (locs1 : List Loc), Wd sz0 D cs s X (upr Z c0 i0 (upd (Z c0 i0) j x)) Y H1 locs1 → W p l e R s m args below meth c H1 locs1 cells slots Q (F0 m (pc + 1) ls rest)) : W p l e R s m args below meth c H locs cells slots Q (F0 m pc ls (.int x :: .int i :: .ref a :: rest)) := by
  subst ha; subst hj
  obtain ⟨hK, hP, hD, hS, hsz⟩ := hw
  obtain ⟨q0, hq⟩ := wl_pos (cs := cs) (Z := Z) (Y := Y) hm
  have hq2 := hq
  rw [he] at hq2
  refine va_zast C.1 C.2.1 hK hP hD hS q0 1 hq2 rfl hi hdg (fun H1 locs1 h1 h2 h3 => ?_)
  rw [hz, ← he, wl_set hD hq hm] at h1 h2
  exact kk H1 locs1 ⟨hK, h1, h2, h3, hsz⟩
theorem w_len (C : CallFix p m c cc nL s args wsA own) (hw : Wd sz0 D cs s X Z Y H locs) {c0 i0 n : Nat} {ty : Nat} (hdg : decode cc pc = .ok (.arraylength, 1)) (hm : (c0, i0) ∈ X.2.2.2) {a : Nat} (ha : adr X c0 i0 = a) {v : Int32} {x : vp_A} {t : FieldType} (he : Ec cs X c0 i0 (Z c0 i0) = .inl (cs ty, x)) (ht : (tysA cs)[ty]? = some (cs ty, t)) (hn : x.1 = n) (hv : Int32.ofNat n = v)
    (kk : W p l e R s m args below meth c H locs cells slots Q (F0 m (pc + 1) ls (.int v :: rest))) : W p l e R s m args below meth c H locs cells slots Q (F0 m pc ls (.ref a :: rest)) := by
  subst ha
  obtain ⟨q0, hq⟩ := wl_pos (cs := cs) (Z := Z) (Y := Y) hm
  rw [he] at hq
  exact va_alen C.1 C.2.1 hw.1 hw.2.1 q0 ty hq ht (by rw [hn]; exact hv) hdg kk
theorem w_ald (C : CallFix p m c cc nL s args wsA own) (hw : Wd sz0 D cs s X Z Y H locs) {c0 i0 n t : Nat} {i : Int32} {Cn : String} {f : Nat → Option Nat} (hdg : decode cc pc = .ok (.aaload, 1)) (hm : (c0, i0) ∈ X.2.2.2) {a : Nat} (ha : adr X c0 i0 = a) (he : Ec cs X c0 i0 (Z c0 i0) = .inl (cs t, n, .inr (.inr (.inr (.inr f))))) (ht : (tysA cs)[t]? = some (cs t, .object Cn)) (hi : vp_in i n) {j : Nat} (hj : i.toNatClampNeg = j)
    (kk : W p l e R s m args below meth c H locs cells slots Q (F0 m (pc + 1) ls (va_rf (f j) :: rest))) : W p l e R s m args below meth c H locs cells slots Q (F0 m pc ls (.int i :: .ref a :: rest)) := by
  subst ha; subst hj
  obtain ⟨q0, hq⟩ := wl_pos (cs := cs) (Z := Z) (Y := Y) hm
  rw [he] at hq
  exact va_aldq C.1 C.2.1 hw.1 hw.2.1 q0 t hq ht hi hdg kk
/-- the ends -/
theorem w_q {Post : Sh → ZT → va_W → Option Value → Nat → Nat → Prop} {o : Option Value} (hw : Wd sz0 D cs s X Z Y H locs) (hp : Post X Z Y o cells slots) : ∀ t : State, t.heap = H → s.WarmedH t.vm → CQ sz0 D cs Post args s (.returned o) t cells slots := fun t ht hW => by
  obtain ⟨hK, hP, hD, hS, hsz⟩ := hw
  exact ⟨⟨X, Z, Y, o, rfl, ⟨va_K.moved hW.alike hK, by rw [ht]; exact hP, hD, by rw [ht]; exact Nat.le_trans hsz hS.1⟩, hp⟩, hS.F ht⟩
theorem w_mq {Qc : Array Value → State → Outcome → State → Nat → Nat → Prop} {free : Addr → Prop} : ∀ t : State, MQ below (fun a st o t => Qc a st o t cells slots) args s cells slots free t → xQ below Qc args s free t := fun t h => by
  obtain ⟨o, h1, h2, h3, L, h4, h5⟩ := h
  exact ⟨o, h1, h2, L, cells, slots, h4, h5, h3⟩
theorem w_iret {Post : Sh → ZT → va_W → Option Value → Nat → Nat → Prop} {v : Int32} (C : CallFix p m c cc nL s args wsA own) (hw : Wd sz0 D cs s X Z Y H locs) (hr : meth.sig.returnType = some .int) (hlocks : meth.locks = false) (hdg : decode cc pc = .ok (.ireturn, 1)) (hp : Post X Z Y (some (.int v)) cells slots) :
    W p l e R s m args below meth c H locs cells slots (xQ below (CQ sz0 D cs Post) args s (Asz sz0)) (F0 m pc ls [.int v]) :=
  W.monoQ w_mq (W.iret C.1 C.2.1 hr (w_q hw hp) hw.2.2.2.1.2.2 hdg hlocks)
theorem w_zret {Post : Sh → ZT → va_W → Option Value → Nat → Nat → Prop} {v : Int32} (C : CallFix p m c cc nL s args wsA own) (hw : Wd sz0 D cs s X Z Y H locs) (hr : meth.sig.returnType = some .boolean) (hlocks : meth.locks = false) (hdg : decode cc pc = .ok (.ireturn, 1)) (hn : narrow .boolean (.int v) = .int v) (hp : Post X Z Y (some (.int v)) cells slots) :
    W p l e R s m args below meth c H locs cells slots (xQ below (CQ sz0 D cs Post) args s (Asz sz0)) (F0 m pc ls [.int v]) :=
  W.monoQ w_mq (W.zret C.1 C.2.1 hr hn (w_q hw hp) hw.2.2.2.1.2.2 hdg hlocks)
theorem w_vret {Post : Sh → ZT → va_W → Option Value → Nat → Nat → Prop} (C : CallFix p m c cc nL s args wsA own) (hw : Wd sz0 D cs s X Z Y H locs) (hr : meth.sig.returnType = none) (hlocks : meth.locks = false) (hdg : decode cc pc = .ok (.return_, 1)) (hp : Post X Z Y none cells slots) :
    W p l e R s m args below meth c H locs cells slots (xQ below (CQ sz0 D cs Post) args s (Asz sz0)) (F0 m pc ls []) :=
  W.monoQ w_mq (W.vret C.1 C.2.1 hr (w_q hw hp) hw.2.2.2.1.2.2 hdg hlocks)
theorem w_aret {Post : Sh → ZT → va_W → Option Value → Nat → Nat → Prop} {v : Value} {rt : FieldType} (C : CallFix p m c cc nL s args wsA own) (hw : Wd sz0 D cs s X Z Y H locs) (hr : meth.sig.returnType = some rt) (hrt : (∃ n, rt = .object n) ∨ ∃ t, rt = .array t) (hv : v = .null ∨ ∃ a, v = .ref a) (hlocks : meth.locks = false) (hdg : decode cc pc = .ok (.areturn, 1)) (hp : Post X Z Y (some v) cells slots) :
    W p l e R s m args below meth c H locs cells slots (xQ below (CQ sz0 D cs Post) args s (Asz sz0)) (F0 m pc ls [v]) :=
  W.monoQ w_mq (W.aret C.1 C.2.1 hr hrt hv (w_q hw hp) hw.2.2.2.1.2.2 hdg hlocks)
end WR
end
section
/-! ===== calls over worlds ===== -/
section WC
variable {p : Program} {l : Launch} {e : Env} {R : Room} {s : State} {m : MethodId} {args : Array Value} {below : List Frame} {meth : Method} {c : Code} {H : Heap} {locs : List Loc} {cells slots : Nat} {Q : State → Prop}
variable {cc bytes : ByteArray} {pc nL maxL index : Nat} {ls : Array Slot} {rest st0 As : List Value} {own : String} {y : MethodName} {ret : Option FieldType} {rm : Room} {b : Addr}
variable {sz0 : Nat} {D : va_G} {cs : Nat → ClassId} {X : Sh} {Z : ZT} {Y : va_W} {Post : Sh → ZT → va_W → Option Value → Nat → Nat → Prop}
/-- the callee's words, room and name -/
def CW (R : Room) (own : String) (index : Nat) (y : MethodName) (bytes : ByteArray) (maxL : Nat) (ret : Option FieldType) (rm : Room) (n : Nat) : Prop :=
  rm.frames + 1 ≤ R.frames ∧ 8 + (maxL + 11) + rm.locals ≤ R.locals ∧ Cond.code y bytes maxL ret ∈ wsA ∧ Cond.initialized y.cls ∈ wsA ∧ (y.cls ≠ "java/lang/invoke/MethodHandle" ∧ y.cls ≠ "java/lang/invoke/VarHandle" ∧ (parseMethodDescriptor y.desc).map (fun d => d.parameters.length) = some n)
theorem CW.len {n : Nat} (h : CW R own index y bytes maxL ret rm n) : ∀ sig, parseMethodDescriptor y.desc = some sig → n = sig.parameters.length := fun sig hs => by
  have h2 := h.2.2.2.2.2.2
  rw [hs] at h2
  exact (Option.some.inj h2).symm
theorem CW.back {n : Nat} (h : CW R own index y bytes maxL ret rm n) (hts : ∀ w ∈ wsA, w.before args s = true) {av : List Value} (hM : Ctr l y (wsM y bytes maxL ret) rm sz0 D cs av X Z Y Post) :
    Back l R p e below s args y 3 8 (PreOf R rm.cells rm.slots (CP sz0 D cs av X Z Y)) (xPost (CQ sz0 D cs Post) (Asz sz0)) :=
  xback (bytes := bytes) (maxL := maxL) (ret := ret) hM CP.blind h.1 h.2.1 (pay_in hts (wm_law h.2.2.1)) List.mem_cons_self (fun a' U hW => word_at hW (Or.inl (by first | rfl | simp [Cond.onTables, Cond.keeps, Cond.steady])) (hts _ h.2.2.2.1))
theorem w_pre {av : List Value} {T : State} (hN : NW s) (hT : T.heap = H) (hw : Wd sz0 D cs s X Z Y H locs) {vm₁ : Vm} (hW : s.WarmedH vm₁) : CP sz0 D cs av X Z Y av.toArray (T.setVm vm₁) := by
  obtain ⟨hK, hP, hD, hS, hsz⟩ := hw
  refine ⟨rfl, NW.warm (U := T.setVm vm₁) hW hN, va_K.moved hW.alike hK, ?_, hD, ?_⟩
  · show va_P D vwCl (Wl cs X Z ++ Y) T.heap
    rw [hT]; exact hP
  · show sz0 ≤ T.heap.size
    rw [hT]; exact Nat.le_trans hsz hS.1
theorem w_post {T' : State} {L : List Loc} {v : Option Value} {st₀ t : State} {k n : Nat} {a : Array Value} (hw : Wd sz0 D cs s X Z Y H locs) (h0 : st₀.heap = H) (X' : Stand p l e R s m args below meth c T' (locs ++ L) (cells + k) (slots + n)) (hL : ∀ q ∈ L, Asz sz0 q.base) (e1 : T'.heap = t.heap) (e2 : T'.vm = t.vm) (hq : CQ sz0 D cs Post a st₀ (.returned v) t k n) :
    ∃ (X2 : Sh) (Z2 : ZT) (Y2 : va_W), Post X2 Z2 Y2 v k n ∧ Wd sz0 D cs s X2 Z2 Y2 T'.heap (locs ++ L) := by
  obtain ⟨hK, hP, hD, hS, hsz⟩ := hw
  obtain ⟨⟨X2, Z2, Y2, v2, hv, ⟨k1, k2, k3, k4⟩, hp⟩, hz, hk⟩ := hq
  cases hv
  rw [h0] at hz hk
  refine ⟨X2, Z2, Y2, hp, va_K.moved (by have h := X'.warmed.alike; rw [e2] at h; exact h.symm) k1, by rw [e1]; exact k2, k3, ⟨by rw [e1]; exact Nat.le_trans hS.1 hz, fun q h1 h2 => ?_, fun q hq => ?_⟩, hsz⟩
  · rw [e1, hk q (Nat.lt_of_lt_of_le h1 hS.1) h2]
    exact hS.2.1 q h1 h2
  · rcases List.mem_append.mp hq with h | h
    · exact hS.2.2 q h
    · exact hL q h
theorem w_callV (C : CallFix p m c cc nL s args wsA own) (hN : NW s) (hw : Wd sz0 D cs s X Z Y H locs) {n : Nat} (hM : Ctr l y (wsM y bytes maxL ret) rm sz0 D cs (.ref b :: As) X Z Y Post) (cw : CW R own index y bytes maxL ret rm n) (hlk : Cond.methodLink own index y ∈ wsA) (h1 : Cond.instanceMethod y ∈ wsA) (h2 : Cond.selects y.cls y y ∈ wsA)
    (hrec : ∃ cell : Cell, H[b]? = some cell ∧ cell.vm.isStatics = false ∧ s.vm.findClass y.cls = some cell.cls) (hn : As.length = n) (hsize : ls.size = nL) (hstack : st0 = As.reverse ++ .ref b :: rest) (hW : (rest.map fun v => v.category).sum ≤ 8) (hdg : decode cc pc = .ok (.invokevirtual index, 3)) (hf : cells + rm.cells ≤ R.cells ∧ slots + rm.slots ≤ R.slots)
    (kk : ∀ (X' : Sh) (Z' : ZT) (Y' : va_W) (v : Option Value) (k n : Nat) (H1 : Heap) (locs1 : List Loc), Post X' Z' Y' v k n → Wd sz0 D cs s X' Z' Y' H1 locs1 → W p l e R s m args below meth c H1 locs1 (cells + k) (slots + n) Q (F0 m (pc + 3) ls (v.toList ++ rest))) :
    W p l e R s m args below meth c H locs cells slots Q (F0 m pc ls st0) := by
  obtain ⟨hx, hb, hml, ho, hts⟩ := C
  obtain ⟨cellB, hcB, hoB, hclB⟩ := hrec
  intro T hT XS
  obtain ⟨v, vm₁, ⟨U', l2, c2, s2⟩, hW₁, XS', ⟨g', mk, t, L, k, n', e1, e2, hq, q1, hL, q2, q3⟩, st⟩ := callV XS hx (C := y.cls) (bytes := bytes) (maxL := maxL) (ret := ret) ho (hts _ hlk) (hts _ h1) (hts _ h2) (hts _ cw.2.2.1) ⟨cw.2.2.2.2.1, cw.2.2.2.2.2.1⟩ (cw.back hts hM) (by rw [hT]; exact hcB) hoB hclB (g := F0 m pc ls st0) rfl (hsize.trans hml.symm) (argsL := As) (rest := rest) (fun sig h => hn.trans (cw.len sig h)) hstack (lv_room (m := m) (pc := pc) (ls := ls) (rest := []) hW) (by rw [hb]; exact hdg)
    (fun vm₁ hW₁ => ⟨hf.1, hf.2, w_pre hN hT hw hW₁⟩)
  dsimp only [Pt.U, Pt.locs, Pt.cells, Pt.slots] at XS' e1 e2 q1 q2 q3 st
  subst q1; subst q2; subst q3
  obtain ⟨X2, Z2, Y2, hp, hw2⟩ := w_post (st₀ := (T.setVm vm₁).calling g' mk (Value.ref b :: As).toArray) hw hT XS' hL e1 e2 hq
  obtain ⟨t2, a1, b1⟩ := kk X2 Z2 Y2 v k n' U'.heap _ hp hw2 U' rfl XS'
  exact ⟨t2, st t2 a1, b1⟩
theorem w_callS (C : CallFix p m c cc nL s args wsA own) (hN : NW s) (hw : Wd sz0 D cs s X Z Y H locs) {n : Nat} (hM : Ctr l y (wsM y bytes maxL ret) rm sz0 D cs As X Z Y Post) (cw : CW R own index y bytes maxL ret rm n) (hlk : Cond.methodLink own index y ∈ wsA) (h1 : Cond.static y ∈ wsA)
    (hn : As.length = n) (hsize : ls.size = nL) (hstack : st0 = As.reverse ++ rest) (hW : (rest.map fun v => v.category).sum ≤ 8) (hdg : decode cc pc = .ok (.invokestatic index, 3)) (hf : cells + rm.cells ≤ R.cells ∧ slots + rm.slots ≤ R.slots)
    (kk : ∀ (X' : Sh) (Z' : ZT) (Y' : va_W) (v : Option Value) (k n : Nat) (H1 : Heap) (locs1 : List Loc), Post X' Z' Y' v k n → Wd sz0 D cs s X' Z' Y' H1 locs1 → W p l e R s m args below meth c H1 locs1 (cells + k) (slots + n) Q (F0 m (pc + 3) ls (v.toList ++ rest))) :
    W p l e R s m args below meth c H locs cells slots Q (F0 m pc ls st0) := by
  obtain ⟨hx, hb, hml, ho, hts⟩ := C
  intro T hT XS
  obtain ⟨v, vm₁, ⟨U', l2, c2, s2⟩, hW₁, XS', ⟨g', mk, t, L, k, n', e1, e2, hq, q1, hL, q2, q3⟩, st⟩ := callS XS hx (bytes := bytes) (maxL := maxL) (ret := ret) ho (hts _ hlk) (hts _ h1) (hts _ cw.2.2.2.1) (hts _ cw.2.2.1) ⟨cw.2.2.2.2.1, cw.2.2.2.2.2.1⟩ (cw.back hts hM) (g := F0 m pc ls st0) rfl (hsize.trans hml.symm) (argsL := As) (rest := rest) (fun sig h => hn.trans (cw.len sig h)) hstack (lv_room (m := m) (pc := pc) (ls := ls) (rest := []) hW) (by rw [hb]; exact hdg)
    (fun vm₁ hW₁ => ⟨hf.1, hf.2, w_pre hN hT hw hW₁⟩)
  dsimp only [Pt.U, Pt.locs, Pt.cells, Pt.slots] at XS' e1 e2 q1 q2 q3 st
  subst q1; subst q2; subst q3
  obtain ⟨X2, Z2, Y2, hp, hw2⟩ := w_post (st₀ := (T.setVm vm₁).calling g' mk As.toArray) hw hT XS' hL e1 e2 hq
  obtain ⟨t2, a1, b1⟩ := kk X2 Z2 Y2 v k n' U'.heap _ hp hw2 U' rfl XS'
  exact ⟨t2, st t2 a1, b1⟩
theorem w_callI (C : CallFix p m c cc nL s args wsA own) (hN : NW s) (hw : Wd sz0 D cs s X Z Y H locs) {n : Nat} (hM : Ctr l y (wsM y bytes maxL none) rm sz0 D cs (.ref b :: As) X Z Y Post) (cw : CW R own index y bytes maxL none rm n) (hlk : Cond.methodLink own index y ∈ wsA) (h1 : Cond.instanceMethod y ∈ wsA) (h2 : y.name = "<init>")
    (hn : As.length = n) (hsize : ls.size = nL) (hstack : st0 = As.reverse ++ .ref b :: rest) (hW : (rest.map fun v => v.category).sum ≤ 8) (hdg : decode cc pc = .ok (.invokespecial index, 3)) (hf : cells + rm.cells ≤ R.cells ∧ slots + rm.slots ≤ R.slots)
    (kk : ∀ (X' : Sh) (Z' : ZT) (Y' : va_W) (v : Option Value) (k n : Nat) (H1 : Heap) (locs1 : List Loc), Post X' Z' Y' v k n → Wd sz0 D cs s X' Z' Y' H1 locs1 → W p l e R s m args below meth c H1 locs1 (cells + k) (slots + n) Q (F0 m (pc + 3) ls (v.toList ++ rest))) :
    W p l e R s m args below meth c H locs cells slots Q (F0 m pc ls st0) := by
  obtain ⟨hx, hb, hml, ho, hts⟩ := C
  intro T hT XS
  obtain ⟨v, vm₁, ⟨U', l2, c2, s2⟩, hW₁, XS', ⟨g', mk, t, L, k, n', e1, e2, hq, q1, hL, q2, q3⟩, st⟩ := callI XS hx (bytes := bytes) (maxL := maxL) ho h2 (hts _ hlk) (hts _ h1) (hts _ cw.2.2.1) ⟨cw.2.2.2.2.1, cw.2.2.2.2.2.1⟩ (cw.back hts hM) (g := F0 m pc ls st0) rfl (hsize.trans hml.symm) (a := b) (argsL := As) (rest := rest) (fun sig h => hn.trans (cw.len sig h)) hstack (lv_room (m := m) (pc := pc) (ls := ls) (rest := []) hW) (by rw [hb]; exact hdg)
    (fun vm₁ hW₁ => ⟨hf.1, hf.2, w_pre hN hT hw hW₁⟩)
  dsimp only [Pt.U, Pt.locs, Pt.cells, Pt.slots] at XS' e1 e2 q1 q2 q3 st
  subst q1; subst q2; subst q3
  obtain ⟨X2, Z2, Y2, hp, hw2⟩ := w_post (st₀ := (T.setVm vm₁).calling g' mk (Value.ref b :: As).toArray) hw hT XS' hL e1 e2 hq
  obtain ⟨t2, a1, b1⟩ := kk X2 Z2 Y2 v k n' U'.heap _ hp hw2 U' rfl XS'
  exact ⟨t2, st t2 a1, b1⟩
theorem w_callSN {host : String} (C : CallFix p m c cc nL s args wsA own) (hN : NW s) (hw : Wd sz0 D cs s X Z Y H locs) {n : Nat} (hM : Ctr l y (wsM y bytes maxL ret) rm sz0 D cs As X Z Y Post) (cw : CW R own index y bytes maxL ret rm n) (hlk : Cond.methodLinkNest own index y host ∈ lw_tbl) (h1 : Cond.static y ∈ wsA)
    (hn : As.length = n) (hsize : ls.size = nL) (hstack : st0 = As.reverse ++ rest) (hW : (rest.map fun v => v.category).sum ≤ 8) (hdg : decode cc pc = .ok (.invokestatic index, 3)) (hf : cells + rm.cells ≤ R.cells ∧ slots + rm.slots ≤ R.slots)
    (kk : ∀ (X' : Sh) (Z' : ZT) (Y' : va_W) (v : Option Value) (k n : Nat) (H1 : Heap) (locs1 : List Loc), Post X' Z' Y' v k n → Wd sz0 D cs s X' Z' Y' H1 locs1 → W p l e R s m args below meth c H1 locs1 (cells + k) (slots + n) Q (F0 m (pc + 3) ls (v.toList ++ rest))) :
    W p l e R s m args below meth c H locs cells slots Q (F0 m pc ls st0) := by
  obtain ⟨hx, hb, hml, ho, hts⟩ := C
  intro T hT XS
  obtain ⟨v, vm₁, ⟨U', l2, c2, s2⟩, hW₁, XS', ⟨g', mk, t, L, k, n', e1, e2, hq, q1, hL, q2, q3⟩, st⟩ := va_callSN XS hx (bytes := bytes) (maxL := maxL) (ret := ret) ho (va_Nw.use rfl (hN _ hlk rfl)) (hts _ h1) (hts _ cw.2.2.2.1) (hts _ cw.2.2.1) ⟨cw.2.2.2.2.1, cw.2.2.2.2.2.1⟩ (cw.back hts hM) (g := F0 m pc ls st0) rfl (hsize.trans hml.symm) (argsL := As) (rest := rest) (fun sig h => hn.trans (cw.len sig h)) hstack (lv_room (m := m) (pc := pc) (ls := ls) (rest := []) hW) (by rw [hb]; exact hdg)
    (fun vm₁ hW₁ => ⟨hf.1, hf.2, w_pre hN hT hw hW₁⟩)
  dsimp only [Pt.U, Pt.locs, Pt.cells, Pt.slots] at XS' e1 e2 q1 q2 q3 st
  subst q1; subst q2; subst q3
  obtain ⟨X2, Z2, Y2, hp, hw2⟩ := w_post (st₀ := (T.setVm vm₁).calling g' mk As.toArray) hw hT XS' hL e1 e2 hq
  obtain ⟨t2, a1, b1⟩ := kk X2 Z2 Y2 v k n' U'.heap _ hp hw2 U' rfl XS'
  exact ⟨t2, st t2 a1, b1⟩
theorem w_callIN {host : String} (C : CallFix p m c cc nL s args wsA own) (hN : NW s) (hw : Wd sz0 D cs s X Z Y H locs) {n : Nat} (hM : Ctr l y (wsM y bytes maxL none) rm sz0 D cs (.ref b :: As) X Z Y Post) (cw : CW R own index y bytes maxL none rm n) (hlk : Cond.methodLinkNest own index y host ∈ lw_tbl) (h1 : Cond.instanceMethod y ∈ wsA) (h2 : y.name = "<init>")
    (hn : As.length = n) (hsize : ls.size = nL) (hstack : st0 = As.reverse ++ .ref b :: rest) (hW : (rest.map fun v => v.category).sum ≤ 8) (hdg : decode cc pc = .ok (.invokespecial index, 3)) (hf : cells + rm.cells ≤ R.cells ∧ slots + rm.slots ≤ R.slots)
    (kk : ∀ (X' : Sh) (Z' : ZT) (Y' : va_W) (v : Option Value) (k n : Nat) (H1 : Heap) (locs1 : List Loc), Post X' Z' Y' v k n → Wd sz0 D cs s X' Z' Y' H1 locs1 → W p l e R s m args below meth c H1 locs1 (cells + k) (slots + n) Q (F0 m (pc + 3) ls (v.toList ++ rest))) :
    W p l e R s m args below meth c H locs cells slots Q (F0 m pc ls st0) := by
  obtain ⟨hx, hb, hml, ho, hts⟩ := C
  intro T hT XS
  obtain ⟨v, vm₁, ⟨U', l2, c2, s2⟩, hW₁, XS', ⟨g', mk, t, L, k, n', e1, e2, hq, q1, hL, q2, q3⟩, st⟩ := va_callIN XS hx (bytes := bytes) (maxL := maxL) ho h2 (va_Nw.use rfl (hN _ hlk rfl)) (hts _ h1) (hts _ cw.2.2.1) ⟨cw.2.2.2.2.1, cw.2.2.2.2.2.1⟩ (cw.back hts hM) (g := F0 m pc ls st0) rfl (hsize.trans hml.symm) (a := b) (argsL := As) (rest := rest) (fun sig h => hn.trans (cw.len sig h)) hstack (lv_room (m := m) (pc := pc) (ls := ls) (rest := []) hW) (by rw [hb]; exact hdg)
    (fun vm₁ hW₁ => ⟨hf.1, hf.2, w_pre hN hT hw hW₁⟩)
  dsimp only [Pt.U, Pt.locs, Pt.cells, Pt.slots] at XS' e1 e2 q1 q2 q3 st
  subst q1; subst q2; subst q3
  obtain ⟨X2, Z2, Y2, hp, hw2⟩ := w_post (st₀ := (T.setVm vm₁).calling g' mk (Value.ref b :: As).toArray) hw hT XS' hL e1 e2 hq
  obtain ⟨t2, a1, b1⟩ := kk X2 Z2 Y2 v k n' U'.heap _ hp hw2 U' rfl XS'
  exact ⟨t2, st t2 a1, b1⟩
/-- the receiver's cell -/
theorem w_rec (hw : Wd sz0 D cs s X Z Y H locs) {c0 i0 ci N : Nat} {T : u_T} {Cn : String} {fs : List Value} (hm : (c0, i0) ∈ X.2.2.2) (he : Ec cs X c0 i0 (Z c0 i0) = .inr (ci, fs)) (hcl : vwCl[ci]? = some (Cn, T, N)) : ∃ cell : Cell, H[adr X c0 i0]? = some cell ∧ cell.vm.isStatics = false ∧ s.vm.findClass Cn = some cell.cls := by
  obtain ⟨q0, hq⟩ := wl_pos (cs := cs) (Z := Z) (Y := Y) hm
  rw [he] at hq
  exact va_recv hw.1 hw.2.1 hcl hq
end WC
end
section
/-! ===== the roles of a module, and small words ===== -/
def HXI (X : Sh) : Prop := ∀ c, c ≤ 12 → (c, 0) ∈ X.2.2.2
def GI (X : Sh) (i : Nat) : Prop := ∀ c, 20 ≤ c → c ≤ 27 → (c, i) ∈ X.2.2.2
def MI (X : Sh) : Prop := ∀ c, 30 ≤ c → c ≤ 31 → (c, 0) ∈ X.2.2.2
def BI (X : Sh) (i : Nat) : Prop := ∀ c, 40 ≤ c → c ≤ 48 → (c, i) ∈ X.2.2.2
theorem upr_uu {Z : ZT} {c i : Nat} {f g : Nat → Int32} : upr (upr Z c i f) c i g = upr Z c i g := by
  funext c' i'
  simp only [upr]
  split <;> rfl
theorem upr_id {Z : ZT} {c i : Nat} : upr Z c i (Z c i) = Z := by
  funext c' i'
  simp only [upr]
  split
  · rename_i h; rw [h.1, h.2]
  · rfl
theorem upr_cm {Z : ZT} {c i c' i' : Nat} {f g : Nat → Int32} (h : c ≠ c') : upr (upr Z c i f) c' i' g = upr (upr Z c' i' g) c i f := by
  funext a b
  simp only [upr]
  by_cases h1 : a = c' ∧ b = i'
  · rw [if_pos h1, if_neg (fun q => h (q.1.symm.trans h1.1)), if_pos h1]
  · rw [if_neg h1, if_neg h1]
theorem vpr {x N : Int32} {n : Nat} (hN : N.toInt = n) (h0 : ¬ x < 0) (h1 : ¬ N ≤ x) : vp_in x n := by
  rw [vp_in_iff]
  rw [Int32.lt_iff_toInt_lt] at h0
  rw [Int32.le_iff_toInt_le] at h1
  have : (0 : Int32).toInt = 0 := by decide
  omega
theorem vp63 (x : Int32) : vp_in (x &&& 63) 64 := pk_andIn x 6 (by decide) (by decide)
theorem vp7 (x : Int32) : vp_in (x &&& 7) 8 := pk_andIn x 3 (by decide) (by decide)
theorem vp255 (x : Int32) : vp_in (x &&& 255) 256 := pk_andIn x 8 (by decide) (by decide)
def hasWv (F a : Int32) : Int32 := if a < 0 then 0 else if 64 * F ≤ a then 0 else 1
def timeUpv (C T : Int32) : Int32 := if T = 0 then 0 else if C - T < 0 then 0 else 1
end
section
/-! ===== rows that copy ===== -/
section WM
variable {p : Program} {l : Launch} {e : Env} {R : Room} {s : State} {m : MethodId} {args : Array Value} {below : List Frame} {meth : Method} {c : Code} {H : Heap} {locs : List Loc} {cells slots : Nat} {Q : State → Prop}
variable {cc : ByteArray} {pc nL : Nat} {ls : Array Slot} {rest : List Value} {own : String}
variable {sz0 : Nat} {D : va_G} {cs : Nat → ClassId} {X : Sh} {Z : ZT} {Y : va_W}
theorem w_cpy (C : CallFix p m c cc nL s args wsA own) (hw : Wd sz0 D cs s X Z Y H locs) {index c0 i0 c1 i1 n0 n1 : Nat} {sp dp n : Int32} (hlk : Cond.methodLink own index arraycopyName ∈ wsA) (hdg : decode cc pc = .ok (.invokestatic index, 3))
    (hm0 : (c0, i0) ∈ X.2.2.2) {a0 : Nat} (ha0 : adr X c0 i0 = a0) (he0 : Ec cs X c0 i0 (Z c0 i0) = .inl (cs 0, n0, .inl (Z c0 i0))) (hm1 : (c1, i1) ∈ X.2.2.2) {a1 : Nat} (ha1 : adr X c1 i1 = a1) (he1 : ∀ f, Ec cs X c1 i1 f = .inl (cs 0, n1, .inl f))
    (h1 : ¬ sp < 0) (h2 : ¬ dp < 0) (h3 : ¬ n < 0) {js jd jn : Nat} (hjs : sp.toNatClampNeg = js) (hjd : dp.toNatClampNeg = jd) (hjn : n.toNatClampNeg = jn) (h4 : js + jn ≤ n0) (h5 : jd + jn ≤ n1) (hsz : ls.size = nL) (hfr : 1 ≤ R.frames) (hlo : (rest.map fun v => v.category).sum + 18 ≤ R.locals)
    (kk : ∀ (H1 : Heap) (locs1 : List Loc), Wd sz0 D cs s X (upr Z c1 i1 (va_cpy (Z c0 i0) (Z c1 i1) js jd jn)) Y H1 locs1 → W p l e R s m args below meth c H1 locs1 cells slots Q (F0 m (pc + 3) ls rest)) :
    W p l e R s m args below meth c H locs cells slots Q (F0 m pc ls (.int n :: .int dp :: .ref a1 :: .int sp :: .ref a0 :: rest)) := by
  subst ha0; subst ha1; subst hjs; subst hjd; subst hjn
  obtain ⟨hx, hb, hml, hown, hts⟩ := C
  obtain ⟨hK, hP, hD, hS, hz⟩ := hw
  obtain ⟨q0, hq0⟩ := wl_pos (cs := cs) (Z := Z) (Y := Y) hm0
  obtain ⟨q1, hq1⟩ := wl_pos (cs := cs) (Z := Z) (Y := Y) hm1
  rw [he0] at hq0
  have hq2 := hq1
  rw [he1] at hq2
  refine va_copyi hx hb (hml.trans hsz.symm) hown (hts _ hlk) (hts _ mw196) (hts _ mw197) (hts _ mw198) hK hP hD hS q0 q1 0 0 (ty := .int) hq0 hq2 rfl rfl rfl h1 h2 h3 h4 h5 (fun _ _ => rfl) hfr hlo hdg (fun H1 locs1 k1 k2 k3 => ?_)
  rw [← he1, wl_set hD hq1 hm1] at k1 k2
  exact kk H1 locs1 ⟨hK, k1, k2, k3, hz⟩
end WM
theorem cy_X3_init : yX3_init.cls ≠ "java/lang/invoke/MethodHandle" ∧ yX3_init.cls ≠ "java/lang/invoke/VarHandle" ∧ (parseMethodDescriptor yX3_init.desc).map (fun d => d.parameters.length) = some 0 := by decide +kernel
theorem cy_X1_init : yX1_init.cls ≠ "java/lang/invoke/MethodHandle" ∧ yX1_init.cls ≠ "java/lang/invoke/VarHandle" ∧ (parseMethodDescriptor yX1_init.desc).map (fun d => d.parameters.length) = some 0 := by decide +kernel
theorem cy_X2_init : yX2_init.cls ≠ "java/lang/invoke/MethodHandle" ∧ yX2_init.cls ≠ "java/lang/invoke/VarHandle" ∧ (parseMethodDescriptor yX2_init.desc).map (fun d => d.parameters.length) = some 1 := by decide +kernel
theorem cy_X3_settle : yX3_settle.cls ≠ "java/lang/invoke/MethodHandle" ∧ yX3_settle.cls ≠ "java/lang/invoke/VarHandle" ∧ (parseMethodDescriptor yX3_settle.desc).map (fun d => d.parameters.length) = some 2 := by decide +kernel
theorem cy_X1_renew : yX1_renew.cls ≠ "java/lang/invoke/MethodHandle" ∧ yX1_renew.cls ≠ "java/lang/invoke/VarHandle" ∧ (parseMethodDescriptor yX1_renew.desc).map (fun d => d.parameters.length) = some 1 := by decide +kernel
theorem cy_J7_fill_53178 : yJ7_fill_53178.cls ≠ "java/lang/invoke/MethodHandle" ∧ yJ7_fill_53178.cls ≠ "java/lang/invoke/VarHandle" ∧ (parseMethodDescriptor yJ7_fill_53178.desc).map (fun d => d.parameters.length) = some 2 := by decide +kernel
theorem cy_X5_init : yX5_init.cls ≠ "java/lang/invoke/MethodHandle" ∧ yX5_init.cls ≠ "java/lang/invoke/VarHandle" ∧ (parseMethodDescriptor yX5_init.desc).map (fun d => d.parameters.length) = some 0 := by decide +kernel
theorem cy_X4_init : yX4_init.cls ≠ "java/lang/invoke/MethodHandle" ∧ yX4_init.cls ≠ "java/lang/invoke/VarHandle" ∧ (parseMethodDescriptor yX4_init.desc).map (fun d => d.parameters.length) = some 0 := by decide +kernel
theorem cy_X3_install : yX3_install.cls ≠ "java/lang/invoke/MethodHandle" ∧ yX3_install.cls ≠ "java/lang/invoke/VarHandle" ∧ (parseMethodDescriptor yX3_install.desc).map (fun d => d.parameters.length) = some 2 := by decide +kernel
theorem cy_X5_install : yX5_install.cls ≠ "java/lang/invoke/MethodHandle" ∧ yX5_install.cls ≠ "java/lang/invoke/VarHandle" ∧ (parseMethodDescriptor yX5_install.desc).map (fun d => d.parameters.length) = some 2 := by decide +kernel
theorem cy_X3_guest : yX3_guest.cls ≠ "java/lang/invoke/MethodHandle" ∧ yX3_guest.cls ≠ "java/lang/invoke/VarHandle" ∧ (parseMethodDescriptor yX3_guest.desc).map (fun d => d.parameters.length) = some 1 := by decide +kernel
theorem cy_X3_leastFree : yX3_leastFree.cls ≠ "java/lang/invoke/MethodHandle" ∧ yX3_leastFree.cls ≠ "java/lang/invoke/VarHandle" ∧ (parseMethodDescriptor yX3_leastFree.desc).map (fun d => d.parameters.length) = some 0 := by decide +kernel
theorem cy_X3_find : yX3_find.cls ≠ "java/lang/invoke/MethodHandle" ∧ yX3_find.cls ≠ "java/lang/invoke/VarHandle" ∧ (parseMethodDescriptor yX3_find.desc).map (fun d => d.parameters.length) = some 1 := by decide +kernel
theorem cy_X3_room : yX3_room.cls ≠ "java/lang/invoke/MethodHandle" ∧ yX3_room.cls ≠ "java/lang/invoke/VarHandle" ∧ (parseMethodDescriptor yX3_room.desc).map (fun d => d.parameters.length) = some 1 := by decide +kernel
theorem cy_X0_init : yX0_init.cls ≠ "java/lang/invoke/MethodHandle" ∧ yX0_init.cls ≠ "java/lang/invoke/VarHandle" ∧ (parseMethodDescriptor yX0_init.desc).map (fun d => d.parameters.length) = some 0 := by decide +kernel
theorem cy_X0_renew : yX0_renew.cls ≠ "java/lang/invoke/MethodHandle" ∧ yX0_renew.cls ≠ "java/lang/invoke/VarHandle" ∧ (parseMethodDescriptor yX0_renew.desc).map (fun d => d.parameters.length) = some 1 := by decide +kernel
theorem cy_X0_reset : yX0_reset.cls ≠ "java/lang/invoke/MethodHandle" ∧ yX0_reset.cls ≠ "java/lang/invoke/VarHandle" ∧ (parseMethodDescriptor yX0_reset.desc).map (fun d => d.parameters.length) = some 0 := by decide +kernel
theorem cy_X0_emptyCache : yX0_emptyCache.cls ≠ "java/lang/invoke/MethodHandle" ∧ yX0_emptyCache.cls ≠ "java/lang/invoke/VarHandle" ∧ (parseMethodDescriptor yX0_emptyCache.desc).map (fun d => d.parameters.length) = some 0 := by decide +kernel
theorem cy_X1_lendBlank : yX1_lendBlank.cls ≠ "java/lang/invoke/MethodHandle" ∧ yX1_lendBlank.cls ≠ "java/lang/invoke/VarHandle" ∧ (parseMethodDescriptor yX1_lendBlank.desc).map (fun d => d.parameters.length) = some 1 := by decide +kernel
theorem cy_X5_guest : yX5_guest.cls ≠ "java/lang/invoke/MethodHandle" ∧ yX5_guest.cls ≠ "java/lang/invoke/VarHandle" ∧ (parseMethodDescriptor yX5_guest.desc).map (fun d => d.parameters.length) = some 1 := by decide +kernel
theorem cy_X5_free : yX5_free.cls ≠ "java/lang/invoke/MethodHandle" ∧ yX5_free.cls ≠ "java/lang/invoke/VarHandle" ∧ (parseMethodDescriptor yX5_free.desc).map (fun d => d.parameters.length) = some 0 := by decide +kernel
theorem cy_X4_make : yX4_make.cls ≠ "java/lang/invoke/MethodHandle" ∧ yX4_make.cls ≠ "java/lang/invoke/VarHandle" ∧ (parseMethodDescriptor yX4_make.desc).map (fun d => d.parameters.length) = some 1 := by decide +kernel
theorem cy_X4_start : yX4_start.cls ≠ "java/lang/invoke/MethodHandle" ∧ yX4_start.cls ≠ "java/lang/invoke/VarHandle" ∧ (parseMethodDescriptor yX4_start.desc).map (fun d => d.parameters.length) = some 1 := by decide +kernel
theorem cy_X4_forget : yX4_forget.cls ≠ "java/lang/invoke/MethodHandle" ∧ yX4_forget.cls ≠ "java/lang/invoke/VarHandle" ∧ (parseMethodDescriptor yX4_forget.desc).map (fun d => d.parameters.length) = some 0 := by decide +kernel
theorem cy_X3_poke : yX3_poke.cls ≠ "java/lang/invoke/MethodHandle" ∧ yX3_poke.cls ≠ "java/lang/invoke/VarHandle" ∧ (parseMethodDescriptor yX3_poke.desc).map (fun d => d.parameters.length) = some 3 := by decide +kernel
theorem cy_X0_hasWord : yX0_hasWord.cls ≠ "java/lang/invoke/MethodHandle" ∧ yX0_hasWord.cls ≠ "java/lang/invoke/VarHandle" ∧ (parseMethodDescriptor yX0_hasWord.desc).map (fun d => d.parameters.length) = some 1 := by decide +kernel
theorem cy_X1_write : yX1_write.cls ≠ "java/lang/invoke/MethodHandle" ∧ yX1_write.cls ≠ "java/lang/invoke/VarHandle" ∧ (parseMethodDescriptor yX1_write.desc).map (fun d => d.parameters.length) = some 3 := by decide +kernel
theorem cy_X1_bring : yX1_bring.cls ≠ "java/lang/invoke/MethodHandle" ∧ yX1_bring.cls ≠ "java/lang/invoke/VarHandle" ∧ (parseMethodDescriptor yX1_bring.desc).map (fun d => d.parameters.length) = some 1 := by decide +kernel
theorem cy_X1_isSheet : yX1_isSheet.cls ≠ "java/lang/invoke/MethodHandle" ∧ yX1_isSheet.cls ≠ "java/lang/invoke/VarHandle" ∧ (parseMethodDescriptor yX1_isSheet.desc).map (fun d => d.parameters.length) = some 1 := by decide +kernel
theorem cy_X1_takeFrame : yX1_takeFrame.cls ≠ "java/lang/invoke/MethodHandle" ∧ yX1_takeFrame.cls ≠ "java/lang/invoke/VarHandle" ∧ (parseMethodDescriptor yX1_takeFrame.desc).map (fun d => d.parameters.length) = some 1 := by decide +kernel
theorem cy_J7_copyOf_59c91 : yJ7_copyOf_59c91.cls ≠ "java/lang/invoke/MethodHandle" ∧ yJ7_copyOf_59c91.cls ≠ "java/lang/invoke/VarHandle" ∧ (parseMethodDescriptor yJ7_copyOf_59c91.desc).map (fun d => d.parameters.length) = some 2 := by decide +kernel
theorem cy_X1_makeOwn : yX1_makeOwn.cls ≠ "java/lang/invoke/MethodHandle" ∧ yX1_makeOwn.cls ≠ "java/lang/invoke/VarHandle" ∧ (parseMethodDescriptor yX1_makeOwn.desc).map (fun d => d.parameters.length) = some 3 := by decide +kernel
theorem cy_X1_takeSheet : yX1_takeSheet.cls ≠ "java/lang/invoke/MethodHandle" ∧ yX1_takeSheet.cls ≠ "java/lang/invoke/VarHandle" ∧ (parseMethodDescriptor yX1_takeSheet.desc).map (fun d => d.parameters.length) = some 0 := by decide +kernel
theorem cy_X5_poke : yX5_poke.cls ≠ "java/lang/invoke/MethodHandle" ∧ yX5_poke.cls ≠ "java/lang/invoke/VarHandle" ∧ (parseMethodDescriptor yX5_poke.desc).map (fun d => d.parameters.length) = some 3 := by decide +kernel
theorem cy_X5_of : yX5_of.cls ≠ "java/lang/invoke/MethodHandle" ∧ yX5_of.cls ≠ "java/lang/invoke/VarHandle" ∧ (parseMethodDescriptor yX5_of.desc).map (fun d => d.parameters.length) = some 1 := by decide +kernel
theorem cy_X4_isMemory : yX4_isMemory.cls ≠ "java/lang/invoke/MethodHandle" ∧ yX4_isMemory.cls ≠ "java/lang/invoke/VarHandle" ∧ (parseMethodDescriptor yX4_isMemory.desc).map (fun d => d.parameters.length) = some 1 := by decide +kernel
theorem cy_X5_isBelow : yX5_isBelow.cls ≠ "java/lang/invoke/MethodHandle" ∧ yX5_isBelow.cls ≠ "java/lang/invoke/VarHandle" ∧ (parseMethodDescriptor yX5_isBelow.desc).map (fun d => d.parameters.length) = some 2 := by decide +kernel
theorem cy_X3_pokeDisk : yX3_pokeDisk.cls ≠ "java/lang/invoke/MethodHandle" ∧ yX3_pokeDisk.cls ≠ "java/lang/invoke/VarHandle" ∧ (parseMethodDescriptor yX3_pokeDisk.desc).map (fun d => d.parameters.length) = some 3 := by decide +kernel
theorem cy_X5_pokeDisk : yX5_pokeDisk.cls ≠ "java/lang/invoke/MethodHandle" ∧ yX5_pokeDisk.cls ≠ "java/lang/invoke/VarHandle" ∧ (parseMethodDescriptor yX5_pokeDisk.desc).map (fun d => d.parameters.length) = some 3 := by decide +kernel
theorem cy_X3_start : yX3_start.cls ≠ "java/lang/invoke/MethodHandle" ∧ yX3_start.cls ≠ "java/lang/invoke/VarHandle" ∧ (parseMethodDescriptor yX3_start.desc).map (fun d => d.parameters.length) = some 2 := by decide +kernel
theorem cy_X5_start : yX5_start.cls ≠ "java/lang/invoke/MethodHandle" ∧ yX5_start.cls ≠ "java/lang/invoke/VarHandle" ∧ (parseMethodDescriptor yX5_start.desc).map (fun d => d.parameters.length) = some 2 := by decide +kernel
theorem cy_X3_stop : yX3_stop.cls ≠ "java/lang/invoke/MethodHandle" ∧ yX3_stop.cls ≠ "java/lang/invoke/VarHandle" ∧ (parseMethodDescriptor yX3_stop.desc).map (fun d => d.parameters.length) = some 1 := by decide +kernel
theorem cy_X5_stop : yX5_stop.cls ≠ "java/lang/invoke/MethodHandle" ∧ yX5_stop.cls ≠ "java/lang/invoke/VarHandle" ∧ (parseMethodDescriptor yX5_stop.desc).map (fun d => d.parameters.length) = some 1 := by decide +kernel
theorem cy_X3_input : yX3_input.cls ≠ "java/lang/invoke/MethodHandle" ∧ yX3_input.cls ≠ "java/lang/invoke/VarHandle" ∧ (parseMethodDescriptor yX3_input.desc).map (fun d => d.parameters.length) = some 2 := by decide +kernel
theorem cy_X0_arrive : yX0_arrive.cls ≠ "java/lang/invoke/MethodHandle" ∧ yX0_arrive.cls ≠ "java/lang/invoke/VarHandle" ∧ (parseMethodDescriptor yX0_arrive.desc).map (fun d => d.parameters.length) = some 1 := by decide +kernel
theorem cy_X5_input : yX5_input.cls ≠ "java/lang/invoke/MethodHandle" ∧ yX5_input.cls ≠ "java/lang/invoke/VarHandle" ∧ (parseMethodDescriptor yX5_input.desc).map (fun d => d.parameters.length) = some 2 := by decide +kernel
theorem cy_X3_copy : yX3_copy.cls ≠ "java/lang/invoke/MethodHandle" ∧ yX3_copy.cls ≠ "java/lang/invoke/VarHandle" ∧ (parseMethodDescriptor yX3_copy.desc).map (fun d => d.parameters.length) = some 1 := by decide +kernel
theorem cy_X0_become : yX0_become.cls ≠ "java/lang/invoke/MethodHandle" ∧ yX0_become.cls ≠ "java/lang/invoke/VarHandle" ∧ (parseMethodDescriptor yX0_become.desc).map (fun d => d.parameters.length) = some 1 := by decide +kernel
theorem cy_X1_shareSheets : yX1_shareSheets.cls ≠ "java/lang/invoke/MethodHandle" ∧ yX1_shareSheets.cls ≠ "java/lang/invoke/VarHandle" ∧ (parseMethodDescriptor yX1_shareSheets.desc).map (fun d => d.parameters.length) = some 2 := by decide +kernel
theorem cy_X5_copy : yX5_copy.cls ≠ "java/lang/invoke/MethodHandle" ∧ yX5_copy.cls ≠ "java/lang/invoke/VarHandle" ∧ (parseMethodDescriptor yX5_copy.desc).map (fun d => d.parameters.length) = some 1 := by decide +kernel
theorem cy_X4_copy : yX4_copy.cls ≠ "java/lang/invoke/MethodHandle" ∧ yX4_copy.cls ≠ "java/lang/invoke/VarHandle" ∧ (parseMethodDescriptor yX4_copy.desc).map (fun d => d.parameters.length) = some 1 := by decide +kernel
theorem cy_X3_drop : yX3_drop.cls ≠ "java/lang/invoke/MethodHandle" ∧ yX3_drop.cls ≠ "java/lang/invoke/VarHandle" ∧ (parseMethodDescriptor yX3_drop.desc).map (fun d => d.parameters.length) = some 1 := by decide +kernel
theorem cy_X1_release : yX1_release.cls ≠ "java/lang/invoke/MethodHandle" ∧ yX1_release.cls ≠ "java/lang/invoke/VarHandle" ∧ (parseMethodDescriptor yX1_release.desc).map (fun d => d.parameters.length) = some 1 := by decide +kernel
theorem cy_X1_freeSheet : yX1_freeSheet.cls ≠ "java/lang/invoke/MethodHandle" ∧ yX1_freeSheet.cls ≠ "java/lang/invoke/VarHandle" ∧ (parseMethodDescriptor yX1_freeSheet.desc).map (fun d => d.parameters.length) = some 1 := by decide +kernel
theorem cy_X5_drop : yX5_drop.cls ≠ "java/lang/invoke/MethodHandle" ∧ yX5_drop.cls ≠ "java/lang/invoke/VarHandle" ∧ (parseMethodDescriptor yX5_drop.desc).map (fun d => d.parameters.length) = some 1 := by decide +kernel
theorem cy_X3_run : yX3_run.cls ≠ "java/lang/invoke/MethodHandle" ∧ yX3_run.cls ≠ "java/lang/invoke/VarHandle" ∧ (parseMethodDescriptor yX3_run.desc).map (fun d => d.parameters.length) = some 1 := by decide +kernel
theorem cy_X3_nextTurn : yX3_nextTurn.cls ≠ "java/lang/invoke/MethodHandle" ∧ yX3_nextTurn.cls ≠ "java/lang/invoke/VarHandle" ∧ (parseMethodDescriptor yX3_nextTurn.desc).map (fun d => d.parameters.length) = some 0 := by decide +kernel
theorem cy_X2_step : yX2_step.cls ≠ "java/lang/invoke/MethodHandle" ∧ yX2_step.cls ≠ "java/lang/invoke/VarHandle" ∧ (parseMethodDescriptor yX2_step.desc).map (fun d => d.parameters.length) = some 1 := by decide +kernel
theorem cy_X2_lineTrap : yX2_lineTrap.cls ≠ "java/lang/invoke/MethodHandle" ∧ yX2_lineTrap.cls ≠ "java/lang/invoke/VarHandle" ∧ (parseMethodDescriptor yX2_lineTrap.desc).map (fun d => d.parameters.length) = some 1 := by decide +kernel
theorem cy_X0_timerIsUp : yX0_timerIsUp.cls ≠ "java/lang/invoke/MethodHandle" ∧ yX0_timerIsUp.cls ≠ "java/lang/invoke/VarHandle" ∧ (parseMethodDescriptor yX0_timerIsUp.desc).map (fun d => d.parameters.length) = some 0 := by decide +kernel
theorem cy_X2_locate : yX2_locate.cls ≠ "java/lang/invoke/MethodHandle" ∧ yX2_locate.cls ≠ "java/lang/invoke/VarHandle" ∧ (parseMethodDescriptor yX2_locate.desc).map (fun d => d.parameters.length) = some 3 := by decide +kernel
theorem cy_X2_refuse : yX2_refuse.cls ≠ "java/lang/invoke/MethodHandle" ∧ yX2_refuse.cls ≠ "java/lang/invoke/VarHandle" ∧ (parseMethodDescriptor yX2_refuse.desc).map (fun d => d.parameters.length) = some 2 := by decide +kernel
theorem cy_X1_read : yX1_read.cls ≠ "java/lang/invoke/MethodHandle" ∧ yX1_read.cls ≠ "java/lang/invoke/VarHandle" ∧ (parseMethodDescriptor yX1_read.desc).map (fun d => d.parameters.length) = some 2 := by decide +kernel
theorem cy_X2_sum : yX2_sum.cls ≠ "java/lang/invoke/MethodHandle" ∧ yX2_sum.cls ≠ "java/lang/invoke/VarHandle" ∧ (parseMethodDescriptor yX2_sum.desc).map (fun d => d.parameters.length) = some 2 := by decide +kernel
theorem cy_X2_valueA : yX2_valueA.cls ≠ "java/lang/invoke/MethodHandle" ∧ yX2_valueA.cls ≠ "java/lang/invoke/VarHandle" ∧ (parseMethodDescriptor yX2_valueA.desc).map (fun d => d.parameters.length) = some 2 := by decide +kernel
theorem cy_X2_valueB : yX2_valueB.cls ≠ "java/lang/invoke/MethodHandle" ∧ yX2_valueB.cls ≠ "java/lang/invoke/VarHandle" ∧ (parseMethodDescriptor yX2_valueB.desc).map (fun d => d.parameters.length) = some 2 := by decide +kernel
theorem cy_X2_number : yX2_number.cls ≠ "java/lang/invoke/MethodHandle" ∧ yX2_number.cls ≠ "java/lang/invoke/VarHandle" ∧ (parseMethodDescriptor yX2_number.desc).map (fun d => d.parameters.length) = some 1 := by decide +kernel
theorem cy_X2_setD : yX2_setD.cls ≠ "java/lang/invoke/MethodHandle" ∧ yX2_setD.cls ≠ "java/lang/invoke/VarHandle" ∧ (parseMethodDescriptor yX2_setD.desc).map (fun d => d.parameters.length) = some 3 := by decide +kernel
theorem cy_X2_useMemory : yX2_useMemory.cls ≠ "java/lang/invoke/MethodHandle" ∧ yX2_useMemory.cls ≠ "java/lang/invoke/VarHandle" ∧ (parseMethodDescriptor yX2_useMemory.desc).map (fun d => d.parameters.length) = some 2 := by decide +kernel
theorem cy_X2_jump : yX2_jump.cls ≠ "java/lang/invoke/MethodHandle" ∧ yX2_jump.cls ≠ "java/lang/invoke/VarHandle" ∧ (parseMethodDescriptor yX2_jump.desc).map (fun d => d.parameters.length) = some 2 := by decide +kernel
theorem cy_X2_callOrTime : yX2_callOrTime.cls ≠ "java/lang/invoke/MethodHandle" ∧ yX2_callOrTime.cls ≠ "java/lang/invoke/VarHandle" ∧ (parseMethodDescriptor yX2_callOrTime.desc).map (fun d => d.parameters.length) = some 2 := by decide +kernel
theorem cy_X2_supervise : yX2_supervise.cls ≠ "java/lang/invoke/MethodHandle" ∧ yX2_supervise.cls ≠ "java/lang/invoke/VarHandle" ∧ (parseMethodDescriptor yX2_supervise.desc).map (fun d => d.parameters.length) = some 2 := by decide +kernel
theorem cy_X2_readControl : yX2_readControl.cls ≠ "java/lang/invoke/MethodHandle" ∧ yX2_readControl.cls ≠ "java/lang/invoke/VarHandle" ∧ (parseMethodDescriptor yX2_readControl.desc).map (fun d => d.parameters.length) = some 2 := by decide +kernel
theorem cy_X2_writeControl : yX2_writeControl.cls ≠ "java/lang/invoke/MethodHandle" ∧ yX2_writeControl.cls ≠ "java/lang/invoke/VarHandle" ∧ (parseMethodDescriptor yX2_writeControl.desc).map (fun d => d.parameters.length) = some 2 := by decide +kernel
theorem cy_X0_leaveTrap : yX0_leaveTrap.cls ≠ "java/lang/invoke/MethodHandle" ∧ yX0_leaveTrap.cls ≠ "java/lang/invoke/VarHandle" ∧ (parseMethodDescriptor yX0_leaveTrap.desc).map (fun d => d.parameters.length) = some 0 := by decide +kernel
theorem cy_X2_waitForLine : yX2_waitForLine.cls ≠ "java/lang/invoke/MethodHandle" ∧ yX2_waitForLine.cls ≠ "java/lang/invoke/VarHandle" ∧ (parseMethodDescriptor yX2_waitForLine.desc).map (fun d => d.parameters.length) = some 1 := by decide +kernel
theorem cy_X2_takeIn : yX2_takeIn.cls ≠ "java/lang/invoke/MethodHandle" ∧ yX2_takeIn.cls ≠ "java/lang/invoke/VarHandle" ∧ (parseMethodDescriptor yX2_takeIn.desc).map (fun d => d.parameters.length) = some 2 := by decide +kernel
theorem cy_X0_takeOldest : yX0_takeOldest.cls ≠ "java/lang/invoke/MethodHandle" ∧ yX0_takeOldest.cls ≠ "java/lang/invoke/VarHandle" ∧ (parseMethodDescriptor yX0_takeOldest.desc).map (fun d => d.parameters.length) = some 0 := by decide +kernel
theorem cy_X2_giveOut : yX2_giveOut.cls ≠ "java/lang/invoke/MethodHandle" ∧ yX2_giveOut.cls ≠ "java/lang/invoke/VarHandle" ∧ (parseMethodDescriptor yX2_giveOut.desc).map (fun d => d.parameters.length) = some 3 := by decide +kernel
theorem cy_X0_putOut : yX0_putOut.cls ≠ "java/lang/invoke/MethodHandle" ∧ yX0_putOut.cls ≠ "java/lang/invoke/VarHandle" ∧ (parseMethodDescriptor yX0_putOut.desc).map (fun d => d.parameters.length) = some 1 := by decide +kernel
theorem cy_X1_saveFrame : yX1_saveFrame.cls ≠ "java/lang/invoke/MethodHandle" ∧ yX1_saveFrame.cls ≠ "java/lang/invoke/VarHandle" ∧ (parseMethodDescriptor yX1_saveFrame.desc).map (fun d => d.parameters.length) = some 3 := by decide +kernel
theorem cy_X1_loadFrame : yX1_loadFrame.cls ≠ "java/lang/invoke/MethodHandle" ∧ yX1_loadFrame.cls ≠ "java/lang/invoke/VarHandle" ∧ (parseMethodDescriptor yX1_loadFrame.desc).map (fun d => d.parameters.length) = some 3 := by decide +kernel
theorem cy_X0_enterTrap : yX0_enterTrap.cls ≠ "java/lang/invoke/MethodHandle" ∧ yX0_enterTrap.cls ≠ "java/lang/invoke/VarHandle" ∧ (parseMethodDescriptor yX0_enterTrap.desc).map (fun d => d.parameters.length) = some 2 := by decide +kernel
theorem cy_X5_run : yX5_run.cls ≠ "java/lang/invoke/MethodHandle" ∧ yX5_run.cls ≠ "java/lang/invoke/VarHandle" ∧ (parseMethodDescriptor yX5_run.desc).map (fun d => d.parameters.length) = some 1 := by decide +kernel
theorem cy_X5_turn : yX5_turn.cls ≠ "java/lang/invoke/MethodHandle" ∧ yX5_turn.cls ≠ "java/lang/invoke/VarHandle" ∧ (parseMethodDescriptor yX5_turn.desc).map (fun d => d.parameters.length) = some 0 := by decide +kernel
theorem cy_X5_isRunning : yX5_isRunning.cls ≠ "java/lang/invoke/MethodHandle" ∧ yX5_isRunning.cls ≠ "java/lang/invoke/VarHandle" ∧ (parseMethodDescriptor yX5_isRunning.desc).map (fun d => d.parameters.length) = some 1 := by decide +kernel
theorem cy_X4_step : yX4_step.cls ≠ "java/lang/invoke/MethodHandle" ∧ yX4_step.cls ≠ "java/lang/invoke/VarHandle" ∧ (parseMethodDescriptor yX4_step.desc).map (fun d => d.parameters.length) = some 0 := by decide +kernel
theorem cy_X4_hasStatus : yX4_hasStatus.cls ≠ "java/lang/invoke/MethodHandle" ∧ yX4_hasStatus.cls ≠ "java/lang/invoke/VarHandle" ∧ (parseMethodDescriptor yX4_hasStatus.desc).map (fun d => d.parameters.length) = some 1 := by decide +kernel
theorem cy_X4_isTimeUp : yX4_isTimeUp.cls ≠ "java/lang/invoke/MethodHandle" ∧ yX4_isTimeUp.cls ≠ "java/lang/invoke/VarHandle" ∧ (parseMethodDescriptor yX4_isTimeUp.desc).map (fun d => d.parameters.length) = some 0 := by decide +kernel
theorem cy_X4_fail : yX4_fail.cls ≠ "java/lang/invoke/MethodHandle" ∧ yX4_fail.cls ≠ "java/lang/invoke/VarHandle" ∧ (parseMethodDescriptor yX4_fail.desc).map (fun d => d.parameters.length) = some 2 := by decide +kernel
theorem cy_X4_reach : yX4_reach.cls ≠ "java/lang/invoke/MethodHandle" ∧ yX4_reach.cls ≠ "java/lang/invoke/VarHandle" ∧ (parseMethodDescriptor yX4_reach.desc).map (fun d => d.parameters.length) = some 2 := by decide +kernel
theorem cy_X4_fill : yX4_fill.cls ≠ "java/lang/invoke/MethodHandle" ∧ yX4_fill.cls ≠ "java/lang/invoke/VarHandle" ∧ (parseMethodDescriptor yX4_fill.desc).map (fun d => d.parameters.length) = some 3 := by decide +kernel
theorem cy_X4_tableWord : yX4_tableWord.cls ≠ "java/lang/invoke/MethodHandle" ∧ yX4_tableWord.cls ≠ "java/lang/invoke/VarHandle" ∧ (parseMethodDescriptor yX4_tableWord.desc).map (fun d => d.parameters.length) = some 1 := by decide +kernel
theorem cy_X4_work : yX4_work.cls ≠ "java/lang/invoke/MethodHandle" ∧ yX4_work.cls ≠ "java/lang/invoke/VarHandle" ∧ (parseMethodDescriptor yX4_work.desc).map (fun d => d.parameters.length) = some 1 := by decide +kernel
theorem cy_X4_made : yX4_made.cls ≠ "java/lang/invoke/MethodHandle" ∧ yX4_made.cls ≠ "java/lang/invoke/VarHandle" ∧ (parseMethodDescriptor yX4_made.desc).map (fun d => d.parameters.length) = some 4 := by decide +kernel
theorem cy_X4_moved : yX4_moved.cls ≠ "java/lang/invoke/MethodHandle" ∧ yX4_moved.cls ≠ "java/lang/invoke/VarHandle" ∧ (parseMethodDescriptor yX4_moved.desc).map (fun d => d.parameters.length) = some 4 := by decide +kernel
theorem cy_X4_goes : yX4_goes.cls ≠ "java/lang/invoke/MethodHandle" ∧ yX4_goes.cls ≠ "java/lang/invoke/VarHandle" ∧ (parseMethodDescriptor yX4_goes.desc).map (fun d => d.parameters.length) = some 3 := by decide +kernel
theorem cy_X4_own : yX4_own.cls ≠ "java/lang/invoke/MethodHandle" ∧ yX4_own.cls ≠ "java/lang/invoke/VarHandle" ∧ (parseMethodDescriptor yX4_own.desc).map (fun d => d.parameters.length) = some 4 := by decide +kernel
theorem cy_X4_taken : yX4_taken.cls ≠ "java/lang/invoke/MethodHandle" ∧ yX4_taken.cls ≠ "java/lang/invoke/VarHandle" ∧ (parseMethodDescriptor yX4_taken.desc).map (fun d => d.parameters.length) = some 0 := by decide +kernel
theorem cy_X4_put : yX4_put.cls ≠ "java/lang/invoke/MethodHandle" ∧ yX4_put.cls ≠ "java/lang/invoke/VarHandle" ∧ (parseMethodDescriptor yX4_put.desc).map (fun d => d.parameters.length) = some 2 := by decide +kernel
theorem cy_X3_only : yX3_only.cls ≠ "java/lang/invoke/MethodHandle" ∧ yX3_only.cls ≠ "java/lang/invoke/VarHandle" ∧ (parseMethodDescriptor yX3_only.desc).map (fun d => d.parameters.length) = some 2 := by decide +kernel
theorem cy_X5_only : yX5_only.cls ≠ "java/lang/invoke/MethodHandle" ∧ yX5_only.cls ≠ "java/lang/invoke/VarHandle" ∧ (parseMethodDescriptor yX5_only.desc).map (fun d => d.parameters.length) = some 2 := by decide +kernel
theorem cy_X3_state : yX3_state.cls ≠ "java/lang/invoke/MethodHandle" ∧ yX3_state.cls ≠ "java/lang/invoke/VarHandle" ∧ (parseMethodDescriptor yX3_state.desc).map (fun d => d.parameters.length) = some 1 := by decide +kernel
theorem cy_X5_state : yX5_state.cls ≠ "java/lang/invoke/MethodHandle" ∧ yX5_state.cls ≠ "java/lang/invoke/VarHandle" ∧ (parseMethodDescriptor yX5_state.desc).map (fun d => d.parameters.length) = some 1 := by decide +kernel
theorem cy_X3_told : yX3_told.cls ≠ "java/lang/invoke/MethodHandle" ∧ yX3_told.cls ≠ "java/lang/invoke/VarHandle" ∧ (parseMethodDescriptor yX3_told.desc).map (fun d => d.parameters.length) = some 2 := by decide +kernel
theorem cy_X0_tell : yX0_tell.cls ≠ "java/lang/invoke/MethodHandle" ∧ yX0_tell.cls ≠ "java/lang/invoke/VarHandle" ∧ (parseMethodDescriptor yX0_tell.desc).map (fun d => d.parameters.length) = some 1 := by decide +kernel
theorem cy_X5_told : yX5_told.cls ≠ "java/lang/invoke/MethodHandle" ∧ yX5_told.cls ≠ "java/lang/invoke/VarHandle" ∧ (parseMethodDescriptor yX5_told.desc).map (fun d => d.parameters.length) = some 2 := by decide +kernel
theorem cy_X3_peek : yX3_peek.cls ≠ "java/lang/invoke/MethodHandle" ∧ yX3_peek.cls ≠ "java/lang/invoke/VarHandle" ∧ (parseMethodDescriptor yX3_peek.desc).map (fun d => d.parameters.length) = some 2 := by decide +kernel
theorem cy_X5_peek : yX5_peek.cls ≠ "java/lang/invoke/MethodHandle" ∧ yX5_peek.cls ≠ "java/lang/invoke/VarHandle" ∧ (parseMethodDescriptor yX5_peek.desc).map (fun d => d.parameters.length) = some 2 := by decide +kernel
theorem cy_X3_disk : yX3_disk.cls ≠ "java/lang/invoke/MethodHandle" ∧ yX3_disk.cls ≠ "java/lang/invoke/VarHandle" ∧ (parseMethodDescriptor yX3_disk.desc).map (fun d => d.parameters.length) = some 2 := by decide +kernel
theorem cy_X5_disk : yX5_disk.cls ≠ "java/lang/invoke/MethodHandle" ∧ yX5_disk.cls ≠ "java/lang/invoke/VarHandle" ∧ (parseMethodDescriptor yX5_disk.desc).map (fun d => d.parameters.length) = some 2 := by decide +kernel
theorem cy_X3_out : yX3_out.cls ≠ "java/lang/invoke/MethodHandle" ∧ yX3_out.cls ≠ "java/lang/invoke/VarHandle" ∧ (parseMethodDescriptor yX3_out.desc).map (fun d => d.parameters.length) = some 2 := by decide +kernel
theorem cy_X0_keptCount : yX0_keptCount.cls ≠ "java/lang/invoke/MethodHandle" ∧ yX0_keptCount.cls ≠ "java/lang/invoke/VarHandle" ∧ (parseMethodDescriptor yX0_keptCount.desc).map (fun d => d.parameters.length) = some 0 := by decide +kernel
theorem cy_X5_out : yX5_out.cls ≠ "java/lang/invoke/MethodHandle" ∧ yX5_out.cls ≠ "java/lang/invoke/VarHandle" ∧ (parseMethodDescriptor yX5_out.desc).map (fun d => d.parameters.length) = some 2 := by decide +kernel
theorem cy_X3_cached : yX3_cached.cls ≠ "java/lang/invoke/MethodHandle" ∧ yX3_cached.cls ≠ "java/lang/invoke/VarHandle" ∧ (parseMethodDescriptor yX3_cached.desc).map (fun d => d.parameters.length) = some 2 := by decide +kernel
theorem cy_X5_cached : yX5_cached.cls ≠ "java/lang/invoke/MethodHandle" ∧ yX5_cached.cls ≠ "java/lang/invoke/VarHandle" ∧ (parseMethodDescriptor yX5_cached.desc).map (fun d => d.parameters.length) = some 2 := by decide +kernel
theorem cy_X3_house : yX3_house.cls ≠ "java/lang/invoke/MethodHandle" ∧ yX3_house.cls ≠ "java/lang/invoke/VarHandle" ∧ (parseMethodDescriptor yX3_house.desc).map (fun d => d.parameters.length) = some 1 := by decide +kernel
theorem cy_X3_countGuests : yX3_countGuests.cls ≠ "java/lang/invoke/MethodHandle" ∧ yX3_countGuests.cls ≠ "java/lang/invoke/VarHandle" ∧ (parseMethodDescriptor yX3_countGuests.desc).map (fun d => d.parameters.length) = some 0 := by decide +kernel
theorem cy_X5_house : yX5_house.cls ≠ "java/lang/invoke/MethodHandle" ∧ yX5_house.cls ≠ "java/lang/invoke/VarHandle" ∧ (parseMethodDescriptor yX5_house.desc).map (fun d => d.parameters.length) = some 1 := by decide +kernel
theorem cy_X3_audit : yX3_audit.cls ≠ "java/lang/invoke/MethodHandle" ∧ yX3_audit.cls ≠ "java/lang/invoke/VarHandle" ∧ (parseMethodDescriptor yX3_audit.desc).map (fun d => d.parameters.length) = some 0 := by decide +kernel
theorem cy_X1_countFaults : yX1_countFaults.cls ≠ "java/lang/invoke/MethodHandle" ∧ yX1_countFaults.cls ≠ "java/lang/invoke/VarHandle" ∧ (parseMethodDescriptor yX1_countFaults.desc).map (fun d => d.parameters.length) = some 1 := by decide +kernel
theorem cy_X1_countWrongUses : yX1_countWrongUses.cls ≠ "java/lang/invoke/MethodHandle" ∧ yX1_countWrongUses.cls ≠ "java/lang/invoke/VarHandle" ∧ (parseMethodDescriptor yX1_countWrongUses.desc).map (fun d => d.parameters.length) = some 1 := by decide +kernel
theorem cy_X1_countWrongSheets : yX1_countWrongSheets.cls ≠ "java/lang/invoke/MethodHandle" ∧ yX1_countWrongSheets.cls ≠ "java/lang/invoke/VarHandle" ∧ (parseMethodDescriptor yX1_countWrongSheets.desc).map (fun d => d.parameters.length) = some 0 := by decide +kernel
theorem cy_X1_countDifferent : yX1_countDifferent.cls ≠ "java/lang/invoke/MethodHandle" ∧ yX1_countDifferent.cls ≠ "java/lang/invoke/VarHandle" ∧ (parseMethodDescriptor yX1_countDifferent.desc).map (fun d => d.parameters.length) = some 2 := by decide +kernel
theorem cy_X1_countWrongFrames : yX1_countWrongFrames.cls ≠ "java/lang/invoke/MethodHandle" ∧ yX1_countWrongFrames.cls ≠ "java/lang/invoke/VarHandle" ∧ (parseMethodDescriptor yX1_countWrongFrames.desc).map (fun d => d.parameters.length) = some 0 := by decide +kernel
theorem cy_X1_countWrongFree : yX1_countWrongFree.cls ≠ "java/lang/invoke/MethodHandle" ∧ yX1_countWrongFree.cls ≠ "java/lang/invoke/VarHandle" ∧ (parseMethodDescriptor yX1_countWrongFree.desc).map (fun d => d.parameters.length) = some 0 := by decide +kernel
theorem cy_X0_countFaults : yX0_countFaults.cls ≠ "java/lang/invoke/MethodHandle" ∧ yX0_countFaults.cls ≠ "java/lang/invoke/VarHandle" ∧ (parseMethodDescriptor yX0_countFaults.desc).map (fun d => d.parameters.length) = some 0 := by decide +kernel
theorem cy_X5_audit : yX5_audit.cls ≠ "java/lang/invoke/MethodHandle" ∧ yX5_audit.cls ≠ "java/lang/invoke/VarHandle" ∧ (parseMethodDescriptor yX5_audit.desc).map (fun d => d.parameters.length) = some 0 := by decide +kernel
end
section
set_option maxHeartbeats 4000000 in
set_option maxRecDepth 100000 in
theorem c_fill (l : Launch) (sz0 : Nat) (D : va_G) (cs : Nat → ClassId) (X : Sh) (Z : ZT) (Y : va_W) (c0 i0 n : Nat) (b : Int32) (hm : (c0, i0) ∈ X.2.2.2) (he : ∀ f, Ec cs X c0 i0 f = .inl (cs 0, n, .inl f)) (hn : n < 2 ^ 31) : Ctr l yJ7_fill_53178 (wsM yJ7_fill_53178 cJ7_fill_53178 4 none) ({ frames := 0, cells := 0, slots := 0, locals := 0 } : Room) sz0 D cs [.ref (adr X c0 i0), .int b] X Z Y (Pz X Y (fun Z' v => Z' = upr Z c0 i0 (fun k => if k < n then b else Z c0 i0 k) ∧ v = none)) := by
  refine Ctr.ofW (by decide +kernel) (by intro v hv; simp at hv; rcases hv with rfl | rfl <;> rfl) (Nat.le_of_ble_eq_true rfl) ?_
  intro p e s m below meth c ls C hr hlocks hname hl hN hw
  obtain ⟨hx, hb, hml, hown, hts⟩ := id C
  refine lv_iconst (v := 0) hx hb dJ7_fill_53178_0 (by decide) ?_
  refine w_istore_n hx hb dJ7_fill_53178_1 rfl hl (Nat.le_of_ble_eq_true rfl) (fun ls hl => ?_)
  refine lv_aload_n hx hb dJ7_fill_53178_2 rfl (hl.at rfl) ?_
  refine w_len C hw (c0 := c0) (i0 := i0) (ty := 0) dJ7_fill_53178_3 hm rfl (he _) rfl rfl rfl ?_
  refine w_istore_n hx hb dJ7_fill_53178_4 rfl hl (Nat.le_of_ble_eq_true rfl) (fun ls hl => ?_)
  have loop : ∀ (d j : Nat), j + d = n → ∀ (H : Heap) (locs : List Loc) (ls : Array Slot), lo ls [some (.ref (adr X c0 i0)), some (.int b), some (.int (nI j)), some (.int (nI n))] → Wd sz0 D cs s X (upr Z c0 i0 (fun k => if k < j then b else Z c0 i0 k)) Y H locs → W p l e ({ frames := 0, cells := 0, slots := 0, locals := 0 } : Room) s m ([.ref (adr X c0 i0), .int b] : List Value).toArray below meth c H locs 0 0 (xQ below (CQ sz0 D cs (Pz X Y (fun Z' v => Z' = upr Z c0 i0 (fun k => if k < n then b else Z c0 i0 k) ∧ v = none))) ([.ref (adr X c0 i0), .int b] : List Value).toArray s (Asz sz0)) (F0 m 5 ls []) := by
    intro d
    induction d with
    | zero =>
      intro j hj H locs ls hl hw
      refine lv_iload_n hx hb dJ7_fill_53178_5 rfl (hl.at rfl) ?_
      refine lv_iload_n hx hb dJ7_fill_53178_6 rfl (hl.at rfl) ?_
      refine lv_icmp_ge (tgt := 20) hx hb dJ7_fill_53178_7 (by decide) (fun h7 => ?_) (fun h7 => ?_)
      · have hjn : j = n := by omega
        subst hjn
        exact w_vret C hw hr hlocks dJ7_fill_53178_20 ⟨rfl, rfl, rfl, rfl, rfl, rfl⟩
      · exact absurd (nI_le (show n ≤ j by omega) (by omega)) h7
    | succ d ih =>
      intro j hj H locs ls hl hw
      refine lv_iload_n hx hb dJ7_fill_53178_5 rfl (hl.at rfl) ?_
      refine lv_iload_n hx hb dJ7_fill_53178_6 rfl (hl.at rfl) ?_
      refine lv_icmp_ge (tgt := 20) hx hb dJ7_fill_53178_7 (by decide) (fun h7 => ?_) (fun h7 => ?_)
      · exact absurd h7 (nI_ge (show j < n by omega) hn)
      · refine lv_aload_n hx hb dJ7_fill_53178_10 rfl (hl.at rfl) ?_
        refine lv_iload_n hx hb dJ7_fill_53178_11 rfl (hl.at rfl) ?_
        refine lv_iload_n hx hb dJ7_fill_53178_12 rfl (hl.at rfl) ?_
        refine w_ist C hw (c0 := c0) (i0 := i0) dJ7_fill_53178_13 hm rfl he (vp_in_nI (by omega) hn) (nI_clamp (by omega)) (fun H locs hw => ?_)
        refine w_iinc hx hb dJ7_fill_53178_14 hl rfl rfl (fun ls hl => ?_)
        refine lv_goto (tgt := 5) hx hb dJ7_fill_53178_17 (by decide) ?_
        refine ih (j + 1) (by omega) H locs ls (by rw [← nI_1]; exact hl) ?_
        rw [upr_uu, upr_s] at hw
        have e1 : upd (fun k => if k < j then b else Z c0 i0 k) j b = (fun k => if k < j + 1 then b else Z c0 i0 k) := by
          funext k
          simp only [upd]
          by_cases h1 : k = j
          · rw [if_pos h1, if_pos (by omega)]
          · rw [if_neg h1]
            by_cases h2 : k < j
            · rw [if_pos h2, if_pos (by omega)]
            · rw [if_neg h2, if_neg (by omega)]
        rw [e1] at hw
        exact hw
  refine loop n 0 (by omega) _ _ _ hl ?_
  have e0 : upr Z c0 i0 (fun k => if k < 0 then b else Z c0 i0 k) = Z := upr_id
  rw [e0]
  exact hw
end
section
/-! ===== rows that make: an int array, and the host's two rows that are made anew ===== -/
theorem va_P.mem {D : va_G} {cl : List vw_C} {ws : va_W} {H : Heap} (h : va_P D cl ws H) {q : Nat × va_E} (hq : q ∈ ws) : va_at D cl q H := by
  obtain ⟨k, hk⟩ := List.getElem?_of_mem hq
  exact h k q hk
theorem va_P.of_mem {D : va_G} {cl : List vw_C} {ws : va_W} {H : Heap} (h : ∀ q ∈ ws, va_at D cl q H) : va_P D cl ws H := fun _ q hk => h q (List.mem_of_getElem? hk)
/-- a world whose cells stand, place by place, at the addresses of another's different places -/
theorem vD_by {A : Nat → Prop} {ws ws' : va_W} (h : va_D A ws) (g : Nat → Nat) (hi : ∀ i j : Nat, i < ws'.length → j < ws'.length → g i = g j → i = j) (hg : ∀ (k : Nat) (q : Nat × va_E), ws'[k]? = some q → ∃ q', ws[g k]? = some q' ∧ q'.1 = q.1) : va_D A ws' := by
  refine ⟨fun i j x y hx hy hxy => ?_, fun k q hk => ?_⟩
  · obtain ⟨x', h1, h2⟩ := hg i x hx
    obtain ⟨y', h3, h4⟩ := hg j y hy
    exact hi i j (List.getElem?_eq_some_iff.mp hx).1 (List.getElem?_eq_some_iff.mp hy).1 (h.1 _ _ x' y' h1 h3 (h2.trans (hxy.trans h4.symm)))
  · obtain ⟨q', h1, h2⟩ := hg k q hk
    rw [← h2]
    exact h.2 _ q' h1
abbrev lcell (cs : Nat → ClassId) (q N : Nat) (f : Nat → Int32) : Nat × va_E := (q, .inl (cs 0, N, .inl f))
section WN
variable {p : Program} {l : Launch} {e : Env} {R : Room} {s : State} {m : MethodId} {args : Array Value} {below : List Frame} {meth : Method} {c : Code} {H : Heap} {locs : List Loc} {cells slots : Nat} {Q : State → Prop}
variable {cc : ByteArray} {pc nL : Nat} {ls : Array Slot} {rest : List Value} {own : String}
variable {sz0 : Nat} {D : va_G} {cs : Nat → ClassId} {X : Sh} {Z : ZT} {Y : va_W}
theorem Wd.hA {H : Heap} {locs : List Loc} (hw : Wd sz0 D cs s X Z Y H locs) : ∀ q, s.heap.size ≤ q → Asz sz0 q := fun _ h => Nat.le_trans hw.2.2.2.2 h
theorem w_newi (C : CallFix p m c cc nL s args wsA own) (hw : Wd sz0 D cs s X Z Y H locs) {n : Int32} {N : Nat} (hn : ¬ n < 0) (hN : n.toNatClampNeg = N) (hbytes : N * 4 ≤ 536870912) (hcells : cells + 1 ≤ R.cells) (hslots : slots + N ≤ R.slots) (hdg : decode cc pc = .ok (.newarray .int, 2))
    (kk : ∀ (q : Nat) (H1 : Heap), Wd sz0 D cs s X Z (Y ++ [lcell cs q N (fun _ => 0)]) H1 locs → W p l e R s m args below meth c H1 locs (cells + 1) (slots + N) Q (F0 m (pc + 2) ls (.ref q :: rest))) :
    W p l e R s m args below meth c H locs cells slots Q (F0 m pc ls (.int n :: rest)) := by
  obtain ⟨hx, hb, hml, hown, hts⟩ := C
  have hA := hw.hA
  obtain ⟨hK, hP, hD, hS, hsz⟩ := hw
  refine va_newa hx hb (atype := .int) (ty := .int) (hts _ mw26) rfl hK hP hD hS hA (a0 := (N, .inl (fun _ => 0))) (fun _ => rfl) hn hN hbytes hcells hslots hdg (fun q cA H1 k1 k2 k3 k4 => ?_)
  have e1 : va_RA s cA .int := (k1.2 4 (cA, .int) rfl).2
  have e2 : va_RA s (cs 0) .int := (hK.2 0 (cs 0, .int) rfl).2
  have e3 : cA = cs 0 := Option.some.inj (Eq.trans (Eq.symm (show s.vm.findClass _ = some cA from e1)) (show s.vm.findClass _ = some (cs 0) from e2))
  subst e3
  rw [List.append_assoc] at k2 k3
  exact kk q H1 ⟨hK, k2, k3, k4, hsz⟩
/-- the shape behind: the row of kind c0 (3 or 4) is the cell q, of N places -/
abbrev shM (X : Sh) (c0 q N : Nat) : Sh := (X.1, va_up (va_up X.2.1 (c0 + 10) q) c0 N, X.2.2)
theorem shM_adr {c0 q N : Nat} (hc : c0 = 3 ∨ c0 = 4) {c i : Nat} (h : c ≠ c0) : adr (shM X c0 q N) c i = adr X c i := by
  unfold adr
  rcases hc with rfl | rfl
  · split <;> first | rfl | (exfalso; exact h rfl) | simp [va_up]
  · split <;> first | rfl | (exfalso; exact h rfl) | simp [va_up]
theorem shM_adrS {c0 q N i : Nat} (hc : c0 = 3 ∨ c0 = 4) : adr (shM X c0 q N) c0 i = q := by
  rcases hc with rfl | rfl <;> simp [adr, va_up]
theorem shM_Ec {c0 q N : Nat} (hc : c0 = 3 ∨ c0 = 4) {c i : Nat} {z : Nat → Int32} (h : c ≠ c0) (h2 : c ≠ 2) : Ec cs (shM X c0 q N) c i z = Ec cs X c i z := by
  unfold Ec
  rcases hc with rfl | rfl
  · split <;> first | rfl | (exfalso; exact h rfl) | (exfalso; exact h2 rfl) | simp [va_up]
  · split <;> first | rfl | (exfalso; exact h rfl) | (exfalso; exact h2 rfl) | simp [va_up]
theorem shM_EcS {c0 q N i : Nat} {z : Nat → Int32} (hc : c0 = 3 ∨ c0 = 4) : Ec cs (shM X c0 q N) c0 i z = .inl (cs 0, N, .inl z) := by
  rcases hc with rfl | rfl <;> simp [Ec, va_up]
theorem wl_swap {c0 : Nat} (hc : c0 = 3 ∨ c0 = 4) {A : Nat → Prop} {q0 q N : Nat} {f : Nat → Int32} {e2 : va_E} (hX2 : (2, 0) ∈ X.2.2.2) (h1 : ∀ i, (c0, i) ∈ X.2.2.2 → i = 0) (h2 : ∀ i, (2, i) ∈ X.2.2.2 → i = 0)
    (hq0 : (Wl cs X Z ++ (Y ++ [lcell cs q N f]))[q0]? = some (adr X 2 0, Ec cs X 2 0 (Z 2 0)))
    (hD0 : va_D A (Wl cs X Z ++ (Y ++ [lcell cs q N f])))
    (he2 : Ec cs (shM X c0 q N) 2 0 (Z 2 0) = e2) {H : Heap}
    (hP : va_P D vwCl ((Wl cs X Z ++ (Y ++ [lcell cs q N f])).set q0 (adr X 2 0, e2)) H) :
    va_P D vwCl (Wl cs (shM X c0 q N) (upr Z c0 0 f) ++ Y) H ∧ va_D A (Wl cs (shM X c0 q N) (upr Z c0 0 f) ++ Y) := by
  have hlen : q0 < (Wl cs X Z ++ (Y ++ [lcell cs q N f])).length := (List.getElem?_eq_some_iff.mp hq0).1
  have hc2 : (2 : Nat) ≠ c0 := by rcases hc with rfl | rfl <;> decide
  have hset : ∀ (k : Nat) (x : Nat × va_E), (Wl cs X Z ++ (Y ++ [lcell cs q N f]))[k]? = some x → x.1 ≠ adr X 2 0 → va_at D vwCl x H := fun k x hk hne => by
    refine hP k x ?_
    rw [List.getElem?_set_ne, hk]
    intro e
    subst e
    rw [hq0] at hk
    cases hk
    exact hne rfl
  have hlast : (Wl cs X Z ++ (Y ++ [lcell cs q N f]))[X.2.2.2.length + Y.length]? = some (lcell cs q N f) := by
    rw [List.getElem?_append_right (by rw [wl_len]; omega), wl_len, List.getElem?_append_right (by omega)]
    simp
  have hpos : ∀ {k c i : Nat}, X.2.2.2[k]? = some (c, i) → (Wl cs X Z ++ (Y ++ [lcell cs q N f]))[k]? = some (adr X c i, Ec cs X c i (Z c i)) := fun h => wl_at h
  have hY : ∀ {k : Nat} {x : Nat × va_E}, Y[k]? = some x → (Wl cs X Z ++ (Y ++ [lcell cs q N f]))[X.2.2.2.length + k]? = some x := fun {k x} h => by
    have hl := (List.getElem?_eq_some_iff.mp h).1
    rw [List.getElem?_append_right (by rw [wl_len]; omega), wl_len, List.getElem?_append_left (by omega)]
    rw [show X.2.2.2.length + k - X.2.2.2.length = k by omega]
    exact h
  obtain ⟨k2, hk2⟩ := List.getElem?_of_mem hX2
  have e02 : q0 = k2 := hD0.1 _ _ _ _ hq0 (hpos hk2) rfl
  have hk2l := (List.getElem?_eq_some_iff.mp hk2).1
  refine ⟨va_P.of_mem fun x hx => ?_, ?_⟩
  · rcases List.mem_append.mp hx with hx | hx
    · obtain ⟨⟨c, i⟩, hr, rfl⟩ := List.mem_map.mp hx
      obtain ⟨k, hk⟩ := List.getElem?_of_mem hr
      dsimp only
      by_cases hcc : c = c0
      · subst hcc
        obtain rfl := h1 i hr
        rw [shM_adrS hc, upr_s, shM_EcS hc]
        refine hset _ _ hlast fun e => ?_
        have := hD0.1 _ _ _ _ hlast hq0 e
        omega
      · by_cases h3 : c = 2
        · subst h3
          obtain rfl := h2 i hr
          rw [shM_adr hc hcc, upr_k hcc, he2]
          have := hP q0 (adr X 2 0, e2) (by rw [List.getElem?_set_self hlen])
          exact this
        · rw [shM_adr hc hcc, upr_k hcc, shM_Ec hc hcc h3]
          refine hset _ _ (hpos hk) fun e => ?_
          have := hD0.1 _ _ _ _ (hpos hk) (hpos hk2) e
          subst this
          rw [hk] at hk2
          cases hk2
          exact h3 rfl
    · obtain ⟨k, hk⟩ := List.getElem?_of_mem hx
      refine hset _ _ (hY hk) fun e => ?_
      have := hD0.1 _ _ _ _ (hY hk) (hpos hk2) e
      omega
  · refine vD_by hD0 (fun k => if (X.2.2.2[k]?).map Prod.fst = some c0 then X.2.2.2.length + Y.length else k) ?_ ?_
    · intro i j hi hj hij
      have hl : (Wl cs (shM X c0 q N) (upr Z c0 0 f) ++ Y).length = X.2.2.2.length + Y.length := by rw [List.length_append, wl_len]
      rw [hl] at hi hj
      try dsimp only at hij
      have one : ∀ a b : Nat, (X.2.2.2[a]?).map Prod.fst = some c0 → (X.2.2.2[b]?).map Prod.fst = some c0 → a = b := by
        intro a b ha hb
        have get : ∀ a : Nat, (X.2.2.2[a]?).map Prod.fst = some c0 → X.2.2.2[a]? = some (c0, 0) := by
          intro a ha
          cases hx : X.2.2.2[a]? with
          | none => rw [hx] at ha; cases ha
          | some r =>
            obtain ⟨c, i⟩ := r
            rw [hx] at ha
            simp at ha
            subst ha
            rw [h1 i (List.mem_of_getElem? hx)]
        exact hD0.1 _ _ _ _ (hpos (get a ha)) (hpos (get b hb)) rfl
      split at hij <;> split at hij
      · exact one _ _ (by assumption) (by assumption)
      · omega
      · omega
      · exact hij
    · intro k x hk
      by_cases hkl : k < X.2.2.2.length
      · obtain ⟨r, hr⟩ : ∃ r, X.2.2.2[k]? = some r := ⟨_, List.getElem?_eq_getElem hkl⟩
        obtain ⟨c, i⟩ := r
        rw [wl_at (X := shM X c0 q N) hr] at hk
        cases hk
        dsimp only
        by_cases hcc : c = c0
        · subst hcc
          rw [if_pos (by rw [hr]; rfl)]
          exact ⟨_, hlast, (shM_adrS hc).symm⟩
        · rw [if_neg (by rw [hr]; simp; exact hcc)]
          exact ⟨_, hpos hr, (shM_adr hc hcc).symm⟩
      · rw [List.getElem?_append_right (by rw [wl_len]; exact Nat.le_of_not_lt hkl), wl_len] at hk
        try dsimp only
        rw [if_neg (by rw [List.getElem?_eq_none (Nat.le_of_not_lt hkl)]; simp)]
        refine ⟨x, ?_, rfl⟩
        have := hY hk
        rw [show X.2.2.2.length + (k - (shM X c0 q N).2.2.2.length) = k by show X.2.2.2.length + (k - X.2.2.2.length) = k; omega] at this
        exact this
/-- putfield of the host's memory or room -/
theorem w_putM (C : CallFix p m c cc nL s args wsA own) {c0 q N k0 : Nat} {f : Nat → Int32} (hw : Wd sz0 D cs s X Z (Y ++ [lcell cs q N f]) H locs) (hc : c0 = 3 ∨ c0 = 4) (hk0 : k0 = c0 + 1) {index : Nat} (hlk : Cond.fieldLink own index "GuestHouse$Host" (TX1 k0).2.1 (TX1 k0).2.2.1 ∈ wsA) (hdg : decode cc pc = .ok (.putfield index, 3)) (hX2 : (2, 0) ∈ X.2.2.2) (h1 : ∀ i, (c0, i) ∈ X.2.2.2 → i = 0) (h2 : ∀ i, (2, i) ∈ X.2.2.2 → i = 0)
    (kk : ∀ (H1 : Heap) (locs1 : List Loc), Wd sz0 D cs s (shM X c0 q N) (upr Z c0 0 f) Y H1 locs1 → W p l e R s m args below meth c H1 locs1 cells slots Q (F0 m (pc + 3) ls rest)) : W p l e R s m args below meth c H locs cells slots Q (F0 m pc ls (.ref q :: .ref (X.1 2 0) :: rest)) := by
  obtain ⟨hx, hb, -, hown, hts⟩ := C
  obtain ⟨hK, hP, hD, hS, hsz⟩ := hw
  obtain ⟨q0, hq⟩ := wl_pos (cs := cs) (Z := Z) (Y := Y ++ [lcell cs q N f]) hX2
  have hq2 := hq
  rw [show Ec cs X 2 0 (Z 2 0) = .inr (1, [.int (Z 2 0 0), .int (Z 2 0 1), .int (Z 2 0 2), .int (Z 2 0 3), .ref (X.2.1 13), .ref (X.2.1 14), .ref (X.1 5 0), .ref (X.1 6 0), .ref (X.1 7 0), .ref (X.1 8 0), .ref (X.1 9 0), .ref (X.1 10 0), .ref (X.1 11 0)]) from rfl] at hq2
  have hkN : k0 < 13 := by rcases hc with rfl | rfl <;> subst hk0 <;> decide
  refine va_put (ref := "GuestHouse$Host") (ty := .array .int) (v := .ref q) hx hb hts inA1 tyX1 tyX1_ok nmX1 hown hK hP hD hS q0 hq2 rfl k0 hkN (hts _ hlk) ?_ ?_ ?_ rfl rfl ?_ hdg (fun H1 locs1 g1 g2 g3 => ?_)
  · rcases hc with rfl | rfl <;> subst hk0 <;> exact fun _ h => h
  · rcases hc with rfl | rfl <;> subst hk0 <;> rfl
  · rcases hc with rfl | rfl <;> subst hk0 <;> decide +kernel
  · rcases hc with rfl | rfl <;> subst hk0 <;> exact Nat.le_of_ble_eq_true rfl
  · obtain ⟨a1, a2⟩ := wl_swap (D := D) (e2 := .inr (1, ([.int (Z 2 0 0), .int (Z 2 0 1), .int (Z 2 0 2), .int (Z 2 0 3), .ref (X.2.1 13), .ref (X.2.1 14), .ref (X.1 5 0), .ref (X.1 6 0), .ref (X.1 7 0), .ref (X.1 8 0), .ref (X.1 9 0), .ref (X.1 10 0), .ref (X.1 11 0)] : List Value).set k0 (.ref q))) hc hX2 h1 h2 hq hD (by rcases hc with rfl | rfl <;> subst hk0 <;> rfl) g1
    exact kk H1 locs1 ⟨hK, a1, a2, g3, hsz⟩
end WN
end
section
section WL
variable {p : Program} {l : Launch} {e : Env} {R : Room} {s : State} {m : MethodId} {args : Array Value} {below : List Frame} {meth : Method} {c : Code} {H : Heap} {locs : List Loc} {cells slots : Nat} {Q : State → Prop}
variable {cc : ByteArray} {pc nL : Nat} {ls : Array Slot} {rest : List Value} {own : String}
variable {sz0 : Nat} {D : va_G} {cs : Nat → ClassId} {X : Sh} {Z : ZT} {Y : va_W}
/-- arraycopy into the row that lies last -/
theorem w_cpyL (C : CallFix p m c cc nL s args wsA own) {q N : Nat} {f : Nat → Int32} (hw : Wd sz0 D cs s X Z (Y ++ [lcell cs q N f]) H locs) {index c0 i0 n0 : Nat} {sp dp n : Int32} (hlk : Cond.methodLink own index arraycopyName ∈ wsA) (hdg : decode cc pc = .ok (.invokestatic index, 3))
    (hm0 : (c0, i0) ∈ X.2.2.2) {a0 : Nat} (ha0 : adr X c0 i0 = a0) (he0 : Ec cs X c0 i0 (Z c0 i0) = .inl (cs 0, n0, .inl (Z c0 i0)))
    (h1 : ¬ sp < 0) (h2 : ¬ dp < 0) (h3 : ¬ n < 0) {js jd jn : Nat} (hjs : sp.toNatClampNeg = js) (hjd : dp.toNatClampNeg = jd) (hjn : n.toNatClampNeg = jn) (h4 : js + jn ≤ n0) (h5 : jd + jn ≤ N) (hsz : ls.size = nL) (hfr : 1 ≤ R.frames) (hlo : (rest.map fun v => v.category).sum + 18 ≤ R.locals)
    (kk : ∀ (H1 : Heap) (locs1 : List Loc), Wd sz0 D cs s X Z (Y ++ [lcell cs q N (va_cpy (Z c0 i0) f js jd jn)]) H1 locs1 → W p l e R s m args below meth c H1 locs1 cells slots Q (F0 m (pc + 3) ls rest)) :
    W p l e R s m args below meth c H locs cells slots Q (F0 m pc ls (.int n :: .int dp :: .ref q :: .int sp :: .ref a0 :: rest)) := by
  subst ha0; subst hjs; subst hjd; subst hjn
  obtain ⟨hx, hb, hml, hown, hts⟩ := C
  obtain ⟨hK, hP, hD, hS, hz⟩ := hw
  obtain ⟨q0, hq0⟩ := wl_pos (cs := cs) (Z := Z) (Y := Y ++ [lcell cs q N f]) hm0
  rw [he0] at hq0
  have hlast : (Wl cs X Z ++ (Y ++ [lcell cs q N f]))[X.2.2.2.length + Y.length]? = some (lcell cs q N f) := by
    rw [List.getElem?_append_right (by rw [wl_len]; omega), wl_len, List.getElem?_append_right (by omega)]
    simp
  refine va_copyi hx hb (hml.trans hsz.symm) hown (hts _ hlk) (hts _ mw196) (hts _ mw197) (hts _ mw198) hK hP hD hS q0 _ 0 0 (ty := .int) hq0 hlast rfl rfl rfl h1 h2 h3 h4 h5 (fun _ _ => rfl) hfr hlo hdg (fun H1 locs1 k1 k2 k3 => ?_)
  have es : (Wl cs X Z ++ (Y ++ [lcell cs q N f])).set (X.2.2.2.length + Y.length) (lcell cs q N (va_cpy (Z c0 i0) f sp.toNatClampNeg dp.toNatClampNeg n.toNatClampNeg)) = Wl cs X Z ++ (Y ++ [lcell cs q N (va_cpy (Z c0 i0) f sp.toNatClampNeg dp.toNatClampNeg n.toNatClampNeg)]) := by
    rw [List.set_append_right _ _ (by rw [wl_len]; omega), wl_len, List.set_append_right _ _ (by omega)]
    simp
  rw [es] at k1 k2
  exact kk H1 locs1 ⟨hK, k1, k2, k3, hz⟩
end WL

set_option maxHeartbeats 4000000 in
set_option maxRecDepth 100000 in
theorem c_copyOf (l : Launch) (sz0 : Nat) (D : va_G) (cs : Nat → ClassId) (X : Sh) (Z : ZT) (Y : va_W) (c0 i0 n n2 kc ks : Nat) (hm : (c0, i0) ∈ X.2.2.2) (he : ∀ f, Ec cs X c0 i0 f = .inl (cs 0, n, .inl f)) (hn : n < n2) (hn2 : n2 ≤ 32832) (hkc : 1 ≤ kc) (hks : n2 ≤ ks) : Ctr l yJ7_copyOf_59c91 (wsM yJ7_copyOf_59c91 cJ7_copyOf_59c91 3 (some (.array .int))) ({ frames := 1, cells := kc, slots := ks, locals := 26 } : Room) sz0 D cs [.ref (adr X c0 i0), .int (nI n2)] X Z Y (fun X' Z' Y' v k m => X = X' ∧ Z = Z' ∧ k = 1 ∧ n2 = m ∧ ∃ q, v = some (.ref q) ∧ Y' = Y ++ [lcell cs q n2 (fun j => if j < n then Z c0 i0 j else 0)]) := by
  refine Ctr.ofW (by decide +kernel) (by intro v hv; simp at hv; rcases hv with rfl | rfl <;> rfl) (Nat.le_of_ble_eq_true rfl) ?_
  intro p e s m below meth c ls C hr hlocks hname hl hN hw
  obtain ⟨hx, hb, hml, hown, hts⟩ := id C
  have hb31 : n2 < 2 ^ 31 := by omega
  refine lv_iload_n hx hb dJ7_copyOf_59c91_0 rfl (hl.at rfl) ?_
  refine lv_aload_n hx hb dJ7_copyOf_59c91_1 rfl (hl.at rfl) ?_
  refine w_len C hw (c0 := c0) (i0 := i0) (ty := 0) dJ7_copyOf_59c91_2 hm rfl (he _) rfl rfl rfl ?_
  refine lv_icmp_ne (tgt := 14) hx hb dJ7_copyOf_59c91_3 (by decide) (fun h3 => ?_) (fun h3 => ?_)
  · refine lv_iload_n hx hb dJ7_copyOf_59c91_14 rfl (hl.at rfl) ?_
    refine w_newi C hw (nI_pos hb31) (nI_clamp hb31) (by omega) (by show 0 + 1 ≤ kc; omega) (by show 0 + n2 ≤ ks; omega) dJ7_copyOf_59c91_15 (fun q H hw => ?_)
    refine w_astore_n hx hb dJ7_copyOf_59c91_17 rfl hl (Nat.le_of_ble_eq_true rfl) (fun ls hl => ?_)
    refine lv_aload_n hx hb dJ7_copyOf_59c91_18 rfl (hl.at rfl) ?_
    refine lv_iconst (v := 0) hx hb dJ7_copyOf_59c91_19 (by decide) ?_
    refine lv_aload_n hx hb dJ7_copyOf_59c91_20 rfl (hl.at rfl) ?_
    refine lv_iconst (v := 0) hx hb dJ7_copyOf_59c91_21 (by decide) ?_
    refine lv_aload_n hx hb dJ7_copyOf_59c91_22 rfl (hl.at rfl) ?_
    refine w_len C hw (c0 := c0) (i0 := i0) (ty := 0) dJ7_copyOf_59c91_23 hm rfl (he _) rfl rfl rfl ?_
    refine lv_iload_n hx hb dJ7_copyOf_59c91_24 rfl (hl.at rfl) ?_
    refine va_mmin hx hb (hml.trans hl.1.1.symm) hown (hts _ mw216) (hts _ mw217) (hts _ mw218) (hts _ mw219) (Nat.le_of_ble_eq_true rfl) (Nat.le_of_ble_eq_true rfl) (by show 0 + 1 ≤ kc; omega) (by show 0 + n2 ≤ ks; omega) dJ7_copyOf_59c91_25 ?_
    rw [if_neg (show ¬ nI n2 < Int32.ofNat n from nI_nlt (Nat.le_of_lt hn) hb31)]
    refine w_cpyL C hw (c0 := c0) (i0 := i0) mw220 dJ7_copyOf_59c91_28 hm rfl (he _) (by decide) (by decide) (show ¬ nI n < 0 from nI_pos (by omega)) (js := 0) (jd := 0) (jn := n) (by decide) (by decide) (nI_clamp (by omega)) (by omega) (by omega) hl.1.1 (Nat.le_of_ble_eq_true rfl) (Nat.le_of_ble_eq_true rfl) (fun H locs hw => ?_)
    refine lv_aload_n hx hb dJ7_copyOf_59c91_31 rfl (hl.at rfl) ?_
    have ef : va_cpy (Z c0 i0) (fun _ => (0 : Int32)) 0 0 n = (fun j => if j < n then Z c0 i0 j else 0) := by
      funext j
      simp only [va_cpy]
      by_cases h : j < n
      · rw [if_pos (by omega), if_pos h]
        congr 1
        omega
      · rw [if_neg (by omega), if_neg h]
    rw [ef] at hw
    exact w_aret C hw hr (Or.inr ⟨_, rfl⟩) (Or.inr ⟨_, rfl⟩) hlocks dJ7_copyOf_59c91_32 ⟨rfl, rfl, rfl, by show n2 = 0 + n2; omega, q, rfl, rfl⟩
  · exact absurd h3 (fun h => by have := (nI_eq hb31 (show n < 2 ^ 31 by omega)).mp h; omega)
end
section
/-! ===== the host: what its tables say ===== -/
def HUI (X : Sh) : Prop := ∀ c i, c ≤ 12 → (c, i) ∈ X.2.2.2 → i = 0
/-- word k of sheet s -/
def scn (Z : ZT) (s k : Nat) : Int32 := if Z 8 0 s = -1 then Z 4 0 (64 * s + k) else Z 3 0 (64 * (Z 8 0 s).toNatClampNeg + k)
/-- the host's frames, sheets, and what is put away: h frames, o opened, the hand at hd; memory and room may grow g3 and g4 times more -/
def HA (X : Sh) (Z : ZT) (h o hd g3 g4 : Nat) : Prop :=
  (4 ≤ h ∧ h ≤ 256 ∧ o ≤ h ∧ hd < h) ∧
  (Z 2 0 0 = nI h ∧ Z 2 0 1 = nI o ∧ Z 2 0 2 = nI hd) ∧
  (64 * o ≤ X.2.1 3 ∧ 256 ≤ X.2.1 3 ∧ X.2.1 3 < 32768 ∧ 16384 ≤ X.2.1 3 * 2 ^ g3) ∧
  (256 ≤ X.2.1 4 ∧ X.2.1 4 ≤ 32832 ∧ 32832 ≤ X.2.1 4 * 2 ^ g4) ∧
  (∀ s, s < 513 → Z 8 0 s = -1 ∨ ∃ f, f < o ∧ Z 8 0 s = nI f ∧ Z 5 0 f = nI s ∧ 64 * (s + 1) ≤ X.2.1 4) ∧
  (∀ f, f < 256 → Z 5 0 f = -1 ∨ ∃ s, s < 513 ∧ f < o ∧ Z 5 0 f = nI s ∧ Z 8 0 s = nI f) ∧
  (∀ s, s < 513 → Z 9 0 s = 0 ∨ (Z 9 0 s = 1 ∧ Z 8 0 s ≠ -1 ∧ s ≠ 0)) ∧
  (∀ s f k, s < 513 → f < o → k < 64 → Z 8 0 s = nI f → Z 9 0 s = 0 → Z 3 0 (64 * f + k) = Z 4 0 (64 * s + k)) ∧
  (∀ k, k < 64 → Z 4 0 k = 0)
theorem nI_ne_m1 {n : Nat} (h : n < 2 ^ 31) : nI n ≠ -1 := by
  intro e
  have h1 := nI_toInt h
  rw [e] at h1
  have : (-1 : Int32).toInt = -1 := by decide
  omega
theorem nI_inj {a b : Nat} (ha : a < 2 ^ 31) (hb : b < 2 ^ 31) (h : nI a = nI b) : a = b := (nI_eq ha hb).mp h
theorem upd_s {f : Nat → Int32} {k : Nat} {x : Int32} : upd f k x k = x := pk_us
theorem upd_n {f : Nat → Int32} {k j : Nat} {x : Int32} (h : j ≠ k) : upd f k x j = f j := pk_un h
theorem upd_uu {f : Nat → Int32} {k : Nat} {x y : Int32} : upd (upd f k x) k y = upd f k y := by
  funext j
  by_cases h : j = k
  · subst h; rw [upd_s, upd_s]
  · rw [upd_n h, upd_n h, upd_n h]
theorem scn_away {Z : ZT} {s k : Nat} (h : Z 8 0 s = -1) : scn Z s k = Z 4 0 (64 * s + k) := by simp [scn, h]
theorem scn_mem {Z : ZT} {s k f : Nat} (hf : f < 2 ^ 31) (h : Z 8 0 s = nI f) : scn Z s k = Z 3 0 (64 * f + k) := by
  unfold scn
  rw [if_neg (by rw [h]; exact nI_ne_m1 hf), h, nI_clamp hf]
/-- the clock's state within a search: only the hand and the marks have moved -/
def tfZ (Z : ZT) (r : Nat → Int32) (x : Nat) : ZT := upr (upr Z 6 0 r) 2 0 (upd (Z 2 0) 2 (nI x))
theorem tfZ_put {Z : ZT} {r : Nat → Int32} {x y : Nat} : upr (tfZ Z r x) 2 0 (upd (tfZ Z r x 2 0) 2 (nI y)) = tfZ Z r y := by
  unfold tfZ
  rw [upr_uu, upr_s, upd_uu]
theorem tfZ_rec {Z : ZT} {r : Nat → Int32} {x f : Nat} {v : Int32} : upr (tfZ Z r x) 6 0 (upd (tfZ Z r x 6 0) f v) = tfZ Z (upd r f v) x := by
  unfold tfZ
  rw [upr_cm (by decide), upr_uu, upr_k (show (6 : Nat) ≠ 2 by decide), upr_s]
theorem tfZ_o {Z : ZT} {r : Nat → Int32} {x c i : Nat} (h2 : c ≠ 2) (h6 : c ≠ 6) : tfZ Z r x c i = Z c i := by
  unfold tfZ
  rw [upr_k h2, upr_k h6]
theorem tfZ_6 {Z : ZT} {r : Nat → Int32} {x : Nat} : tfZ Z r x 6 0 = r := by
  unfold tfZ
  rw [upr_k (by decide), upr_s]
theorem tfZ_2 {Z : ZT} {r : Nat → Int32} {x : Nat} : tfZ Z r x 2 0 = upd (Z 2 0) 2 (nI x) := by
  unfold tfZ
  rw [upr_s]
theorem tfZ_HA {X : Sh} {Z : ZT} {h o hd g3 g4 : Nat} {r : Nat → Int32} {x : Nat} (H : HA X Z h o hd g3 g4) (hx : x < h) : HA X (tfZ Z r x) h o x g3 g4 := by
  obtain ⟨⟨a1, a2, a3, a4⟩, ⟨b1, b2, b3⟩, c1, c2, c3, c4, c5, c6, c7⟩ := H
  refine ⟨⟨a1, a2, a3, hx⟩, ?_, c1, c2, ?_, ?_, ?_, ?_, ?_⟩
  · rw [tfZ_2]
    exact ⟨by rw [upd_n (by decide)]; exact b1, by rw [upd_n (by decide)]; exact b2, upd_s⟩
  all_goals simp only [tfZ_o (Z := Z) (r := r) (x := x) (c := 3) (by decide) (by decide), tfZ_o (Z := Z) (r := r) (x := x) (c := 4) (by decide) (by decide), tfZ_o (Z := Z) (r := r) (x := x) (c := 5) (by decide) (by decide), tfZ_o (Z := Z) (r := r) (x := x) (c := 8) (by decide) (by decide), tfZ_o (Z := Z) (r := r) (x := x) (c := 9) (by decide) (by decide)]
  · exact c3
  · exact c4
  · exact c5
  · exact c6
  · exact c7
theorem tfZ_scn {Z : ZT} {r : Nat → Int32} {x s k : Nat} : scn (tfZ Z r x) s k = scn Z s k := by
  unfold scn
  rw [tfZ_o (c := 8) (by decide) (by decide), tfZ_o (c := 4) (by decide) (by decide), tfZ_o (c := 3) (by decide) (by decide)]
/-- rows that finding a frame may touch -/
def tfR (c i : Nat) : Prop := i = 0 ∧ (c = 2 ∨ c = 3 ∨ c = 4 ∨ c = 5 ∨ c = 6 ∨ c = 8 ∨ c = 9)
/-- what a search for a frame leaves: frame f is free, no word of a sheet has changed, the frame kp is as it was -/
def TF (X : Sh) (Z : ZT) (h o g3 g4 : Nat) (kp : Int32) (X' : Sh) (Z' : ZT) (f k n : Nat) : Prop :=
  ∃ (V : Nat → Nat) (o' hd' g3' : Nat), X' = (X.1, V, X.2.2) ∧ V 4 = X.2.1 4 ∧ V 14 = X.2.1 14 ∧ nI f ≠ kp ∧ f < o' ∧ o ≤ o' ∧ HA X' Z' h o' hd' g3' g4 ∧ k + g3' ≤ g3 ∧ n ≤ 32768 * k ∧ Z' 5 0 f = -1 ∧
    (∀ s, s < 513 → Z 8 0 s = kp → Z' 8 0 s = kp ∧ Z' 9 0 s = Z 9 0 s) ∧ (∀ s, s < 513 → Z' 8 0 s = -1 ∨ Z' 8 0 s = Z 8 0 s) ∧ (∀ s j, s < 513 → j < 64 → scn Z' s j = scn Z s j) ∧ (∀ c i, ¬ tfR c i → Z' c i = Z c i) ∧ (∀ j, j ≠ 1 → j ≠ 2 → Z' 2 0 j = Z 2 0 j)
/-- a sheet is put away: its frame is free -/
def evZ (Z : ZT) (f s : Nat) (a : Nat → Int32) : ZT := upr (upr (upr (upr Z 4 0 a) 9 0 (upd (Z 9 0) s 0)) 8 0 (upd (Z 8 0) s (-1))) 5 0 (upd (Z 5 0) f (-1))
theorem evZ_5 {Z : ZT} {f s : Nat} {a : Nat → Int32} : evZ Z f s a 5 0 = upd (Z 5 0) f (-1) := by unfold evZ; rw [upr_s]
theorem evZ_8 {Z : ZT} {f s : Nat} {a : Nat → Int32} : evZ Z f s a 8 0 = upd (Z 8 0) s (-1) := by unfold evZ; rw [upr_k (by decide), upr_s]
theorem evZ_9 {Z : ZT} {f s : Nat} {a : Nat → Int32} : evZ Z f s a 9 0 = upd (Z 9 0) s 0 := by unfold evZ; rw [upr_k (by decide), upr_k (by decide), upr_s]
theorem evZ_4 {Z : ZT} {f s : Nat} {a : Nat → Int32} : evZ Z f s a 4 0 = a := by unfold evZ; rw [upr_k (by decide), upr_k (by decide), upr_k (by decide), upr_s]
theorem evZ_o {Z : ZT} {f s c i : Nat} {a : Nat → Int32} (h4 : c ≠ 4) (h5 : c ≠ 5) (h8 : c ≠ 8) (h9 : c ≠ 9) : evZ Z f s a c i = Z c i := by unfold evZ; rw [upr_k h5, upr_k h8, upr_k h9, upr_k h4]
theorem ev_main {X : Sh} {Z : ZT} {h o hd g3 g4 f s : Nat} {a : Nat → Int32} (H : HA X Z h o hd g3 g4) (hs : s < 513) (hf : f < o) (h5 : Z 5 0 f = nI s) (h8 : Z 8 0 s = nI f)
    (ha : ∀ j, j < 64 → a (64 * s + j) = Z 3 0 (64 * f + j)) (hb : ∀ j, ¬ (64 * s ≤ j ∧ j < 64 * s + 64) → a j = Z 4 0 j) :
    HA X (evZ Z f s a) h o hd g3 g4 ∧ (∀ s' j, s' < 513 → j < 64 → scn (evZ Z f s a) s' j = scn Z s' j) := by
  obtain ⟨⟨a1, a2, a3, a4⟩, ⟨b1, b2, b3⟩, c1, c2, c3, c4, c5, c6, c7⟩ := H
  have hf31 : f < 2 ^ 31 := by omega
  have one : ∀ s', s' < 513 → Z 8 0 s' = nI f → s' = s := by
    intro s' hs' e
    rcases c3 s' hs' with q | ⟨f', hf', e1, e2, -⟩
    · rw [q] at e; exact absurd e.symm (nI_ne_m1 hf31)
    · have : f' = f := nI_inj (by omega) hf31 (e1.symm.trans e)
      subst this
      exact nI_inj (by omega) (by omega) (e2.symm.trans h5)
  refine ⟨⟨⟨a1, a2, a3, a4⟩, ?_, c1, c2, ?_, ?_, ?_, ?_, ?_⟩, ?_⟩
  · rw [evZ_o (by decide) (by decide) (by decide) (by decide)]
    exact ⟨b1, b2, b3⟩
  · intro s' hs'
    rw [evZ_8, evZ_5]
    by_cases e : s' = s
    · subst e; exact Or.inl upd_s
    · rw [upd_n e]
      rcases c3 s' hs' with q | ⟨f', hf', e1, e2, e3⟩
      · exact Or.inl q
      · refine Or.inr ⟨f', hf', e1, ?_, e3⟩
        rw [upd_n]
        · exact e2
        · intro q
          subst q
          exact e (one s' hs' e1)
  · intro f' hf'
    rw [evZ_8, evZ_5]
    by_cases e : f' = f
    · subst e; exact Or.inl upd_s
    · rw [upd_n e]
      rcases c4 f' hf' with q | ⟨s', hs', e0, e1, e2⟩
      · exact Or.inl q
      · refine Or.inr ⟨s', hs', e0, e1, ?_⟩
        rw [upd_n]
        · exact e2
        · intro q
          subst q
          exact e (nI_inj (by omega) hf31 (e2.symm.trans h8))
  · intro s' hs'
    rw [evZ_8, evZ_9]
    by_cases e : s' = s
    · subst e; exact Or.inl upd_s
    · rw [upd_n e, upd_n e]
      exact c5 s' hs'
  · intro s' f' k hs' hf' hk e1 e2
    rw [evZ_8] at e1
    rw [evZ_9] at e2
    rw [evZ_4, evZ_o (by decide) (by decide) (by decide) (by decide)]
    by_cases e : s' = s
    · subst e
      rw [upd_s] at e1
      exact absurd e1.symm (nI_ne_m1 (by omega))
    · rw [upd_n e] at e1 e2
      rw [hb _ (by omega)]
      exact c6 s' f' k hs' hf' hk e1 e2
  · intro k hk
    rw [evZ_4]
    by_cases e : s = 0
    · subst e
      have := ha k hk
      rw [show 64 * 0 + k = k by omega] at this
      rw [this]
      have h0 : Z 9 0 0 = 0 := by
        rcases c5 0 (by omega) with q | ⟨-, -, q⟩
        · exact q
        · exact absurd rfl q
      have := c6 0 f k (by omega) hf hk h8 h0
      rw [show 64 * 0 + k = k by omega] at this
      rw [this]
      exact c7 k hk
    · rw [hb _ (by omega)]
      exact c7 k hk
  · intro s' j hs' hj
    by_cases e : s' = s
    · subst e
      rw [scn_away (by rw [evZ_8, upd_s]), evZ_4, ha j hj, scn_mem hf31 h8]
    · rcases c3 s' hs' with q | ⟨f', hf', e1, -, -⟩
      · rw [scn_away (by rw [evZ_8, upd_n e]; exact q), scn_away q, evZ_4, hb _ (by omega)]
      · rw [scn_mem (by omega) (show evZ Z f s a 8 0 s' = nI f' by rw [evZ_8, upd_n e]; exact e1), scn_mem (by omega) e1, evZ_o (by decide) (by decide) (by decide) (by decide)]
/-- one more frame is opened -/
theorem op_main {X X' : Sh} {Z Z' : ZT} {h o hd g3 g4 g3' : Nat} (H : HA X Z h o hd g3 g4) (ho : o < h) (hV4 : X'.2.1 4 = X.2.1 4) (hV3 : 64 * (o + 1) ≤ X'.2.1 3 ∧ 256 ≤ X'.2.1 3 ∧ X'.2.1 3 < 32768 ∧ 16384 ≤ X'.2.1 3 * 2 ^ g3')
    (h2 : Z' 2 0 = upd (Z 2 0) 1 (nI (o + 1))) (h3 : ∀ j, j < 64 * o → Z' 3 0 j = Z 3 0 j) (hr : ∀ c, c ≠ 2 → c ≠ 3 → Z' c 0 = Z c 0) : HA X' Z' h (o + 1) hd g3' g4 ∧ (∀ s j, s < 513 → j < 64 → scn Z' s j = scn Z s j) ∧ Z' 5 0 o = -1 := by
  obtain ⟨⟨a1, a2, a3, a4⟩, ⟨b1, b2, b3⟩, c1, c2, c3, c4, c5, c6, c7⟩ := H
  have r4 := hr 4 (by decide) (by decide)
  have r5 := hr 5 (by decide) (by decide)
  have r8 := hr 8 (by decide) (by decide)
  have r9 := hr 9 (by decide) (by decide)
  refine ⟨⟨⟨a1, a2, ho, a4⟩, ?_, hV3, by rw [hV4]; exact c2, ?_, ?_, ?_, ?_, ?_⟩, ?_, ?_⟩
  · rw [h2]
    exact ⟨by rw [upd_n (by decide)]; exact b1, upd_s, by rw [upd_n (by decide)]; exact b3⟩
  · intro s hs
    rw [r8, r5, hV4]
    rcases c3 s hs with q | ⟨f, q1, q2⟩
    · exact Or.inl q
    · exact Or.inr ⟨f, by omega, q2⟩
  · intro f hf
    rw [r8, r5]
    rcases c4 f hf with q | ⟨s, q1, q2, q3⟩
    · exact Or.inl q
    · exact Or.inr ⟨s, q1, by omega, q3⟩
  · rw [r8, r9]; exact c5
  · intro s f k hs hf hk e1 e2
    rw [r8] at e1
    rw [r9] at e2
    rw [r4]
    have hfo : f < o := by
      rcases c3 s hs with q | ⟨f', q1, q2, -⟩
      · rw [q] at e1; exact absurd e1.symm (nI_ne_m1 (by omega))
      · have := nI_inj (by omega) (by omega) (q2.symm.trans e1); omega
    rw [h3 _ (by omega)]
    exact c6 s f k hs hfo hk e1 e2
  · rw [r4]; exact c7
  · intro s j hs hj
    rcases c3 s hs with q | ⟨f, q1, q2, -⟩
    · rw [scn_away (by rw [r8]; exact q), scn_away q, r4]
    · rw [scn_mem (by omega) (show Z' 8 0 s = nI f by rw [r8]; exact q2), scn_mem (by omega) q2, h3 _ (by omega)]
  · rw [r5]
    rcases c4 o (by omega) with q | ⟨s, q1, q2, -⟩
    · exact q
    · omega
end
section
set_option maxHeartbeats 4000000 in
set_option maxRecDepth 100000 in
theorem c_X1_takeFrame (l : Launch) (sz0 : Nat) (D : va_G) (cs : Nat → ClassId) (X : Sh) (Z : ZT) (Y : va_W) (hX : HXI X) (hU : HUI X) (h o hd g3 g4 kc ks : Nat) (kp : Int32) (hH : HA X Z h o hd g3 g4) (hkp : kp = -1 ∨ ∃ kf, kf < o ∧ kp = nI kf ∧ Z 5 0 kf ≠ -1) (hkc : g3 ≤ kc) (hks : 32768 * g3 ≤ ks) : Ctr l yX1_takeFrame (wsM yX1_takeFrame cX1_takeFrame 5 (some .int)) ({ frames := 2, cells := kc, slots := ks, locals := 48 } : Room) sz0 D cs [.ref (X.1 2 0), .int kp] X Z Y (fun X' Z' Y' v k n => Y = Y' ∧ ∃ f, v = some (.int (nI f)) ∧ TF X Z h o g3 g4 kp X' Z' f k n) := by
  refine Ctr.ofW (by decide +kernel) (by intro v hv; simp at hv; rcases hv with rfl | rfl <;> rfl) (Nat.le_of_ble_eq_true rfl) ?_
  intro p e s m below meth c ls C hr hlocks hname hl hN hw
  obtain ⟨hx, hb, hml, hown, hts⟩ := id C
  have hH0 := hH
  obtain ⟨⟨a1, a2, a3, a4⟩, ⟨b1, b2, b3⟩, ⟨c11, c12, c13, c14⟩, c2, c3, c4, c5, c6, c7⟩ := hH
  have hh31 : h < 2 ^ 31 := by omega
  have ho31 : o < 2 ^ 31 := by omega
  refine lv_aload_n hx hb dX1_takeFrame_0 rfl (hl.at rfl) ?_
  refine w_get C hw (c0 := 2) (i0 := 0) rfl inA1 1 (by decide) mw55 rfl dX1_takeFrame_1 (hX 2 (by decide)) rfl rfl rfl ?_
  refine lv_topi (fun y ey => ?_)
  obtain rfl : y = nI o := ey.trans b2
  refine lv_aload_n hx hb dX1_takeFrame_4 rfl (hl.at rfl) ?_
  refine w_get C hw (c0 := 2) (i0 := 0) rfl inA1 0 (by decide) mw54 rfl dX1_takeFrame_5 (hX 2 (by decide)) rfl rfl rfl ?_
  refine lv_topi (fun y ey => ?_)
  obtain rfl : y = nI h := ey.trans b1
  refine lv_icmp_ge (tgt := 61) hx hb dX1_takeFrame_8 (by decide) (fun h8 => ?_) (fun h8 => ?_)
  · have hoh : o = h := by
      have := (nI_leI hh31 ho31).mp h8
      omega
    subst hoh
    have hne : ∀ a : Nat, (a + 1) % o = if a % o + 1 < o then a % o + 1 else 0 := by
      intro a
      rw [Nat.add_mod]
      have h1 : (1 : Nat) % o = 1 := Nat.mod_eq_of_lt (by omega)
      rw [h1]
      have h2 : a % o < o := Nat.mod_lt _ (by omega)
      split
      · exact Nat.mod_eq_of_lt (by assumption)
      · have : a % o + 1 = o := by omega
        rw [this, Nat.mod_self]
    refine lv_iconst (v := 0) hx hb dX1_takeFrame_61 (by decide) ?_
    refine w_istore_n hx hb dX1_takeFrame_62 rfl hl (Nat.le_of_ble_eq_true rfl) (fun ls hl => ?_)
    have loop : ∀ (d t : Nat), t + d = o + 1 → ∀ (r : Nat → Int32), (∀ u, u < t → r ((hd + u) % o) = 0) → (t = o + 1 → nI ((hd + o) % o) = kp) → ∀ (H : Heap) (locs : List Loc) (ls : Array Slot) (sa sb : Option Value), lo ls [some (.ref (X.1 2 0)), some (.int kp), some (.int (nI t)), sa, sb] → Wd sz0 D cs s X (tfZ Z r ((hd + t) % o)) Y H locs → W p l e ({ frames := 2, cells := kc, slots := ks, locals := 48 } : Room) s m ([.ref (X.1 2 0), .int kp] : List Value).toArray below meth c H locs 0 0 (xQ below (CQ sz0 D cs (fun X' Z' Y' v k n => Y = Y' ∧ ∃ f, v = some (.int (nI f)) ∧ TF X Z o o g3 g4 kp X' Z' f k n)) ([.ref (X.1 2 0), .int kp] : List Value).toArray s (Asz sz0)) (F0 m 63 ls []) := by
      intro d
      induction d with
      | zero =>
        intro t htd r hr0 hr1 H locs ls sa sb hl hw
        obtain ⟨x, hxe⟩ : ∃ x, x = (hd + t) % o := ⟨_, rfl⟩
        have hxo : x < o := by rw [hxe]; exact Nat.mod_lt _ (by omega)
        rw [← hxe] at hw
        refine lv_iload_n hx hb dX1_takeFrame_63 rfl (hl.at rfl) ?_
        refine lv_iconst (v := 2) hx hb dX1_takeFrame_64 (by decide) ?_
        refine lv_aload_n hx hb dX1_takeFrame_65 rfl (hl.at rfl) ?_
        refine w_get C hw (c0 := 2) (i0 := 0) rfl inA1 0 (by decide) mw54 rfl dX1_takeFrame_66 (hX 2 (by decide)) rfl rfl rfl ?_
        refine lv_topi (fun y ey => ?_)
        obtain rfl : y = nI o := ey.trans (by rw [tfZ_2, upd_n (by decide)]; exact b1)
        refine lv_imul hx hb dX1_takeFrame_69 ?_
        refine lv_icmp_ge (tgt := 205) hx hb dX1_takeFrame_70 (by decide) (fun h70 => ?_) (fun h70 => ?_)
        · exfalso
          have h1 := (nI_leI (show 2 * o < 2 ^ 31 by omega) (show t < 2 ^ 31 by omega)).mp (by rw [← pk_mul]; exact h70)
          omega
        · refine lv_aload_n hx hb dX1_takeFrame_73 rfl (hl.at rfl) ?_
          refine w_get C hw (c0 := 2) (i0 := 0) rfl inA1 2 (by decide) mw56 rfl dX1_takeFrame_74 (hX 2 (by decide)) rfl rfl rfl ?_
          refine lv_topi (fun y ey => ?_)
          obtain rfl : y = nI x := ey.trans (by rw [tfZ_2, upd_s])
          refine w_istore_n hx hb dX1_takeFrame_77 rfl hl (Nat.le_of_ble_eq_true rfl) (fun ls hl => ?_)
          refine lv_aload_n hx hb dX1_takeFrame_78 rfl (hl.at rfl) ?_
          refine lv_aload_n hx hb dX1_takeFrame_79 rfl (hl.at rfl) ?_
          refine w_get C hw (c0 := 2) (i0 := 0) rfl inA1 2 (by decide) mw56 rfl dX1_takeFrame_80 (hX 2 (by decide)) rfl rfl rfl ?_
          refine lv_topi (fun y ey => ?_)
          obtain rfl : y = nI x := ey.trans (by rw [tfZ_2, upd_s])
          refine lv_iconst (v := 1) hx hb dX1_takeFrame_83 (by decide) ?_
          refine lv_iadd hx hb dX1_takeFrame_84 ?_
          refine lv_aload_n hx hb dX1_takeFrame_85 rfl (hl.at rfl) ?_
          refine w_get C hw (c0 := 2) (i0 := 0) rfl inA1 0 (by decide) mw54 rfl dX1_takeFrame_86 (hX 2 (by decide)) rfl rfl rfl ?_
          refine lv_topi (fun y ey => ?_)
          obtain rfl : y = nI o := ey.trans (by rw [tfZ_2, upd_n (by decide)]; exact b1)
          have hxn : (hd + (t + 1)) % o = if x + 1 < o then x + 1 else 0 := by rw [← Nat.add_assoc, hne, ← hxe]
          have hxn2 : (hd + (t + 1)) % o < o := Nat.mod_lt _ (by omega)
          have join : ∀ (H : Heap) (locs : List Loc) (ls : Array Slot), lo ls [some (.ref (X.1 2 0)), some (.int kp), some (.int (nI t)), some (.int (nI x)), sb] → Wd sz0 D cs s X (tfZ Z r x) Y H locs → W p l e ({ frames := 2, cells := kc, slots := ks, locals := 48 } : Room) s m ([.ref (X.1 2 0), .int kp] : List Value).toArray below meth c H locs 0 0 (xQ below (CQ sz0 D cs (fun X' Z' Y' v k n => Y = Y' ∧ ∃ f, v = some (.int (nI f)) ∧ TF X Z o o g3 g4 kp X' Z' f k n)) ([.ref (X.1 2 0), .int kp] : List Value).toArray s (Asz sz0)) (F0 m 102 ls [.int (nI ((hd + (t + 1)) % o)), .ref (X.1 2 0)]) := by
            intro H locs ls hl hw
            refine w_put C hw (c0 := 2) (i0 := 0) rfl inA1 tyX1_ok nmX1 2 (by decide) mw56 rfl rfl rfl dX1_takeFrame_102 (hX 2 (by decide)) rfl rfl rfl rfl (Nat.le_of_ble_eq_true rfl) rfl (fun H locs hw => ?_)
            rw [tfZ_put] at hw
            refine lv_aload_n hx hb dX1_takeFrame_105 rfl (hl.at rfl) ?_
            refine w_get C hw (c0 := 2) (i0 := 0) rfl inA1 6 (by decide) mw29 rfl dX1_takeFrame_106 (hX 2 (by decide)) rfl rfl rfl ?_
            refine lv_iload_n hx hb dX1_takeFrame_109 rfl (hl.at rfl) ?_
            refine w_ild C hw (c0 := 5) (i0 := 0) dX1_takeFrame_110 (hX 5 (by decide)) rfl rfl (vp_in_nI (show x < 256 by omega) (by omega)) (nI_clamp (by omega)) ?_
            rw [tfZ_o (c := 5) (by decide) (by decide)]
            refine w_istore hx hb dX1_takeFrame_111 hl (Nat.le_of_ble_eq_true rfl) (fun ls hl => ?_)
            refine lv_iload hx hb dX1_takeFrame_113 (hl.at rfl) ?_
            refine lv_iconst (v := -1) hx hb dX1_takeFrame_115 (by decide) ?_
            refine lv_icmp_ne (tgt := 121) hx hb dX1_takeFrame_116 (by decide) (fun h116 => ?_) (fun h116 => ?_)
            · have hex := (c4 x (by omega)).resolve_left h116
              obtain ⟨sh, hsh, hxo2, e5, e8⟩ := hex
              rw [e5] at hl
              have again : ∀ (H : Heap) (locs : List Loc) (ls : Array Slot), lo ls [some (.ref (X.1 2 0)), some (.int kp), some (.int (nI t)), some (.int (nI x)), some (.int (nI sh))] → Wd sz0 D cs s X (tfZ Z r ((hd + (t + 1)) % o)) Y H locs → (t < o ∨ nI x = kp) → W p l e ({ frames := 2, cells := kc, slots := ks, locals := 48 } : Room) s m ([.ref (X.1 2 0), .int kp] : List Value).toArray below meth c H locs 0 0 (xQ below (CQ sz0 D cs (fun X' Z' Y' v k n => Y = Y' ∧ ∃ f, v = some (.int (nI f)) ∧ TF X Z o o g3 g4 kp X' Z' f k n)) ([.ref (X.1 2 0), .int kp] : List Value).toArray s (Asz sz0)) (F0 m 192 ls []) := by
                intro H locs ls hl hw hkx
                refine lv_aload_n hx hb dX1_takeFrame_192 rfl (hl.at rfl) ?_
                refine w_get C hw (c0 := 2) (i0 := 0) rfl inA1 7 (by decide) mw31 rfl dX1_takeFrame_193 (hX 2 (by decide)) rfl rfl rfl ?_
                refine lv_iload_n hx hb dX1_takeFrame_196 rfl (hl.at rfl) ?_
                refine lv_iconst (v := 0) hx hb dX1_takeFrame_197 (by decide) ?_
                refine w_zst C hw (c0 := 6) (i0 := 0) dX1_takeFrame_198 (hX 6 (by decide)) rfl (fun _ => rfl) (vp_in_nI (show x < 256 by omega) (by omega)) (nI_clamp (by omega)) (by decide) (fun H locs hw => ?_)
                rw [tfZ_rec] at hw
                refine w_iinc hx hb dX1_takeFrame_199 hl rfl rfl (fun ls hl => ?_)
                refine lv_goto (tgt := 63) hx hb dX1_takeFrame_202 (by decide) ?_
                exfalso
                have ht : t = o + 1 := by omega
                have h1 := hr1 ht
                rcases hkx with hk | hk
                · omega
                · have h2 : x = (hd + o) % o := nI_inj (by omega) (by have := Nat.mod_lt (hd + o) (show 0 < o by omega); omega) (hk.trans h1.symm)
                  rw [hxe, ht, ← Nat.add_assoc, hne, Nat.add_mod_right] at h2
                  have h3 := Nat.mod_lt hd (show 0 < o by omega)
                  split at h2 <;> omega
              refine lv_iload_n hx hb dX1_takeFrame_121 rfl (hl.at rfl) ?_
              refine lv_iload_n hx hb dX1_takeFrame_122 rfl (hl.at rfl) ?_
              refine lv_icmp_eq (tgt := 192) hx hb dX1_takeFrame_123 (by decide) (fun h123 => ?_) (fun h123 => ?_)
              · exact again _ _ _ hl hw (Or.inr h123)
              · refine lv_aload_n hx hb dX1_takeFrame_126 rfl (hl.at rfl) ?_
                refine w_get C hw (c0 := 2) (i0 := 0) rfl inA1 7 (by decide) mw31 rfl dX1_takeFrame_127 (hX 2 (by decide)) rfl rfl rfl ?_
                refine lv_iload_n hx hb dX1_takeFrame_130 rfl (hl.at rfl) ?_
                refine w_zld C hw (c0 := 6) (i0 := 0) dX1_takeFrame_131 (hX 6 (by decide)) rfl rfl (vp_in_nI (show x < 256 by omega) (by omega)) (nI_clamp (by omega)) ?_
                rw [tfZ_6]
                refine lv_if_ne (tgt := 192) hx hb dX1_takeFrame_132 (by decide) (fun h132 => ?_) (fun h132 => ?_)
                · refine again _ _ _ hl hw (Or.inl ?_)
                  rcases Nat.lt_or_ge t o with q | q
                  · exact q
                  · exfalso
                    apply h132
                    have := hr0 (t - o) (by omega)
                    rw [← this]
                    congr 1
                    rw [hxe, show hd + t = hd + (t - o) + o by omega, Nat.add_mod_right]
                · refine lv_aload_n hx hb dX1_takeFrame_135 rfl (hl.at rfl) ?_
                  refine w_get C hw (c0 := 2) (i0 := 0) rfl inA1 10 (by decide) mw34 rfl dX1_takeFrame_136 (hX 2 (by decide)) rfl rfl rfl ?_
                  refine lv_iload hx hb dX1_takeFrame_139 (hl.at rfl) ?_
                  refine w_zld C hw (c0 := 9) (i0 := 0) dX1_takeFrame_141 (hX 9 (by decide)) rfl rfl (vp_in_nI hsh (by omega)) (nI_clamp (by omega)) ?_
                  rw [tfZ_o (c := 9) (by decide) (by decide)]
                  have hkp9 : ∀ s, s < 513 → Z 8 0 s = kp → s ≠ sh := fun s hs e q => h123 (by rw [← e8, ← q]; exact e)
                  have fin : ∀ (a : Nat → Int32) (H : Heap) (locs : List Loc) (ls : Array Slot), lo ls [some (.ref (X.1 2 0)), some (.int kp), some (.int (nI t)), some (.int (nI x)), some (.int (nI sh))] → (∀ j, j < 64 → a (64 * sh + j) = Z 3 0 (64 * x + j)) → (∀ j, ¬ (64 * sh ≤ j ∧ j < 64 * sh + 64) → a j = Z 4 0 j) → Wd sz0 D cs s X (upr (upr (tfZ Z r ((hd + (t + 1)) % o)) 4 0 a) 9 0 (upd (Z 9 0) sh 0)) Y H locs → W p l e ({ frames := 2, cells := kc, slots := ks, locals := 48 } : Room) s m ([.ref (X.1 2 0), .int kp] : List Value).toArray below meth c H locs 0 0 (xQ below (CQ sz0 D cs (fun X' Z' Y' v k n => Y = Y' ∧ ∃ f, v = some (.int (nI f)) ∧ TF X Z o o g3 g4 kp X' Z' f k n)) ([.ref (X.1 2 0), .int kp] : List Value).toArray s (Asz sz0)) (F0 m 175 ls []) := by
                    intro a H locs ls hl ha hb9 hw
                    refine lv_aload_n hx hb dX1_takeFrame_175 rfl (hl.at rfl) ?_
                    refine w_get C hw (c0 := 2) (i0 := 0) rfl inA1 9 (by decide) mw33 rfl dX1_takeFrame_176 (hX 2 (by decide)) rfl rfl rfl ?_
                    refine lv_iload hx hb dX1_takeFrame_179 (hl.at rfl) ?_
                    refine lv_iconst (v := -1) hx hb dX1_takeFrame_181 (by decide) ?_
                    refine w_ist C hw (c0 := 8) (i0 := 0) dX1_takeFrame_182 (hX 8 (by decide)) rfl (fun _ => rfl) (vp_in_nI hsh (by omega)) (nI_clamp (by omega)) (fun H locs hw => ?_)
                    refine lv_aload_n hx hb dX1_takeFrame_183 rfl (hl.at rfl) ?_
                    refine w_get C hw (c0 := 2) (i0 := 0) rfl inA1 6 (by decide) mw29 rfl dX1_takeFrame_184 (hX 2 (by decide)) rfl rfl rfl ?_
                    refine lv_iload_n hx hb dX1_takeFrame_187 rfl (hl.at rfl) ?_
                    refine lv_iconst (v := -1) hx hb dX1_takeFrame_188 (by decide) ?_
                    refine w_ist C hw (c0 := 5) (i0 := 0) dX1_takeFrame_189 (hX 5 (by decide)) rfl (fun _ => rfl) (vp_in_nI (show x < 256 by omega) (by omega)) (nI_clamp (by omega)) (fun H locs hw => ?_)
                    refine lv_iload_n hx hb dX1_takeFrame_190 rfl (hl.at rfl) ?_
                    have eZ : upr (upr (upr (upr (tfZ Z r ((hd + (t + 1)) % o)) 4 0 a) 9 0 (upd (Z 9 0) sh 0)) 8 0 (upd (upr (upr (tfZ Z r ((hd + (t + 1)) % o)) 4 0 a) 9 0 (upd (Z 9 0) sh 0) 8 0) sh (-1))) 5 0 (upd (upr (upr (upr (tfZ Z r ((hd + (t + 1)) % o)) 4 0 a) 9 0 (upd (Z 9 0) sh 0)) 8 0 (upd (upr (upr (tfZ Z r ((hd + (t + 1)) % o)) 4 0 a) 9 0 (upd (Z 9 0) sh 0) 8 0) sh (-1)) 5 0) x (-1)) = evZ (tfZ Z r ((hd + (t + 1)) % o)) x sh a := by
                      unfold evZ
                      rw [upr_k (show (5 : Nat) ≠ 8 by decide), upr_k (show (5 : Nat) ≠ 9 by decide), upr_k (show (5 : Nat) ≠ 4 by decide), upr_k (show (8 : Nat) ≠ 9 by decide), upr_k (show (8 : Nat) ≠ 4 by decide), tfZ_o (c := 9) (by decide) (by decide)]
                    rw [eZ] at hw
                    have hT := tfZ_HA (r := r) hH0 hxn2
                    obtain ⟨m1, m2⟩ := ev_main (a := a) hT hsh hxo (by rw [tfZ_o (c := 5) (by decide) (by decide)]; exact e5) (by rw [tfZ_o (c := 8) (by decide) (by decide)]; exact e8) (by rw [tfZ_o (c := 3) (by decide) (by decide)]; exact ha) (by rw [tfZ_o (c := 4) (by decide) (by decide)]; exact hb9)
                    refine w_iret C hw hr hlocks dX1_takeFrame_191 ⟨rfl, x, rfl, X.2.1, o, _, g3, rfl, rfl, rfl, h123, hxo, Nat.le_refl _, m1, by omega, by omega, by rw [evZ_5, upd_s], fun s hs e => ?_, fun s hs => ?_, fun s j hs hj => ?_, fun c i hc => ?_, fun j h1 h2 => ?_⟩
                    · have hne := hkp9 s hs e
                      rw [evZ_8, evZ_9, upd_n hne, upd_n hne, tfZ_o (c := 8) (by decide) (by decide), tfZ_o (c := 9) (by decide) (by decide)]
                      exact ⟨e, rfl⟩
                    · rw [evZ_8, tfZ_o (c := 8) (by decide) (by decide)]
                      by_cases e : s = sh
                      · subst e; exact Or.inl upd_s
                      · exact Or.inr (upd_n e)
                    · rw [m2 s j hs hj, tfZ_scn]
                    · by_cases hi : i = 0
                      · subst hi
                        have : ∀ k, (k = 2 ∨ k = 3 ∨ k = 4 ∨ k = 5 ∨ k = 6 ∨ k = 8 ∨ k = 9) → c ≠ k := fun k hk e => hc ⟨rfl, by rw [e]; exact hk⟩
                        rw [evZ_o (this 4 (by decide)) (this 5 (by decide)) (this 8 (by decide)) (this 9 (by decide)), tfZ_o (this 2 (by decide)) (this 6 (by decide))]
                      · unfold evZ tfZ
                        rw [upr_i hi, upr_i hi, upr_i hi, upr_i hi, upr_i hi, upr_i hi]
                    · rw [evZ_o (by decide) (by decide) (by decide) (by decide), tfZ_2, upd_n h2]
                  refine lv_if_eq (tgt := 175) hx hb dX1_takeFrame_142 (by decide) (fun h142 => ?_) (fun h142 => ?_)
                  · have hA : ∀ j, j < 64 → Z 4 0 (64 * sh + j) = Z 3 0 (64 * x + j) := fun j hj => (c6 sh x j hsh hxo hj e8 h142).symm
                    refine fin (Z 4 0) _ _ _ hl hA (fun _ _ => rfl) ?_
                    have e9 : upr (upr (tfZ Z r ((hd + (t + 1)) % o)) 4 0 (Z 4 0)) 9 0 (upd (Z 9 0) sh 0) = tfZ Z r ((hd + (t + 1)) % o) := by
                      have u1 : upd (Z 9 0) sh 0 = Z 9 0 := by
                        funext j
                        by_cases e : j = sh
                        · subst e; rw [upd_s]; exact h142.symm
                        · rw [upd_n e]
                      rw [u1]
                      have u2 : Z 4 0 = tfZ Z r ((hd + (t + 1)) % o) 4 0 := (tfZ_o (by decide) (by decide)).symm
                      rw [u2, upr_id]
                      have u3 : Z 9 0 = tfZ Z r ((hd + (t + 1)) % o) 9 0 := (tfZ_o (by decide) (by decide)).symm
                      rw [u3, upr_id]
                    rw [e9]
                    exact hw
                  · refine lv_aload_n hx hb dX1_takeFrame_145 rfl (hl.at rfl) ?_
                    refine w_get C hw (c0 := 2) (i0 := 0) rfl inA1 4 (by decide) mw27 rfl dX1_takeFrame_146 (hX 2 (by decide)) rfl rfl rfl ?_
                    refine lv_iload_n hx hb dX1_takeFrame_149 rfl (hl.at rfl) ?_
                    refine lv_bipush (v := 64) hx hb dX1_takeFrame_150 (by decide) ?_
                    refine lv_imul hx hb dX1_takeFrame_152 ?_
                    refine lv_aload_n hx hb dX1_takeFrame_153 rfl (hl.at rfl) ?_
                    refine w_get C hw (c0 := 2) (i0 := 0) rfl inA1 5 (by decide) mw28 rfl dX1_takeFrame_154 (hX 2 (by decide)) rfl rfl rfl ?_
                    refine lv_iload hx hb dX1_takeFrame_157 (hl.at rfl) ?_
                    refine lv_bipush (v := 64) hx hb dX1_takeFrame_159 (by decide) ?_
                    refine lv_imul hx hb dX1_takeFrame_161 ?_
                    refine lv_bipush (v := 64) hx hb dX1_takeFrame_162 (by decide) ?_
                    have hle4 : 64 * (sh + 1) ≤ X.2.1 4 := by
                      rcases c3 sh hsh with q | ⟨_, _, _, _, q⟩
                      · rw [q] at e8; exact absurd e8.symm (nI_ne_m1 (by omega))
                      · exact q
                    have ex : nI x * 64 = nI (64 * x) := by rw [show nI x * 64 = nI x * nI 64 from rfl, pk_mul, Nat.mul_comm]
                    have es : nI sh * 64 = nI (64 * sh) := by rw [show nI sh * 64 = nI sh * nI 64 from rfl, pk_mul, Nat.mul_comm]
                    rw [ex, es]
                    refine w_cpy C hw (c0 := 3) (i0 := 0) (c1 := 4) (i1 := 0) mw195 dX1_takeFrame_164 (hX 3 (by decide)) rfl rfl (hX 4 (by decide)) rfl (fun _ => rfl) (nI_pos (by omega)) (nI_pos (by omega)) (by decide) (nI_clamp (by omega)) (nI_clamp (by omega)) (jn := 64) (by decide) (by omega) (by omega) hl.1.1 (Nat.le_of_ble_eq_true rfl) (Nat.le_of_ble_eq_true rfl) (fun H locs hw => ?_)
                    refine lv_aload_n hx hb dX1_takeFrame_167 rfl (hl.at rfl) ?_
                    refine w_get C hw (c0 := 2) (i0 := 0) rfl inA1 10 (by decide) mw34 rfl dX1_takeFrame_168 (hX 2 (by decide)) rfl rfl rfl ?_
                    refine lv_iload hx hb dX1_takeFrame_171 (hl.at rfl) ?_
                    refine lv_iconst (v := 0) hx hb dX1_takeFrame_173 (by decide) ?_
                    refine w_zst C hw (c0 := 9) (i0 := 0) dX1_takeFrame_174 (hX 9 (by decide)) rfl (fun _ => rfl) (vp_in_nI hsh (by omega)) (nI_clamp (by omega)) (by decide) (fun H locs hw => ?_)
                    rw [upr_k (show (9 : Nat) ≠ 4 by decide), tfZ_o (c := 9) (by decide) (by decide), tfZ_o (c := 3) (by decide) (by decide), tfZ_o (c := 4) (by decide) (by decide)] at hw
                    refine fin _ _ _ _ hl (fun j hj => ?_) (fun j hj => ?_) hw
                    · rw [pk_cpy_in (by omega) (by omega)]
                      congr 1
                      omega
                    · exact pk_cpy_out (by omega)
            · refine lv_iload_n hx hb dX1_takeFrame_119 rfl (hl.at rfl) ?_
              have hT := tfZ_HA (r := r) hH0 hxn2
              refine w_iret C hw hr hlocks dX1_takeFrame_120 ⟨rfl, x, rfl, X.2.1, o, _, g3, rfl, rfl, rfl, ?_, hxo, Nat.le_refl _, hT, by omega, by omega, by rw [tfZ_o (c := 5) (by decide) (by decide)]; exact h116, fun s hs e => ?_, fun s hs => ?_, fun s j hs hj => tfZ_scn, fun c i hc => ?_, fun j h1 h2 => ?_⟩
              · rcases hkp with rfl | ⟨kf, q1, rfl, q2⟩
                · exact nI_ne_m1 (by omega)
                · intro e
                  have := nI_inj (by omega) (by omega) e
                  subst this
                  exact q2 h116
              · rw [tfZ_o (c := 8) (by decide) (by decide), tfZ_o (c := 9) (by decide) (by decide)]
                exact ⟨e, rfl⟩
              · rw [tfZ_o (c := 8) (by decide) (by decide)]
                exact Or.inr rfl
              · by_cases hi : i = 0
                · subst hi
                  have : ∀ k, (k = 2 ∨ k = 3 ∨ k = 4 ∨ k = 5 ∨ k = 6 ∨ k = 8 ∨ k = 9) → c ≠ k := fun k hk e => hc ⟨rfl, by rw [e]; exact hk⟩
                  rw [tfZ_o (this 2 (by decide)) (this 6 (by decide))]
                · unfold tfZ
                  rw [upr_i hi, upr_i hi]
              · rw [tfZ_2, upd_n h2]
          refine lv_icmp_ge (tgt := 101) hx hb dX1_takeFrame_89 (by decide) (fun h89 => ?_) (fun h89 => ?_)
          · refine lv_iconst (v := 0) hx hb dX1_takeFrame_101 (by decide) ?_
            have e1 : (0 : Int32) = nI ((hd + (t + 1)) % o) := by
              rw [nI_1] at h89
              rw [hxn, if_neg (fun q => nI_ge q hh31 h89)]; rfl
            rw [e1]
            exact join _ _ _ hl hw
          · refine lv_aload_n hx hb dX1_takeFrame_92 rfl (hl.at rfl) ?_
            refine w_get C hw (c0 := 2) (i0 := 0) rfl inA1 2 (by decide) mw56 rfl dX1_takeFrame_93 (hX 2 (by decide)) rfl rfl rfl ?_
            refine lv_topi (fun y ey => ?_)
            obtain rfl : y = nI x := ey.trans (by rw [tfZ_2, upd_s])
            refine lv_iconst (v := 1) hx hb dX1_takeFrame_96 (by decide) ?_
            refine lv_iadd hx hb dX1_takeFrame_97 ?_
            refine lv_goto (tgt := 102) hx hb dX1_takeFrame_98 (by decide) ?_
            have e1 : nI x + 1 = nI ((hd + (t + 1)) % o) := by
              rw [nI_1] at h89 ⊢
              rw [hxn, if_pos]
              rcases Nat.lt_or_ge (x + 1) o with q | q
              · exact q
              · exact absurd (nI_le q (by omega)) h89
            rw [e1]
            exact join _ _ _ hl hw
      | succ d ih =>
        intro t htd r hr0 hr1 H locs ls sa sb hl hw
        obtain ⟨x, hxe⟩ : ∃ x, x = (hd + t) % o := ⟨_, rfl⟩
        have hxo : x < o := by rw [hxe]; exact Nat.mod_lt _ (by omega)
        rw [← hxe] at hw
        refine lv_iload_n hx hb dX1_takeFrame_63 rfl (hl.at rfl) ?_
        refine lv_iconst (v := 2) hx hb dX1_takeFrame_64 (by decide) ?_
        refine lv_aload_n hx hb dX1_takeFrame_65 rfl (hl.at rfl) ?_
        refine w_get C hw (c0 := 2) (i0 := 0) rfl inA1 0 (by decide) mw54 rfl dX1_takeFrame_66 (hX 2 (by decide)) rfl rfl rfl ?_
        refine lv_topi (fun y ey => ?_)
        obtain rfl : y = nI o := ey.trans (by rw [tfZ_2, upd_n (by decide)]; exact b1)
        refine lv_imul hx hb dX1_takeFrame_69 ?_
        refine lv_icmp_ge (tgt := 205) hx hb dX1_takeFrame_70 (by decide) (fun h70 => ?_) (fun h70 => ?_)
        · exfalso
          have h1 := (nI_leI (show 2 * o < 2 ^ 31 by omega) (show t < 2 ^ 31 by omega)).mp (by rw [← pk_mul]; exact h70)
          omega
        · refine lv_aload_n hx hb dX1_takeFrame_73 rfl (hl.at rfl) ?_
          refine w_get C hw (c0 := 2) (i0 := 0) rfl inA1 2 (by decide) mw56 rfl dX1_takeFrame_74 (hX 2 (by decide)) rfl rfl rfl ?_
          refine lv_topi (fun y ey => ?_)
          obtain rfl : y = nI x := ey.trans (by rw [tfZ_2, upd_s])
          refine w_istore_n hx hb dX1_takeFrame_77 rfl hl (Nat.le_of_ble_eq_true rfl) (fun ls hl => ?_)
          refine lv_aload_n hx hb dX1_takeFrame_78 rfl (hl.at rfl) ?_
          refine lv_aload_n hx hb dX1_takeFrame_79 rfl (hl.at rfl) ?_
          refine w_get C hw (c0 := 2) (i0 := 0) rfl inA1 2 (by decide) mw56 rfl dX1_takeFrame_80 (hX 2 (by decide)) rfl rfl rfl ?_
          refine lv_topi (fun y ey => ?_)
          obtain rfl : y = nI x := ey.trans (by rw [tfZ_2, upd_s])
          refine lv_iconst (v := 1) hx hb dX1_takeFrame_83 (by decide) ?_
          refine lv_iadd hx hb dX1_takeFrame_84 ?_
          refine lv_aload_n hx hb dX1_takeFrame_85 rfl (hl.at rfl) ?_
          refine w_get C hw (c0 := 2) (i0 := 0) rfl inA1 0 (by decide) mw54 rfl dX1_takeFrame_86 (hX 2 (by decide)) rfl rfl rfl ?_
          refine lv_topi (fun y ey => ?_)
          obtain rfl : y = nI o := ey.trans (by rw [tfZ_2, upd_n (by decide)]; exact b1)
          have hxn : (hd + (t + 1)) % o = if x + 1 < o then x + 1 else 0 := by rw [← Nat.add_assoc, hne, ← hxe]
          have hxn2 : (hd + (t + 1)) % o < o := Nat.mod_lt _ (by omega)
          have join : ∀ (H : Heap) (locs : List Loc) (ls : Array Slot), lo ls [some (.ref (X.1 2 0)), some (.int kp), some (.int (nI t)), some (.int (nI x)), sb] → Wd sz0 D cs s X (tfZ Z r x) Y H locs → W p l e ({ frames := 2, cells := kc, slots := ks, locals := 48 } : Room) s m ([.ref (X.1 2 0), .int kp] : List Value).toArray below meth c H locs 0 0 (xQ below (CQ sz0 D cs (fun X' Z' Y' v k n => Y = Y' ∧ ∃ f, v = some (.int (nI f)) ∧ TF X Z o o g3 g4 kp X' Z' f k n)) ([.ref (X.1 2 0), .int kp] : List Value).toArray s (Asz sz0)) (F0 m 102 ls [.int (nI ((hd + (t + 1)) % o)), .ref (X.1 2 0)]) := by
            intro H locs ls hl hw
            refine w_put C hw (c0 := 2) (i0 := 0) rfl inA1 tyX1_ok nmX1 2 (by decide) mw56 rfl rfl rfl dX1_takeFrame_102 (hX 2 (by decide)) rfl rfl rfl rfl (Nat.le_of_ble_eq_true rfl) rfl (fun H locs hw => ?_)
            rw [tfZ_put] at hw
            refine lv_aload_n hx hb dX1_takeFrame_105 rfl (hl.at rfl) ?_
            refine w_get C hw (c0 := 2) (i0 := 0) rfl inA1 6 (by decide) mw29 rfl dX1_takeFrame_106 (hX 2 (by decide)) rfl rfl rfl ?_
            refine lv_iload_n hx hb dX1_takeFrame_109 rfl (hl.at rfl) ?_
            refine w_ild C hw (c0 := 5) (i0 := 0) dX1_takeFrame_110 (hX 5 (by decide)) rfl rfl (vp_in_nI (show x < 256 by omega) (by omega)) (nI_clamp (by omega)) ?_
            rw [tfZ_o (c := 5) (by decide) (by decide)]
            refine w_istore hx hb dX1_takeFrame_111 hl (Nat.le_of_ble_eq_true rfl) (fun ls hl => ?_)
            refine lv_iload hx hb dX1_takeFrame_113 (hl.at rfl) ?_
            refine lv_iconst (v := -1) hx hb dX1_takeFrame_115 (by decide) ?_
            refine lv_icmp_ne (tgt := 121) hx hb dX1_takeFrame_116 (by decide) (fun h116 => ?_) (fun h116 => ?_)
            · have hex := (c4 x (by omega)).resolve_left h116
              obtain ⟨sh, hsh, hxo2, e5, e8⟩ := hex
              rw [e5] at hl
              have again : ∀ (H : Heap) (locs : List Loc) (ls : Array Slot), lo ls [some (.ref (X.1 2 0)), some (.int kp), some (.int (nI t)), some (.int (nI x)), some (.int (nI sh))] → Wd sz0 D cs s X (tfZ Z r ((hd + (t + 1)) % o)) Y H locs → (t < o ∨ nI x = kp) → W p l e ({ frames := 2, cells := kc, slots := ks, locals := 48 } : Room) s m ([.ref (X.1 2 0), .int kp] : List Value).toArray below meth c H locs 0 0 (xQ below (CQ sz0 D cs (fun X' Z' Y' v k n => Y = Y' ∧ ∃ f, v = some (.int (nI f)) ∧ TF X Z o o g3 g4 kp X' Z' f k n)) ([.ref (X.1 2 0), .int kp] : List Value).toArray s (Asz sz0)) (F0 m 192 ls []) := by
                intro H locs ls hl hw hkx
                refine lv_aload_n hx hb dX1_takeFrame_192 rfl (hl.at rfl) ?_
                refine w_get C hw (c0 := 2) (i0 := 0) rfl inA1 7 (by decide) mw31 rfl dX1_takeFrame_193 (hX 2 (by decide)) rfl rfl rfl ?_
                refine lv_iload_n hx hb dX1_takeFrame_196 rfl (hl.at rfl) ?_
                refine lv_iconst (v := 0) hx hb dX1_takeFrame_197 (by decide) ?_
                refine w_zst C hw (c0 := 6) (i0 := 0) dX1_takeFrame_198 (hX 6 (by decide)) rfl (fun _ => rfl) (vp_in_nI (show x < 256 by omega) (by omega)) (nI_clamp (by omega)) (by decide) (fun H locs hw => ?_)
                rw [tfZ_rec] at hw
                refine w_iinc hx hb dX1_takeFrame_199 hl rfl rfl (fun ls hl => ?_)
                refine lv_goto (tgt := 63) hx hb dX1_takeFrame_202 (by decide) ?_
                refine ih (t + 1) (by omega) (upd r x 0) (fun u hu => ?_) (fun hto => ?_) H locs ls _ _ (by rw [← nI_1]; exact hl) hw
                · by_cases e : (hd + u) % o = x
                  · rw [e, upd_s]
                  · rw [upd_n e]
                    refine hr0 u ?_
                    rcases Nat.lt_or_ge u t with q | q
                    · exact q
                    · exact absurd (by rw [hxe, show u = t by omega]) e
                · rcases hkx with hk | hk
                  · omega
                  · rw [← hk, hxe, show t = o by omega]
              refine lv_iload_n hx hb dX1_takeFrame_121 rfl (hl.at rfl) ?_
              refine lv_iload_n hx hb dX1_takeFrame_122 rfl (hl.at rfl) ?_
              refine lv_icmp_eq (tgt := 192) hx hb dX1_takeFrame_123 (by decide) (fun h123 => ?_) (fun h123 => ?_)
              · exact again _ _ _ hl hw (Or.inr h123)
              · refine lv_aload_n hx hb dX1_takeFrame_126 rfl (hl.at rfl) ?_
                refine w_get C hw (c0 := 2) (i0 := 0) rfl inA1 7 (by decide) mw31 rfl dX1_takeFrame_127 (hX 2 (by decide)) rfl rfl rfl ?_
                refine lv_iload_n hx hb dX1_takeFrame_130 rfl (hl.at rfl) ?_
                refine w_zld C hw (c0 := 6) (i0 := 0) dX1_takeFrame_131 (hX 6 (by decide)) rfl rfl (vp_in_nI (show x < 256 by omega) (by omega)) (nI_clamp (by omega)) ?_
                rw [tfZ_6]
                refine lv_if_ne (tgt := 192) hx hb dX1_takeFrame_132 (by decide) (fun h132 => ?_) (fun h132 => ?_)
                · refine again _ _ _ hl hw (Or.inl ?_)
                  rcases Nat.lt_or_ge t o with q | q
                  · exact q
                  · exfalso
                    apply h132
                    have := hr0 (t - o) (by omega)
                    rw [← this]
                    congr 1
                    rw [hxe, show hd + t = hd + (t - o) + o by omega, Nat.add_mod_right]
                · refine lv_aload_n hx hb dX1_takeFrame_135 rfl (hl.at rfl) ?_
                  refine w_get C hw (c0 := 2) (i0 := 0) rfl inA1 10 (by decide) mw34 rfl dX1_takeFrame_136 (hX 2 (by decide)) rfl rfl rfl ?_
                  refine lv_iload hx hb dX1_takeFrame_139 (hl.at rfl) ?_
                  refine w_zld C hw (c0 := 9) (i0 := 0) dX1_takeFrame_141 (hX 9 (by decide)) rfl rfl (vp_in_nI hsh (by omega)) (nI_clamp (by omega)) ?_
                  rw [tfZ_o (c := 9) (by decide) (by decide)]
                  have hkp9 : ∀ s, s < 513 → Z 8 0 s = kp → s ≠ sh := fun s hs e q => h123 (by rw [← e8, ← q]; exact e)
                  have fin : ∀ (a : Nat → Int32) (H : Heap) (locs : List Loc) (ls : Array Slot), lo ls [some (.ref (X.1 2 0)), some (.int kp), some (.int (nI t)), some (.int (nI x)), some (.int (nI sh))] → (∀ j, j < 64 → a (64 * sh + j) = Z 3 0 (64 * x + j)) → (∀ j, ¬ (64 * sh ≤ j ∧ j < 64 * sh + 64) → a j = Z 4 0 j) → Wd sz0 D cs s X (upr (upr (tfZ Z r ((hd + (t + 1)) % o)) 4 0 a) 9 0 (upd (Z 9 0) sh 0)) Y H locs → W p l e ({ frames := 2, cells := kc, slots := ks, locals := 48 } : Room) s m ([.ref (X.1 2 0), .int kp] : List Value).toArray below meth c H locs 0 0 (xQ below (CQ sz0 D cs (fun X' Z' Y' v k n => Y = Y' ∧ ∃ f, v = some (.int (nI f)) ∧ TF X Z o o g3 g4 kp X' Z' f k n)) ([.ref (X.1 2 0), .int kp] : List Value).toArray s (Asz sz0)) (F0 m 175 ls []) := by
                    intro a H locs ls hl ha hb9 hw
                    refine lv_aload_n hx hb dX1_takeFrame_175 rfl (hl.at rfl) ?_
                    refine w_get C hw (c0 := 2) (i0 := 0) rfl inA1 9 (by decide) mw33 rfl dX1_takeFrame_176 (hX 2 (by decide)) rfl rfl rfl ?_
                    refine lv_iload hx hb dX1_takeFrame_179 (hl.at rfl) ?_
                    refine lv_iconst (v := -1) hx hb dX1_takeFrame_181 (by decide) ?_
                    refine w_ist C hw (c0 := 8) (i0 := 0) dX1_takeFrame_182 (hX 8 (by decide)) rfl (fun _ => rfl) (vp_in_nI hsh (by omega)) (nI_clamp (by omega)) (fun H locs hw => ?_)
                    refine lv_aload_n hx hb dX1_takeFrame_183 rfl (hl.at rfl) ?_
                    refine w_get C hw (c0 := 2) (i0 := 0) rfl inA1 6 (by decide) mw29 rfl dX1_takeFrame_184 (hX 2 (by decide)) rfl rfl rfl ?_
                    refine lv_iload_n hx hb dX1_takeFrame_187 rfl (hl.at rfl) ?_
                    refine lv_iconst (v := -1) hx hb dX1_takeFrame_188 (by decide) ?_
                    refine w_ist C hw (c0 := 5) (i0 := 0) dX1_takeFrame_189 (hX 5 (by decide)) rfl (fun _ => rfl) (vp_in_nI (show x < 256 by omega) (by omega)) (nI_clamp (by omega)) (fun H locs hw => ?_)
                    refine lv_iload_n hx hb dX1_takeFrame_190 rfl (hl.at rfl) ?_
                    have eZ : upr (upr (upr (upr (tfZ Z r ((hd + (t + 1)) % o)) 4 0 a) 9 0 (upd (Z 9 0) sh 0)) 8 0 (upd (upr (upr (tfZ Z r ((hd + (t + 1)) % o)) 4 0 a) 9 0 (upd (Z 9 0) sh 0) 8 0) sh (-1))) 5 0 (upd (upr (upr (upr (tfZ Z r ((hd + (t + 1)) % o)) 4 0 a) 9 0 (upd (Z 9 0) sh 0)) 8 0 (upd (upr (upr (tfZ Z r ((hd + (t + 1)) % o)) 4 0 a) 9 0 (upd (Z 9 0) sh 0) 8 0) sh (-1)) 5 0) x (-1)) = evZ (tfZ Z r ((hd + (t + 1)) % o)) x sh a := by
                      unfold evZ
                      rw [upr_k (show (5 : Nat) ≠ 8 by decide), upr_k (show (5 : Nat) ≠ 9 by decide), upr_k (show (5 : Nat) ≠ 4 by decide), upr_k (show (8 : Nat) ≠ 9 by decide), upr_k (show (8 : Nat) ≠ 4 by decide), tfZ_o (c := 9) (by decide) (by decide)]
                    rw [eZ] at hw
                    have hT := tfZ_HA (r := r) hH0 hxn2
                    obtain ⟨m1, m2⟩ := ev_main (a := a) hT hsh hxo (by rw [tfZ_o (c := 5) (by decide) (by decide)]; exact e5) (by rw [tfZ_o (c := 8) (by decide) (by decide)]; exact e8) (by rw [tfZ_o (c := 3) (by decide) (by decide)]; exact ha) (by rw [tfZ_o (c := 4) (by decide) (by decide)]; exact hb9)
                    refine w_iret C hw hr hlocks dX1_takeFrame_191 ⟨rfl, x, rfl, X.2.1, o, _, g3, rfl, rfl, rfl, h123, hxo, Nat.le_refl _, m1, by omega, by omega, by rw [evZ_5, upd_s], fun s hs e => ?_, fun s hs => ?_, fun s j hs hj => ?_, fun c i hc => ?_, fun j h1 h2 => ?_⟩
                    · have hne := hkp9 s hs e
                      rw [evZ_8, evZ_9, upd_n hne, upd_n hne, tfZ_o (c := 8) (by decide) (by decide), tfZ_o (c := 9) (by decide) (by decide)]
                      exact ⟨e, rfl⟩
                    · rw [evZ_8, tfZ_o (c := 8) (by decide) (by decide)]
                      by_cases e : s = sh
                      · subst e; exact Or.inl upd_s
                      · exact Or.inr (upd_n e)
                    · rw [m2 s j hs hj, tfZ_scn]
                    · by_cases hi : i = 0
                      · subst hi
                        have : ∀ k, (k = 2 ∨ k = 3 ∨ k = 4 ∨ k = 5 ∨ k = 6 ∨ k = 8 ∨ k = 9) → c ≠ k := fun k hk e => hc ⟨rfl, by rw [e]; exact hk⟩
                        rw [evZ_o (this 4 (by decide)) (this 5 (by decide)) (this 8 (by decide)) (this 9 (by decide)), tfZ_o (this 2 (by decide)) (this 6 (by decide))]
                      · unfold evZ tfZ
                        rw [upr_i hi, upr_i hi, upr_i hi, upr_i hi, upr_i hi, upr_i hi]
                    · rw [evZ_o (by decide) (by decide) (by decide) (by decide), tfZ_2, upd_n h2]
                  refine lv_if_eq (tgt := 175) hx hb dX1_takeFrame_142 (by decide) (fun h142 => ?_) (fun h142 => ?_)
                  · have hA : ∀ j, j < 64 → Z 4 0 (64 * sh + j) = Z 3 0 (64 * x + j) := fun j hj => (c6 sh x j hsh hxo hj e8 h142).symm
                    refine fin (Z 4 0) _ _ _ hl hA (fun _ _ => rfl) ?_
                    have e9 : upr (upr (tfZ Z r ((hd + (t + 1)) % o)) 4 0 (Z 4 0)) 9 0 (upd (Z 9 0) sh 0) = tfZ Z r ((hd + (t + 1)) % o) := by
                      have u1 : upd (Z 9 0) sh 0 = Z 9 0 := by
                        funext j
                        by_cases e : j = sh
                        · subst e; rw [upd_s]; exact h142.symm
                        · rw [upd_n e]
                      rw [u1]
                      have u2 : Z 4 0 = tfZ Z r ((hd + (t + 1)) % o) 4 0 := (tfZ_o (by decide) (by decide)).symm
                      rw [u2, upr_id]
                      have u3 : Z 9 0 = tfZ Z r ((hd + (t + 1)) % o) 9 0 := (tfZ_o (by decide) (by decide)).symm
                      rw [u3, upr_id]
                    rw [e9]
                    exact hw
                  · refine lv_aload_n hx hb dX1_takeFrame_145 rfl (hl.at rfl) ?_
                    refine w_get C hw (c0 := 2) (i0 := 0) rfl inA1 4 (by decide) mw27 rfl dX1_takeFrame_146 (hX 2 (by decide)) rfl rfl rfl ?_
                    refine lv_iload_n hx hb dX1_takeFrame_149 rfl (hl.at rfl) ?_
                    refine lv_bipush (v := 64) hx hb dX1_takeFrame_150 (by decide) ?_
                    refine lv_imul hx hb dX1_takeFrame_152 ?_
                    refine lv_aload_n hx hb dX1_takeFrame_153 rfl (hl.at rfl) ?_
                    refine w_get C hw (c0 := 2) (i0 := 0) rfl inA1 5 (by decide) mw28 rfl dX1_takeFrame_154 (hX 2 (by decide)) rfl rfl rfl ?_
                    refine lv_iload hx hb dX1_takeFrame_157 (hl.at rfl) ?_
                    refine lv_bipush (v := 64) hx hb dX1_takeFrame_159 (by decide) ?_
                    refine lv_imul hx hb dX1_takeFrame_161 ?_
                    refine lv_bipush (v := 64) hx hb dX1_takeFrame_162 (by decide) ?_
                    have hle4 : 64 * (sh + 1) ≤ X.2.1 4 := by
                      rcases c3 sh hsh with q | ⟨_, _, _, _, q⟩
                      · rw [q] at e8; exact absurd e8.symm (nI_ne_m1 (by omega))
                      · exact q
                    have ex : nI x * 64 = nI (64 * x) := by rw [show nI x * 64 = nI x * nI 64 from rfl, pk_mul, Nat.mul_comm]
                    have es : nI sh * 64 = nI (64 * sh) := by rw [show nI sh * 64 = nI sh * nI 64 from rfl, pk_mul, Nat.mul_comm]
                    rw [ex, es]
                    refine w_cpy C hw (c0 := 3) (i0 := 0) (c1 := 4) (i1 := 0) mw195 dX1_takeFrame_164 (hX 3 (by decide)) rfl rfl (hX 4 (by decide)) rfl (fun _ => rfl) (nI_pos (by omega)) (nI_pos (by omega)) (by decide) (nI_clamp (by omega)) (nI_clamp (by omega)) (jn := 64) (by decide) (by omega) (by omega) hl.1.1 (Nat.le_of_ble_eq_true rfl) (Nat.le_of_ble_eq_true rfl) (fun H locs hw => ?_)
                    refine lv_aload_n hx hb dX1_takeFrame_167 rfl (hl.at rfl) ?_
                    refine w_get C hw (c0 := 2) (i0 := 0) rfl inA1 10 (by decide) mw34 rfl dX1_takeFrame_168 (hX 2 (by decide)) rfl rfl rfl ?_
                    refine lv_iload hx hb dX1_takeFrame_171 (hl.at rfl) ?_
                    refine lv_iconst (v := 0) hx hb dX1_takeFrame_173 (by decide) ?_
                    refine w_zst C hw (c0 := 9) (i0 := 0) dX1_takeFrame_174 (hX 9 (by decide)) rfl (fun _ => rfl) (vp_in_nI hsh (by omega)) (nI_clamp (by omega)) (by decide) (fun H locs hw => ?_)
                    rw [upr_k (show (9 : Nat) ≠ 4 by decide), tfZ_o (c := 9) (by decide) (by decide), tfZ_o (c := 3) (by decide) (by decide), tfZ_o (c := 4) (by decide) (by decide)] at hw
                    refine fin _ _ _ _ hl (fun j hj => ?_) (fun j hj => ?_) hw
                    · rw [pk_cpy_in (by omega) (by omega)]
                      congr 1
                      omega
                    · exact pk_cpy_out (by omega)
            · refine lv_iload_n hx hb dX1_takeFrame_119 rfl (hl.at rfl) ?_
              have hT := tfZ_HA (r := r) hH0 hxn2
              refine w_iret C hw hr hlocks dX1_takeFrame_120 ⟨rfl, x, rfl, X.2.1, o, _, g3, rfl, rfl, rfl, ?_, hxo, Nat.le_refl _, hT, by omega, by omega, by rw [tfZ_o (c := 5) (by decide) (by decide)]; exact h116, fun s hs e => ?_, fun s hs => ?_, fun s j hs hj => tfZ_scn, fun c i hc => ?_, fun j h1 h2 => ?_⟩
              · rcases hkp with rfl | ⟨kf, q1, rfl, q2⟩
                · exact nI_ne_m1 (by omega)
                · intro e
                  have := nI_inj (by omega) (by omega) e
                  subst this
                  exact q2 h116
              · rw [tfZ_o (c := 8) (by decide) (by decide), tfZ_o (c := 9) (by decide) (by decide)]
                exact ⟨e, rfl⟩
              · rw [tfZ_o (c := 8) (by decide) (by decide)]
                exact Or.inr rfl
              · by_cases hi : i = 0
                · subst hi
                  have : ∀ k, (k = 2 ∨ k = 3 ∨ k = 4 ∨ k = 5 ∨ k = 6 ∨ k = 8 ∨ k = 9) → c ≠ k := fun k hk e => hc ⟨rfl, by rw [e]; exact hk⟩
                  rw [tfZ_o (this 2 (by decide)) (this 6 (by decide))]
                · unfold tfZ
                  rw [upr_i hi, upr_i hi]
              · rw [tfZ_2, upd_n h2]
          refine lv_icmp_ge (tgt := 101) hx hb dX1_takeFrame_89 (by decide) (fun h89 => ?_) (fun h89 => ?_)
          · refine lv_iconst (v := 0) hx hb dX1_takeFrame_101 (by decide) ?_
            have e1 : (0 : Int32) = nI ((hd + (t + 1)) % o) := by
              rw [nI_1] at h89
              rw [hxn, if_neg (fun q => nI_ge q hh31 h89)]; rfl
            rw [e1]
            exact join _ _ _ hl hw
          · refine lv_aload_n hx hb dX1_takeFrame_92 rfl (hl.at rfl) ?_
            refine w_get C hw (c0 := 2) (i0 := 0) rfl inA1 2 (by decide) mw56 rfl dX1_takeFrame_93 (hX 2 (by decide)) rfl rfl rfl ?_
            refine lv_topi (fun y ey => ?_)
            obtain rfl : y = nI x := ey.trans (by rw [tfZ_2, upd_s])
            refine lv_iconst (v := 1) hx hb dX1_takeFrame_96 (by decide) ?_
            refine lv_iadd hx hb dX1_takeFrame_97 ?_
            refine lv_goto (tgt := 102) hx hb dX1_takeFrame_98 (by decide) ?_
            have e1 : nI x + 1 = nI ((hd + (t + 1)) % o) := by
              rw [nI_1] at h89 ⊢
              rw [hxn, if_pos]
              rcases Nat.lt_or_ge (x + 1) o with q | q
              · exact q
              · exact absurd (nI_le q (by omega)) h89
            rw [e1]
            exact join _ _ _ hl hw
    have e0 : Wd sz0 D cs s X (tfZ Z (Z 6 0) ((hd + 0) % o)) Y s.heap [] := by
      have e1 : tfZ Z (Z 6 0) ((hd + 0) % o) = Z := by
        unfold tfZ
        rw [upr_id, Nat.add_zero, Nat.mod_eq_of_lt a4]
        have e2 : upd (Z 2 0) 2 (nI hd) = Z 2 0 := by
          funext j
          by_cases e : j = 2
          · subst e; rw [upd_s]; exact b3.symm
          · rw [upd_n e]
        rw [e2, upr_id]
      rw [e1]
      exact hw
    exact loop (o + 1) 0 (by omega) (Z 6 0) (fun u hu => absurd hu (Nat.not_lt_zero u)) (fun q => by omega) _ _ _ _ _ hl e0
  · have hoh : o < h := by
      rcases Nat.lt_or_ge o h with q | q
      · exact q
      · exact absurd (nI_le q (by omega)) h8
    refine lv_aload_n hx hb dX1_takeFrame_11 rfl (hl.at rfl) ?_
    refine lv_dup hx hb dX1_takeFrame_12 rfl ?_
    refine w_get C hw (c0 := 2) (i0 := 0) rfl inA1 1 (by decide) mw55 rfl dX1_takeFrame_13 (hX 2 (by decide)) rfl rfl rfl ?_
    refine lv_topi (fun y ey => ?_)
    obtain rfl : y = nI o := ey.trans b2
    refine lv_iconst (v := 1) hx hb dX1_takeFrame_16 (by decide) ?_
    refine lv_iadd hx hb dX1_takeFrame_17 ?_
    refine lv_topi (fun y ey => ?_)
    obtain rfl : y = nI (o + 1) := ey.trans (nI_1 o)
    refine w_put C hw (c0 := 2) (i0 := 0) rfl inA1 tyX1_ok nmX1 1 (by decide) mw55 rfl rfl rfl dX1_takeFrame_18 (hX 2 (by decide)) rfl rfl rfl rfl (Nat.le_of_ble_eq_true rfl) rfl (fun H locs hw => ?_)
    refine lv_aload_n hx hb dX1_takeFrame_21 rfl (hl.at rfl) ?_
    refine w_get C hw (c0 := 2) (i0 := 0) rfl inA1 4 (by decide) mw27 rfl dX1_takeFrame_22 (hX 2 (by decide)) rfl rfl rfl ?_
    refine w_len C hw (c0 := 3) (i0 := 0) (ty := 0) dX1_takeFrame_25 (hX 3 (by decide)) rfl rfl rfl rfl rfl ?_
    refine lv_aload_n hx hb dX1_takeFrame_26 rfl (hl.at rfl) ?_
    refine w_get C hw (c0 := 2) (i0 := 0) rfl inA1 1 (by decide) mw55 rfl dX1_takeFrame_27 (hX 2 (by decide)) rfl rfl rfl ?_
    refine lv_topi (fun y ey => ?_)
    obtain rfl : y = nI (o + 1) := ey.trans (by rw [upr_s, upd_s])
    refine lv_bipush (v := 64) hx hb dX1_takeFrame_30 (by decide) ?_
    refine lv_imul hx hb dX1_takeFrame_32 ?_
    have em : nI (o + 1) * 64 = nI (64 * (o + 1)) := by rw [show nI (o + 1) * 64 = nI (o + 1) * nI 64 from rfl, pk_mul, Nat.mul_comm]
    rw [em]
    have hkpo : nI o ≠ kp := by
      rcases hkp with rfl | ⟨kf, q1, rfl, -⟩
      · exact nI_ne_m1 ho31
      · intro e; have := nI_inj ho31 (by omega) e; omega
    refine lv_icmp_ge (tgt := 54) hx hb dX1_takeFrame_33 (by decide) (fun h33 => ?_) (fun h33 => ?_)
    · refine lv_aload_n hx hb dX1_takeFrame_54 rfl (hl.at rfl) ?_
      refine w_get C hw (c0 := 2) (i0 := 0) rfl inA1 1 (by decide) mw55 rfl dX1_takeFrame_55 (hX 2 (by decide)) rfl rfl rfl ?_
      refine lv_topi (fun y ey => ?_)
      obtain rfl : y = nI (o + 1) := ey.trans (by rw [upr_s, upd_s])
      refine lv_iconst (v := 1) hx hb dX1_takeFrame_58 (by decide) ?_
      refine lv_isub hx hb dX1_takeFrame_59 ?_
      refine lv_topi (fun y ey => ?_)
      obtain rfl : y = nI o := ey.trans (nI_pred o)
      have hle := (nI_leI (show 64 * (o + 1) < 2 ^ 31 by omega) (show X.2.1 3 < 2 ^ 31 by omega)).mp h33
      obtain ⟨m1, m2, m3⟩ := op_main (X' := X) (Z' := upr Z 2 0 (upd (Z 2 0) 1 (nI (o + 1)))) (g3' := g3) hH0 hoh rfl ⟨hle, c12, c13, c14⟩ (by rw [upr_s]) (fun j _ => by rw [upr_k (by decide)]) (fun c h2 h3 => by rw [upr_k h2])
      refine w_iret C hw hr hlocks dX1_takeFrame_60 ⟨rfl, o, rfl, X.2.1, o + 1, hd, g3, rfl, rfl, rfl, hkpo, by omega, by omega, m1, by omega, by omega, m3, fun s hs e => ?_, fun s hs => ?_, m2, fun c i hc => ?_, fun j h1 h2 => ?_⟩
      · rw [upr_k (by decide), upr_k (by decide)]; exact ⟨e, rfl⟩
      · rw [upr_k (by decide)]; exact Or.inr rfl
      · exact upr_n (fun q => hc ⟨q.2, Or.inl q.1⟩)
      · rw [upr_s, upd_n h1]
    · refine lv_aload_n hx hb dX1_takeFrame_36 rfl (hl.at rfl) ?_
      refine lv_aload_n hx hb dX1_takeFrame_37 rfl (hl.at rfl) ?_
      refine w_get C hw (c0 := 2) (i0 := 0) rfl inA1 4 (by decide) mw27 rfl dX1_takeFrame_38 (hX 2 (by decide)) rfl rfl rfl ?_
      refine lv_iconst (v := 2) hx hb dX1_takeFrame_41 (by decide) ?_
      refine lv_aload_n hx hb dX1_takeFrame_42 rfl (hl.at rfl) ?_
      refine w_get C hw (c0 := 2) (i0 := 0) rfl inA1 4 (by decide) mw27 rfl dX1_takeFrame_43 (hX 2 (by decide)) rfl rfl rfl ?_
      have hlt : X.2.1 3 < 64 * (o + 1) := by
        rcases Nat.lt_or_ge (X.2.1 3) (64 * (o + 1)) with q | q
        · exact q
        · exact absurd (nI_le q (by omega)) h33
      have hg3 : 1 ≤ g3 := by
        rcases g3 with _ | g
        · simp at c14; omega
        · omega
      refine w_len C hw (c0 := 3) (i0 := 0) (ty := 0) dX1_takeFrame_46 (hX 3 (by decide)) rfl rfl rfl rfl rfl ?_
      refine lv_imul hx hb dX1_takeFrame_47 ?_
      refine lv_topi (fun y ey => ?_)
      obtain rfl : y = nI (2 * X.2.1 3) := ey.trans (pk_mul 2 (X.2.1 3))
      refine w_callS C hN hw (c_copyOf l sz0 D cs X _ Y 3 0 (X.2.1 3) (2 * X.2.1 3) kc ks (hX 3 (by decide)) (fun _ => rfl) (by omega) (by omega) (by omega) (by omega)) ⟨(Nat.le_of_ble_eq_true rfl), (Nat.le_of_ble_eq_true rfl), mw209, mw60, cy_J7_copyOf_59c91⟩ mw207 mw208 rfl hl.1.1 rfl (Nat.le_of_ble_eq_true rfl) dX1_takeFrame_48 ⟨by show 0 + kc ≤ kc; omega, by show 0 + ks ≤ ks; omega⟩ (fun X' Z' Y' v k n H locs hp hw => ?_)
      obtain ⟨rfl, rfl, rfl, rfl, q, rfl, rfl⟩ := hp
      refine w_putM C hw (c0 := 3) (k0 := 4) (Or.inl rfl) rfl mw27 dX1_takeFrame_51 (hX 2 (by decide)) (fun i hi => hU 3 i (by decide) hi) (fun i hi => hU 2 i (by decide) hi) (fun H locs hw => ?_)
      refine lv_aload_n hx hb dX1_takeFrame_54 rfl (hl.at rfl) ?_
      refine w_get C hw (c0 := 2) (i0 := 0) rfl inA1 1 (by decide) mw55 rfl dX1_takeFrame_55 (hX 2 (by decide)) rfl rfl rfl ?_
      refine lv_topi (fun y ey => ?_)
      obtain rfl : y = nI (o + 1) := ey.trans (by rw [upr_k (by decide), upr_s, upd_s])
      refine lv_iconst (v := 1) hx hb dX1_takeFrame_58 (by decide) ?_
      refine lv_isub hx hb dX1_takeFrame_59 ?_
      refine lv_topi (fun y ey => ?_)
      obtain rfl : y = nI o := ey.trans (nI_pred o)
      obtain ⟨m1, m2, m3⟩ := op_main (X' := shM X 3 q (2 * X.2.1 3)) (Z' := upr (upr Z 2 0 (upd (Z 2 0) 1 (nI (o + 1)))) 3 0 (fun j => if j < X.2.1 3 then (upr Z 2 0 (upd (Z 2 0) 1 (nI (o + 1)))) 3 0 j else 0)) (g3' := g3 - 1) hH0 hoh (by simp [va_up]) (by
          have e1 : (shM X 3 q (2 * X.2.1 3)).2.1 3 = 2 * X.2.1 3 := by simp [va_up]
          rw [e1]
          refine ⟨by omega, by omega, by omega, ?_⟩
          obtain ⟨g, rfl⟩ : ∃ g, g3 = g + 1 := ⟨g3 - 1, by omega⟩
          rw [Nat.add_sub_cancel]
          rw [Nat.pow_succ] at c14
          rw [Nat.mul_comm 2, Nat.mul_assoc, Nat.mul_comm 2]
          exact c14) (by rw [upr_k (by decide), upr_s]) (fun j hj => by rw [upr_s, if_pos (by omega), upr_k (by decide)]) (fun c h2 h3 => by rw [upr_k h3, upr_k h2])
      refine w_iret C hw hr hlocks dX1_takeFrame_60 ⟨rfl, o, rfl, _, o + 1, hd, g3 - 1, rfl, by simp [va_up], by simp [va_up], hkpo, by omega, by omega, m1, by show 0 + 1 + (g3 - 1) ≤ g3; omega, by show 0 + 2 * X.2.1 3 ≤ 32768 * (0 + 1); omega, m3, fun s hs e => ?_, fun s hs => ?_, m2, fun c i hc => ?_, fun j h1 h2 => ?_⟩
      · rw [upr_k (by decide), upr_k (by decide), upr_k (by decide), upr_k (by decide)]; exact ⟨e, rfl⟩
      · rw [upr_k (by decide), upr_k (by decide)]; exact Or.inr rfl
      · rw [upr_n (fun q => hc ⟨q.2, Or.inr (Or.inl q.1)⟩), upr_n (fun q => hc ⟨q.2, Or.inl q.1⟩)]
      · rw [upr_k (by decide), upr_s, upd_n h1]
end
section
/-- a sheet comes into a free frame -/
theorem as_main {X : Sh} {Z Z' : ZT} {h o hd g3 g4 f s : Nat} {ch : Int32} (H : HA X Z h o hd g3 g4) (hs : s < 513) (hf : f < o) (h5 : Z 5 0 f = -1) (h8 : Z 8 0 s = -1) (hla : 64 * (s + 1) ≤ X.2.1 4) (hch : ch = 0 ∨ (ch = 1 ∧ s ≠ 0))
    (r2 : ∀ j, j < 3 → Z' 2 0 j = Z 2 0 j) (r3 : ∀ j, ¬ (64 * f ≤ j ∧ j < 64 * f + 64) → Z' 3 0 j = Z 3 0 j) (r3' : ch = 0 → ∀ j, j < 64 → Z' 3 0 (64 * f + j) = Z 4 0 (64 * s + j)) (r4 : Z' 4 0 = Z 4 0) (r5 : Z' 5 0 = upd (Z 5 0) f (nI s)) (r8 : Z' 8 0 = upd (Z 8 0) s (nI f)) (r9 : Z' 9 0 = upd (Z 9 0) s ch) :
    HA X Z' h o hd g3 g4 ∧ (∀ s' j, s' < 513 → j < 64 → s' ≠ s → scn Z' s' j = scn Z s' j) ∧ (∀ j, scn Z' s j = Z' 3 0 (64 * f + j)) := by
  obtain ⟨⟨a1, a2, a3, a4⟩, ⟨b1, b2, b3⟩, c1, c2, c3, c4, c5, c6, c7⟩ := H
  have hf31 : f < 2 ^ 31 := by omega
  have hs31 : s < 2 ^ 31 := by omega
  have none : ∀ s', s' < 513 → Z 8 0 s' ≠ nI f := by
    intro s' hs' e
    rcases c3 s' hs' with q | ⟨f', hf', e1, e2, -⟩
    · rw [q] at e; exact absurd e.symm (nI_ne_m1 hf31)
    · have : f' = f := nI_inj (by omega) hf31 (e1.symm.trans e)
      subst this
      rw [h5] at e2
      exact absurd e2.symm (nI_ne_m1 (by omega))
  refine ⟨⟨⟨a1, a2, a3, a4⟩, ?_, c1, c2, ?_, ?_, ?_, ?_, ?_⟩, ?_, ?_⟩
  · rw [r2 0 (by decide), r2 1 (by decide), r2 2 (by decide)]
    exact ⟨b1, b2, b3⟩
  · intro s' hs'
    rw [r8, r5]
    by_cases e : s' = s
    · subst e
      exact Or.inr ⟨f, hf, upd_s, upd_s, hla⟩
    · rw [upd_n e]
      rcases c3 s' hs' with q | ⟨f', hf', e1, e2, e3⟩
      · exact Or.inl q
      · refine Or.inr ⟨f', hf', e1, ?_, e3⟩
        rw [upd_n]
        · exact e2
        · intro q
          subst q
          exact none s' hs' e1
  · intro f' hf'
    rw [r8, r5]
    by_cases e : f' = f
    · subst e
      exact Or.inr ⟨s, hs, hf, upd_s, upd_s⟩
    · rw [upd_n e]
      rcases c4 f' hf' with q | ⟨s', hs', e0, e1, e2⟩
      · exact Or.inl q
      · refine Or.inr ⟨s', hs', e0, e1, ?_⟩
        rw [upd_n]
        · exact e2
        · intro q
          subst q
          rw [h8] at e2
          exact absurd e2.symm (nI_ne_m1 (by omega))
  · intro s' hs'
    rw [r8, r9]
    by_cases e : s' = s
    · subst e
      rw [upd_s, upd_s]
      rcases hch with q | ⟨q1, q2⟩
      · exact Or.inl q
      · exact Or.inr ⟨q1, nI_ne_m1 hf31, q2⟩
    · rw [upd_n e, upd_n e]
      exact c5 s' hs'
  · intro s' f' k hs' hf' hk e1 e2
    rw [r8] at e1
    rw [r9] at e2
    rw [r4]
    by_cases e : s' = s
    · subst e
      rw [upd_s] at e1 e2
      have : f' = f := nI_inj (by omega) hf31 e1.symm
      subst this
      exact r3' e2 k hk
    · rw [upd_n e] at e1 e2
      have hne : f' ≠ f := fun q => none s' hs' (by rw [e1, q])
      rw [r3 _ (by omega)]
      exact c6 s' f' k hs' hf' hk e1 e2
  · rw [r4]; exact c7
  · intro s' j hs' hj e
    rcases c3 s' hs' with q | ⟨f', hf', e1, -, -⟩
    · rw [scn_away (show Z' 8 0 s' = -1 by rw [r8, upd_n e]; exact q), scn_away q, r4]
    · have hne : f' ≠ f := fun q => none s' hs' (by rw [e1, q])
      rw [scn_mem (by omega) (show Z' 8 0 s' = nI f' by rw [r8, upd_n e]; exact e1), scn_mem (by omega) e1, r3 _ (by omega)]
  · intro j
    exact scn_mem hf31 (by rw [r8, upd_s])
/-- what bringing sheet s leaves -/
def BR (X : Sh) (Z : ZT) (h o g3 g4 s : Nat) (X' : Sh) (Z' : ZT) (f k n : Nat) : Prop :=
  ∃ (V : Nat → Nat) (o' hd' g3' : Nat), X' = (X.1, V, X.2.2) ∧ V 4 = X.2.1 4 ∧ V 14 = X.2.1 14 ∧ f < o' ∧ o ≤ o' ∧ HA X' Z' h o' hd' g3' g4 ∧ k + g3' ≤ g3 ∧ n ≤ 32768 * k ∧ Z' 8 0 s = nI f ∧
    (∀ s j, s < 513 → j < 64 → scn Z' s j = scn Z s j) ∧ (∀ c i, ¬ tfR c i → Z' c i = Z c i) ∧ (∀ j, j ≠ 1 → j ≠ 2 → Z' 2 0 j = Z 2 0 j) ∧ (∀ s', s' < 513 → Z' 8 0 s' = -1 ∨ Z' 8 0 s' = Z 8 0 s' ∨ s' = s)
def isShv (a : Int32) : Int32 := if a < 0 then 0 else if 513 ≤ a then 0 else 1
theorem isShv_nI {s : Nat} (h : s < 513) : isShv (nI s) = 1 := by
  unfold isShv
  rw [if_neg (nI_pos (by omega)), if_neg (show ¬ (513 : Int32) ≤ nI s from fun q => nI_ge h (by decide) q)]
end
section
set_option maxHeartbeats 4000000 in
set_option maxRecDepth 100000 in
theorem c_X1_isSheet (l : Launch) (sz0 : Nat) (D : va_G) (cs : Nat → ClassId) (X : Sh) (Z : ZT) (Y : va_W) (a : Int32) : Ctr l yX1_isSheet (wsM yX1_isSheet cX1_isSheet 2 (some .boolean)) ({ frames := 0, cells := 0, slots := 0, locals := 0 } : Room) sz0 D cs [.ref (X.1 2 0), .int a] X Z Y (Pz X Y (fun Z' v => Z = Z' ∧ v = some (.int (isShv a)))) := by
  refine Ctr.ofW (by decide +kernel) (by intro v hv; simp at hv; rcases hv with rfl | rfl <;> rfl) (Nat.le_of_ble_eq_true rfl) ?_
  intro p e s m below meth c ls C hr hlocks hname hl hN hw
  obtain ⟨hx, hb, hml, hown, hts⟩ := id C
  refine lv_iload_n hx hb dX1_isSheet_0 rfl (hl.at rfl) ?_
  refine lv_if_lt (tgt := 15) hx hb dX1_isSheet_1 (by decide) (fun h1 => ?_) (fun h1 => ?_)
  · refine lv_iconst (v := 0) hx hb dX1_isSheet_15 (by decide) ?_
    exact w_zret C hw hr hlocks dX1_isSheet_16 (by decide) ⟨rfl, rfl, rfl, rfl, rfl, by simp [isShv, *]⟩
  · refine lv_iload_n hx hb dX1_isSheet_4 rfl (hl.at rfl) ?_
    refine lv_sipush (v := 513) hx hb dX1_isSheet_5 (by decide) ?_
    refine lv_icmp_ge (tgt := 15) hx hb dX1_isSheet_8 (by decide) (fun h8 => ?_) (fun h8 => ?_)
    · refine lv_iconst (v := 0) hx hb dX1_isSheet_15 (by decide) ?_
      exact w_zret C hw hr hlocks dX1_isSheet_16 (by decide) ⟨rfl, rfl, rfl, rfl, rfl, by simp [isShv, *]⟩
    · refine lv_iconst (v := 1) hx hb dX1_isSheet_11 (by decide) ?_
      refine lv_goto (tgt := 16) hx hb dX1_isSheet_12 (by decide) ?_
      exact w_zret C hw hr hlocks dX1_isSheet_16 (by decide) ⟨rfl, rfl, rfl, rfl, rfl, by simp [isShv, *]⟩

set_option maxHeartbeats 4000000 in
set_option maxRecDepth 100000 in
theorem c_X1_bring (l : Launch) (sz0 : Nat) (D : va_G) (cs : Nat → ClassId) (X : Sh) (Z : ZT) (Y : va_W) (hX : HXI X) (hU : HUI X) (h o hd g3 g4 kc ks sh : Nat) (hH : HA X Z h o hd g3 g4) (hsh : sh < 513) (hla : 64 * (sh + 1) ≤ X.2.1 4) (hkc : g3 ≤ kc) (hks : 32768 * g3 ≤ ks) : Ctr l yX1_bring (wsM yX1_bring cX1_bring 3 (some .int)) ({ frames := 3, cells := kc, slots := ks, locals := 72 } : Room) sz0 D cs [.ref (X.1 2 0), .int (nI sh)] X Z Y (fun X' Z' Y' v k n => Y = Y' ∧ ∃ f, v = some (.int (nI f)) ∧ BR X Z h o g3 g4 sh X' Z' f k n) := by
  refine Ctr.ofW (by decide +kernel) (by intro v hv; simp at hv; rcases hv with rfl | rfl <;> rfl) (Nat.le_of_ble_eq_true rfl) ?_
  intro p e s m below meth c ls C hr hlocks hname hl hN hw
  obtain ⟨hx, hb, hml, hown, hts⟩ := id C
  have hH0 := hH
  obtain ⟨⟨a1, a2, a3, a4⟩, ⟨b1, b2, b3⟩, ⟨c11, c12, c13, c14⟩, c2, c3, c4, c5, c6, c7⟩ := hH
  refine lv_aload_n hx hb dX1_bring_0 rfl (hl.at rfl) ?_
  refine lv_iload_n hx hb dX1_bring_1 rfl (hl.at rfl) ?_
  refine w_callV C hN hw (c_X1_isSheet l sz0 D cs X _ Y _) ⟨(Nat.le_of_ble_eq_true rfl), (Nat.le_of_ble_eq_true rfl), mw202, mw15, cy_X1_isSheet⟩ mw199 mw200 mw201 (w_rec hw (c0 := 2) (i0 := 0) (hX 2 (by decide)) rfl rfl) rfl hl.1.1 rfl (Nat.le_of_ble_eq_true rfl) dX1_bring_2 ⟨by show 0 + 0 ≤ kc; omega, by show 0 + 0 ≤ ks; omega⟩ (fun X' Z' Y' v k n H locs hp hw => ?_)
  obtain ⟨rfl, rfl, rfl, rfl, rfl, rfl⟩ := hp
  rw [isShv_nI hsh]
  refine lv_if_ne (tgt := 10) hx hb dX1_bring_5 (by decide) (fun h5 => ?_) (fun h5 => ?_)
  · refine lv_aload_n hx hb dX1_bring_10 rfl (hl.at rfl) ?_
    refine w_get C hw (c0 := 2) (i0 := 0) rfl inA1 9 (by decide) mw33 rfl dX1_bring_11 (hX 2 (by decide)) rfl rfl rfl ?_
    refine lv_iload_n hx hb dX1_bring_14 rfl (hl.at rfl) ?_
    refine w_ild C hw (c0 := 8) (i0 := 0) dX1_bring_15 (hX 8 (by decide)) rfl rfl (vp_in_nI hsh (by omega)) (nI_clamp (by omega)) ?_
    refine w_istore_n hx hb dX1_bring_16 rfl hl (Nat.le_of_ble_eq_true rfl) (fun ls hl => ?_)
    refine lv_iload_n hx hb dX1_bring_17 rfl (hl.at rfl) ?_
    refine lv_iconst (v := -1) hx hb dX1_bring_18 (by decide) ?_
    refine lv_icmp_ne (tgt := 70) hx hb dX1_bring_19 (by decide) (fun h19 => ?_) (fun h19 => ?_)
    · obtain ⟨f, hf, e8, e5, -⟩ := (c3 sh hsh).resolve_left h19
      rw [e8] at hl
      refine lv_aload_n hx hb dX1_bring_70 rfl (hl.at rfl) ?_
      refine w_get C hw (c0 := 2) (i0 := 0) rfl inA1 7 (by decide) mw31 rfl dX1_bring_71 (hX 2 (by decide)) rfl rfl rfl ?_
      refine lv_iload_n hx hb dX1_bring_74 rfl (hl.at rfl) ?_
      refine lv_iconst (v := 1) hx hb dX1_bring_75 (by decide) ?_
      refine w_zst C hw (c0 := 6) (i0 := 0) dX1_bring_76 (hX 6 (by decide)) rfl (fun _ => rfl) (vp_in_nI (show f < 256 by omega) (by omega)) (nI_clamp (by omega)) (by decide) (fun H locs hw => ?_)
      refine lv_iload_n hx hb dX1_bring_77 rfl (hl.at rfl) ?_
      have e1 : upr Z 6 0 (upd (Z 6 0) f 1) = tfZ Z (upd (Z 6 0) f 1) hd := by
        unfold tfZ
        have e2 : upd (Z 2 0) 2 (nI hd) = upr Z 6 0 (upd (Z 6 0) f 1) 2 0 := by
          rw [upr_k (by decide)]
          funext j
          by_cases e : j = 2
          · subst e; rw [upd_s]; exact b3.symm
          · rw [upd_n e]
        rw [e2, upr_id]
      rw [e1] at hw
      refine w_iret C hw hr hlocks dX1_bring_78 ⟨rfl, f, rfl, X.2.1, o, hd, g3, rfl, rfl, rfl, hf, Nat.le_refl _, tfZ_HA hH0 a4, by omega, by omega, by rw [tfZ_o (by decide) (by decide)]; exact e8, fun s j hs hj => tfZ_scn, fun c i hc => ?_, fun j h1 h2 => ?_, fun s' _ => Or.inr (Or.inl (by rw [tfZ_o (by decide) (by decide)]))⟩
      · by_cases hi : i = 0
        · subst hi
          have : ∀ k, (k = 2 ∨ k = 3 ∨ k = 4 ∨ k = 5 ∨ k = 6 ∨ k = 8 ∨ k = 9) → c ≠ k := fun k hk e => hc ⟨rfl, by rw [e]; exact hk⟩
          rw [tfZ_o (this 2 (by decide)) (this 6 (by decide))]
        · unfold tfZ
          rw [upr_i hi, upr_i hi]
      · rw [tfZ_2, upd_n h2]
    · refine lv_aload_n hx hb dX1_bring_22 rfl (hl.at rfl) ?_
      refine lv_iconst (v := -1) hx hb dX1_bring_23 (by decide) ?_
      refine w_callV C hN hw (c_X1_takeFrame l sz0 D cs X _ Y hX hU h o hd g3 g4 kc ks (-1) hH0 (Or.inl rfl) hkc hks) ⟨(Nat.le_of_ble_eq_true rfl), (Nat.le_of_ble_eq_true rfl), mw206, mw15, cy_X1_takeFrame⟩ mw203 mw204 mw205 (w_rec hw (c0 := 2) (i0 := 0) (hX 2 (by decide)) rfl rfl) rfl hl.1.1 rfl (Nat.le_of_ble_eq_true rfl) dX1_bring_24 ⟨by show 0 + kc ≤ kc; omega, by show 0 + ks ≤ ks; omega⟩ (fun X' Z' Y' v k n H locs hp hw => ?_)
      obtain ⟨rfl, f, rfl, V, o2, hd2, g32, rfl, v4, v14, hfk, hf, ho2, hA2, hk2, hn2, h52, t1, t2, t3, t4, t5⟩ := hp
      have hA3 := hA2
      obtain ⟨⟨q1, q2, q3, q4⟩, -, ⟨q11, q12, q13, q14⟩, -⟩ := hA2
      have hf31 : f < 2 ^ 31 := by omega
      have h82 : Z' 8 0 sh = -1 := by
        rcases t2 sh hsh with q | q
        · exact q
        · rw [q]; exact h19
      refine w_istore_n hx hb dX1_bring_27 rfl hl (Nat.le_of_ble_eq_true rfl) (fun ls hl => ?_)
      refine lv_iload_n hx hb dX1_bring_28 rfl (hl.at rfl) ?_
      refine lv_iconst (v := -1) hx hb dX1_bring_29 (by decide) ?_
      refine lv_icmp_ne (tgt := 35) hx hb dX1_bring_30 (by decide) (fun h30 => ?_) (fun h30 => ?_)
      · refine lv_aload_n hx hb dX1_bring_35 rfl (hl.at rfl) ?_
        refine w_get C hw (c0 := 2) (i0 := 0) rfl inA1 5 (by decide) mw28 rfl dX1_bring_36 (hX 2 (by decide)) rfl rfl rfl ?_
        refine lv_iload_n hx hb dX1_bring_39 rfl (hl.at rfl) ?_
        refine lv_bipush (v := 64) hx hb dX1_bring_40 (by decide) ?_
        refine lv_imul hx hb dX1_bring_42 ?_
        refine lv_aload_n hx hb dX1_bring_43 rfl (hl.at rfl) ?_
        refine w_get C hw (c0 := 2) (i0 := 0) rfl inA1 4 (by decide) mw27 rfl dX1_bring_44 (hX 2 (by decide)) rfl rfl rfl ?_
        refine lv_iload_n hx hb dX1_bring_47 rfl (hl.at rfl) ?_
        refine lv_bipush (v := 64) hx hb dX1_bring_48 (by decide) ?_
        refine lv_imul hx hb dX1_bring_50 ?_
        refine lv_bipush (v := 64) hx hb dX1_bring_51 (by decide) ?_
        have ex : nI f * 64 = nI (64 * f) := by rw [show nI f * 64 = nI f * nI 64 from rfl, pk_mul, Nat.mul_comm]
        have es : nI sh * 64 = nI (64 * sh) := by rw [show nI sh * 64 = nI sh * nI 64 from rfl, pk_mul, Nat.mul_comm]
        rw [ex, es]
        refine w_cpy C hw (c0 := 4) (i0 := 0) (c1 := 3) (i1 := 0) mw195 dX1_bring_53 (hX 4 (by decide)) rfl rfl (hX 3 (by decide)) rfl (fun _ => rfl) (nI_pos (by omega)) (nI_pos (by omega)) (by decide) (nI_clamp (by omega)) (nI_clamp (by omega)) (jn := 64) (by decide) (show 64 * sh + 64 ≤ V 4 by omega) (show 64 * f + 64 ≤ V 3 by have := q11; dsimp only at this; omega) hl.1.1 (Nat.le_of_ble_eq_true rfl) (Nat.le_of_ble_eq_true rfl) (fun H locs hw => ?_)
        refine lv_aload_n hx hb dX1_bring_56 rfl (hl.at rfl) ?_
        refine w_get C hw (c0 := 2) (i0 := 0) rfl inA1 6 (by decide) mw29 rfl dX1_bring_57 (hX 2 (by decide)) rfl rfl rfl ?_
        refine lv_iload_n hx hb dX1_bring_60 rfl (hl.at rfl) ?_
        refine lv_iload_n hx hb dX1_bring_61 rfl (hl.at rfl) ?_
        refine w_ist C hw (c0 := 5) (i0 := 0) dX1_bring_62 (hX 5 (by decide)) rfl (fun _ => rfl) (vp_in_nI (show f < 256 by omega) (by omega)) (nI_clamp (by omega)) (fun H locs hw => ?_)
        refine lv_aload_n hx hb dX1_bring_63 rfl (hl.at rfl) ?_
        refine w_get C hw (c0 := 2) (i0 := 0) rfl inA1 9 (by decide) mw33 rfl dX1_bring_64 (hX 2 (by decide)) rfl rfl rfl ?_
        refine lv_iload_n hx hb dX1_bring_67 rfl (hl.at rfl) ?_
        refine lv_iload_n hx hb dX1_bring_68 rfl (hl.at rfl) ?_
        refine w_ist C hw (c0 := 8) (i0 := 0) dX1_bring_69 (hX 8 (by decide)) rfl (fun _ => rfl) (vp_in_nI hsh (by omega)) (nI_clamp (by omega)) (fun H locs hw => ?_)
        refine lv_aload_n hx hb dX1_bring_70 rfl (hl.at rfl) ?_
        refine w_get C hw (c0 := 2) (i0 := 0) rfl inA1 7 (by decide) mw31 rfl dX1_bring_71 (hX 2 (by decide)) rfl rfl rfl ?_
        refine lv_iload_n hx hb dX1_bring_74 rfl (hl.at rfl) ?_
        refine lv_iconst (v := 1) hx hb dX1_bring_75 (by decide) ?_
        refine w_zst C hw (c0 := 6) (i0 := 0) dX1_bring_76 (hX 6 (by decide)) rfl (fun _ => rfl) (vp_in_nI (show f < 256 by omega) (by omega)) (nI_clamp (by omega)) (by decide) (fun H locs hw => ?_)
        refine lv_iload_n hx hb dX1_bring_77 rfl (hl.at rfl) ?_
        simp only [upr_k (show (5 : Nat) ≠ 3 by decide), upr_k (show (8 : Nat) ≠ 5 by decide), upr_k (show (8 : Nat) ≠ 3 by decide), upr_k (show (6 : Nat) ≠ 8 by decide), upr_k (show (6 : Nat) ≠ 5 by decide), upr_k (show (6 : Nat) ≠ 3 by decide)] at hw
        obtain ⟨Z2, hZ2⟩ : ∃ Z2, Z2 = upr (upr (upr (upr Z' 3 0 (va_cpy (Z' 4 0) (Z' 3 0) (64 * sh) (64 * f) 64)) 5 0 (upd (Z' 5 0) f (nI sh))) 8 0 (upd (Z' 8 0) sh (nI f))) 6 0 (upd (Z' 6 0) f 1) := ⟨_, rfl⟩
        rw [← hZ2] at hw
        have z2 : Z2 2 0 = Z' 2 0 := by rw [hZ2, upr_k (by decide), upr_k (by decide), upr_k (by decide), upr_k (by decide)]
        have z3 : Z2 3 0 = va_cpy (Z' 4 0) (Z' 3 0) (64 * sh) (64 * f) 64 := by rw [hZ2, upr_k (by decide), upr_k (by decide), upr_k (by decide), upr_s]
        have z4 : Z2 4 0 = Z' 4 0 := by rw [hZ2, upr_k (by decide), upr_k (by decide), upr_k (by decide), upr_k (by decide)]
        have z5 : Z2 5 0 = upd (Z' 5 0) f (nI sh) := by rw [hZ2, upr_k (by decide), upr_k (by decide), upr_s]
        have z8 : Z2 8 0 = upd (Z' 8 0) sh (nI f) := by rw [hZ2, upr_k (by decide), upr_s]
        have z90 : Z' 9 0 sh = 0 := by
          obtain ⟨-, -, -, -, -, -, q, -, -⟩ := hA3
          rcases q sh hsh with q | ⟨-, q, -⟩
          · exact q
          · exact absurd h82 q
        have z9 : Z2 9 0 = upd (Z' 9 0) sh 0 := by
          rw [hZ2, upr_k (by decide), upr_k (by decide), upr_k (by decide), upr_k (by decide)]
          funext j
          by_cases e : j = sh
          · subst e; rw [upd_s]; exact z90
          · rw [upd_n e]
        have zin : ∀ j, j < 64 → Z2 3 0 (64 * f + j) = Z' 4 0 (64 * sh + j) := fun j hj => by
          rw [z3, pk_cpy_in (by omega) (by omega)]
          congr 1
          omega
        obtain ⟨m1, m2, m3⟩ := as_main (Z' := Z2) (ch := 0) hA3 hsh hf h52 h82 (show 64 * (sh + 1) ≤ V 4 by omega) (Or.inl rfl) (fun j _ => by rw [z2]) (fun j hj => by rw [z3]; exact pk_cpy_out (by omega)) (fun _ => zin) z4 z5 z8 z9
        refine w_iret C hw hr hlocks dX1_bring_78 ⟨rfl, f, rfl, V, o2, hd2, g32, rfl, v4, v14, hf, ho2, m1, by omega, by omega, by rw [z8, upd_s], fun s j hs hj => ?_, fun c i hc => ?_, fun j h1 h2 => ?_, fun s' hs' => ?_⟩
        · rw [← t3 s j hs hj]
          by_cases e : s = sh
          · subst e
            rw [m3, zin j hj, scn_away h82]
          · exact m2 s j hs hj e
        · rw [← t4 c i hc, hZ2]
          rw [upr_n (fun q => hc ⟨q.2, by omega⟩), upr_n (fun q => hc ⟨q.2, by omega⟩), upr_n (fun q => hc ⟨q.2, by omega⟩), upr_n (fun q => hc ⟨q.2, by omega⟩)]
        · rw [z2, t5 j h1 h2]
        · rw [z8]
          by_cases e : s' = sh
          · exact Or.inr (Or.inr e)
          · rw [upd_n e]
            rcases t2 s' hs' with q | q
            · exact Or.inl q
            · exact Or.inr (Or.inl q)
      · exact absurd h30 (nI_ne_m1 hf31)
  · exact absurd h5 (by decide)
end
section
/-! ===== counting: who uses which sheet ===== -/
def sumN : Nat → (Nat → Nat) → Nat
  | 0, _ => 0
  | n + 1, f => sumN n f + f n
theorem sumN_congr {n : Nat} {f g : Nat → Nat} (h : ∀ k, k < n → f k = g k) : sumN n f = sumN n g := by
  induction n with
  | zero => rfl
  | succ n ih => simp only [sumN]; rw [ih (fun k hk => h k (by omega)), h n (by omega)]
theorem sumN_zero {n : Nat} {f : Nat → Nat} (h : ∀ k, k < n → f k = 0) : sumN n f = 0 := by
  induction n with
  | zero => rfl
  | succ n ih => simp only [sumN]; rw [ih (fun k hk => h k (by omega)), h n (by omega)]
theorem sumN_add {n : Nat} {f g : Nat → Nat} : sumN n (fun k => f k + g k) = sumN n f + sumN n g := by
  induction n with
  | zero => rfl
  | succ n ih => simp only [sumN]; rw [ih]; omega
theorem sumN_le {n : Nat} {f g : Nat → Nat} (h : ∀ k, k < n → f k ≤ g k) : sumN n f ≤ sumN n g := by
  induction n with
  | zero => exact Nat.le_refl _
  | succ n ih => simp only [sumN]; have := ih (fun k hk => h k (by omega)); have := h n (by omega); omega
theorem sumN_const {n c : Nat} : sumN n (fun _ => c) = n * c := by
  induction n with
  | zero => simp [sumN]
  | succ n ih => simp only [sumN]; rw [ih, Nat.succ_mul]
theorem sumN_ge {n k : Nat} {f : Nat → Nat} (h : k < n) : f k ≤ sumN n f := by
  induction n with
  | zero => omega
  | succ n ih =>
    simp only [sumN]
    rcases Nat.lt_or_ge k n with q | q
    · have := ih q; omega
    · have : k = n := by omega
      subst this
      omega
theorem sumN_ge2 {n k j : Nat} {f : Nat → Nat} (h : k < n) (hj : j < n) (hkj : k ≠ j) : f k + f j ≤ sumN n f := by
  induction n with
  | zero => omega
  | succ n ih =>
    simp only [sumN]
    rcases Nat.lt_or_ge k n with q | q
    · rcases Nat.lt_or_ge j n with q2 | q2
      · have := ih q q2; omega
      · have e : j = n := by omega
        subst e
        have := sumN_ge (f := f) q
        omega
    · have e : k = n := by omega
      subst e
      have := sumN_ge (f := f) (show j < k by omega)
      omega
/-- one term changes -/
theorem sumN_chg {n k : Nat} {f g : Nat → Nat} (hk : k < n) (h : ∀ j, j < n → j ≠ k → f j = g j) : sumN n f + g k = sumN n g + f k := by
  induction n with
  | zero => omega
  | succ n ih =>
    simp only [sumN]
    rcases Nat.lt_or_ge k n with q | q
    · have := ih q (fun j hj hne => h j (by omega) hne)
      have := h n (by omega) (by omega)
      omega
    · have e : k = n := by omega
      subst e
      have := sumN_congr (n := k) (f := f) (g := g) (fun j hj => h j (by omega) (by omega))
      omega
theorem sumN_swap {n m : Nat} {f : Nat → Nat → Nat} : sumN n (fun i => sumN m (fun j => f i j)) = sumN m (fun j => sumN n (fun i => f i j)) := by
  induction n with
  | zero => simp only [sumN]; exact (sumN_zero (fun _ _ => rfl)).symm
  | succ n ih => simp only [sumN]; rw [ih, sumN_add]
theorem sumN_one {n s : Nat} (h : s < n) : sumN n (fun k => if k = s then 1 else 0) = 1 := by
  induction n with
  | zero => omega
  | succ n ih =>
    simp only [sumN]
    rcases Nat.lt_or_ge s n with q | q
    · rw [ih q, if_neg (by omega)]
    · have e : s = n := by omega
      subst e
      rw [if_pos rfl, sumN_zero (fun k hk => if_neg (by omega))]
theorem sumN_pos {n : Nat} {f : Nat → Nat} (h : sumN n f ≠ 0) : ∃ k, k < n ∧ f k ≠ 0 := by
  induction n with
  | zero => exact absurd rfl h
  | succ n ih =>
    by_cases e : f n = 0
    · simp only [sumN] at h
      obtain ⟨k, hk, hf⟩ := ih (by omega)
      exact ⟨k, by omega, hf⟩
    · exact ⟨n, by omega, e⟩
/-- frames of guest j that are there -/
def gfr (X : Sh) (Z : ZT) (j : Nat) : Nat := if X.2.2.1 j = true ∧ Z 20 j 0 ≠ 0 then (Z 20 j 6).toNatClampNeg else 0
def use1 (Z : ZT) (j k s : Nat) : Nat := if Z 21 j k = nI s then 1 else 0
def cnt (X : Sh) (Z : ZT) (s : Nat) : Nat := (if s = 0 then 1 else 0) + sumN 8 (fun j => sumN (gfr X Z j) (fun k => use1 Z j k s))
/-- the uses of the sheets, and those that are free -/
def HB (X : Sh) (Z : ZT) (fc : Nat) : Prop :=
  (∀ s, s < 513 → Z 7 0 s = nI (cnt X Z s)) ∧
  (∀ j k, j < 8 → k < gfr X Z j → ∃ s, s < 513 ∧ Z 21 j k = nI s) ∧
  (∀ j, j < 8 → gfr X Z j ≤ 64) ∧
  (∀ s, s < 513 → cnt X Z s ≠ 0 → 64 * (s + 1) ≤ X.2.1 4) ∧
  (∀ s, s < 513 → Z 8 0 s ≠ -1 → cnt X Z s ≠ 0) ∧
  Z 2 0 3 = nI fc ∧
  (∀ j, j < fc → ∃ s, s < 513 ∧ Z 10 0 j = nI s ∧ cnt X Z s = 0) ∧
  (∀ j j', j < fc → j' < fc → Z 10 0 j = Z 10 0 j' → j = j') ∧
  sumN 513 (fun s => if cnt X Z s = 0 then 1 else 0) = fc
theorem HB.fc_le {X : Sh} {Z : ZT} {fc : Nat} (H : HB X Z fc) : fc ≤ 512 := by
  obtain ⟨-, -, -, -, -, -, -, -, h⟩ := H
  rw [← h]
  have h1 : sumN 513 (fun s => if cnt X Z s = 0 then 1 else 0) ≤ sumN 513 (fun s => if s = 0 then 0 else 1) := sumN_le (fun k _ => by
    by_cases e : k = 0
    · subst e
      rw [if_neg (by unfold cnt; simp)]
      exact Nat.zero_le _
    · rw [if_neg e]
      split <;> omega)
  have h2 : sumN 513 (fun s => if s = 0 then 0 else 1) + sumN 513 (fun k => if k = 0 then 1 else 0) = 513 := by
    rw [← sumN_add]
    have : (fun k => (if k = 0 then 0 else 1) + if k = 0 then 1 else 0) = (fun _ : Nat => 1) := by
      funext k
      split <;> rfl
    rw [this, sumN_const]
  rw [sumN_one (by decide)] at h2
  omega
/-- all uses together -/
theorem HB.total {X : Sh} {Z : ZT} {fc : Nat} (H : HB X Z fc) : sumN 513 (fun s => cnt X Z s) ≤ 513 := by
  obtain ⟨-, h1, h2, -⟩ := H
  have e1 : sumN 513 (fun s => cnt X Z s) = 1 + sumN 8 (fun j => gfr X Z j) := by
    have e2 : (fun s => cnt X Z s) = (fun s => (if s = 0 then 1 else 0) + sumN 8 (fun j => sumN (gfr X Z j) (fun k => use1 Z j k s))) := rfl
    rw [e2, sumN_add, sumN_one (by decide), sumN_swap]
    congr 1
    refine sumN_congr fun j hj => ?_
    rw [sumN_swap]
    have e3 : sumN (gfr X Z j) (fun k => sumN 513 (fun s => use1 Z j k s)) = sumN (gfr X Z j) (fun _ => 1) := sumN_congr fun k hk => by
      obtain ⟨s0, hs0, e⟩ := h1 j k hj hk
      have : sumN 513 (fun s => use1 Z j k s) = sumN 513 (fun s => if s = s0 then 1 else 0) := sumN_congr fun s hs => by
        unfold use1
        rw [e]
        by_cases q : s = s0
        · subst q; rw [if_pos rfl, if_pos rfl]
        · rw [if_neg q, if_neg]
          intro q2
          exact q (nI_inj (by omega) (by omega) q2.symm)
      rw [this, sumN_one hs0]
    rw [e3, sumN_const, Nat.mul_one]
  have e4 : sumN 8 (fun j => gfr X Z j) ≤ sumN 8 (fun _ => 64) := sumN_le (fun j hj => h2 j hj)
  rw [sumN_const] at e4
  omega
/-- where a sheet has two users, another is free -/
theorem HB.room {X : Sh} {Z : ZT} {fc s : Nat} (H : HB X Z fc) (hs : s < 513) (h2 : 2 ≤ cnt X Z s) : 0 < fc := by
  have h1 := H.total
  obtain ⟨-, -, -, -, -, -, -, -, h⟩ := H
  rw [← h]
  rcases Nat.eq_zero_or_pos (sumN 513 (fun s => if cnt X Z s = 0 then 1 else 0)) with q | q
  · exfalso
    have h3 : ∀ k, k < 513 → 1 ≤ cnt X Z k := by
      intro k hk
      have := sumN_ge (f := fun s => if cnt X Z s = 0 then 1 else 0) hk
      try dsimp only at this
      split at this <;> omega
    have h4 : sumN 513 (fun k => if k = s then 2 else 1) ≤ sumN 513 (fun s => cnt X Z s) := sumN_le (fun k hk => by
      split
      · rename_i e; rw [e]; exact h2
      · exact h3 k hk)
    have h5 : sumN 513 (fun k => if k = s then 2 else 1) = 514 := by
      have e : (fun k => if k = s then 2 else 1) = (fun k => 1 + if k = s then 1 else 0) := by
        funext k
        split <;> rfl
      rw [e, sumN_add, sumN_const, sumN_one hs]
    omega
  · exact q
theorem cnt_ge {X : Sh} {Z : ZT} {i k s : Nat} (hi : i < 8) (hk : k < gfr X Z i) (e : Z 21 i k = nI s) : 1 + (if s = 0 then 1 else 0) ≤ cnt X Z s := by
  unfold cnt
  have h1 := sumN_ge (f := fun j => sumN (gfr X Z j) (fun k => use1 Z j k s)) hi
  have h2 := sumN_ge (f := fun k => use1 Z i k s) hk
  have h3 : use1 Z i k s = 1 := by unfold use1; rw [if_pos e]
  try dsimp only at h1 h2
  omega
theorem cnt_two {X : Sh} {Z : ZT} {i k j k' s : Nat} (hi : i < 8) (hk : k < gfr X Z i) (e : Z 21 i k = nI s) (hj : j < 8) (hk' : k' < gfr X Z j) (e' : Z 21 j k' = nI s) (hne : ¬ (i = j ∧ k = k')) : 2 ≤ cnt X Z s := by
  unfold cnt
  have u1 : use1 Z i k s = 1 := by unfold use1; rw [if_pos e]
  have u2 : use1 Z j k' s = 1 := by unfold use1; rw [if_pos e']
  by_cases hij : i = j
  · subst hij
    have h1 := sumN_ge (f := fun j => sumN (gfr X Z j) (fun k => use1 Z j k s)) hi
    have h2 := sumN_ge2 (f := fun k => use1 Z i k s) hk hk' (fun q => hne ⟨rfl, q⟩)
    try dsimp only at h1 h2
    omega
  · have h1 := sumN_ge2 (f := fun j => sumN (gfr X Z j) (fun k => use1 Z j k s)) hi hj hij
    have h2 := sumN_ge (f := fun k => use1 Z i k s) hk
    have h3 := sumN_ge (f := fun k => use1 Z j k s) hk'
    try dsimp only at h1 h2 h3
    omega
/-- frame k of guest i has another sheet -/
theorem cnt_chg {X X' : Sh} {Z Z' : ZT} {i k s : Nat} (hi : i < 8) (hk : k < gfr X Z i) (hX : ∀ j, j < 8 → gfr X' Z' j = gfr X Z j) (h21 : ∀ j k', j < 8 → k' < gfr X Z j → ¬ (j = i ∧ k' = k) → Z' 21 j k' = Z 21 j k') : cnt X' Z' s + use1 Z i k s = cnt X Z s + use1 Z' i k s := by
  unfold cnt
  have e1 : sumN 8 (fun j => sumN (gfr X' Z' j) (fun k => use1 Z' j k s)) = sumN 8 (fun j => sumN (gfr X Z j) (fun k => use1 Z' j k s)) := sumN_congr fun j hj => by rw [hX j hj]
  rw [e1]
  have h1 := sumN_chg (f := fun j => sumN (gfr X Z j) (fun k => use1 Z' j k s)) (g := fun j => sumN (gfr X Z j) (fun k => use1 Z j k s)) hi (fun j hj hne => sumN_congr fun k' hk' => by unfold use1; rw [h21 j k' hj hk' (fun q => hne q.1)])
  have h2 := sumN_chg (f := fun k => use1 Z' i k s) (g := fun k => use1 Z i k s) hk (fun k' hk' hne => by unfold use1; rw [h21 i k' hi hk' (fun q => hne q.2)])
  try dsimp only at h1 h2
  omega
/-- what uses says of two worlds whose guests have the same sheets -/
theorem cnt_same {X X' : Sh} {Z Z' : ZT} {s : Nat} (hX : ∀ j, j < 8 → gfr X' Z' j = gfr X Z j) (h21 : ∀ j k', j < 8 → k' < gfr X Z j → Z' 21 j k' = Z 21 j k') : cnt X' Z' s = cnt X Z s := by
  unfold cnt
  congr 1
  refine sumN_congr fun j hj => ?_
  rw [hX j hj]
  exact sumN_congr fun k hk => by unfold use1; rw [h21 j k hj hk]
/-- word w of frame k of guest j -/
def mw (Z : ZT) (j k w : Nat) : Int32 := scn Z (Z 21 j k).toNatClampNeg w
end
section
/-- what taking sheet sh leaves -/
def TS (X : Sh) (Z : ZT) (sh fc g4 : Nat) (X' : Sh) (Z' : ZT) (k n : Nat) : Prop :=
  ∃ (V : Nat → Nat) (g4' : Nat), X' = (X.1, V, X.2.2) ∧ V 3 = X.2.1 3 ∧ V 13 = X.2.1 13 ∧ 64 * (sh + 1) ≤ V 4 ∧ X.2.1 4 ≤ V 4 ∧ V 4 ≤ 32832 ∧ 32832 ≤ V 4 * 2 ^ g4' ∧ k + g4' ≤ g4 ∧ n ≤ 32832 * k ∧
    Z' 2 0 = upd (Z 2 0) 3 (nI fc) ∧ (∀ j, j < X.2.1 4 → Z' 4 0 j = Z 4 0 j) ∧ (∀ c i, ¬ ((c = 2 ∨ c = 4) ∧ i = 0) → Z' c i = Z c i)

set_option maxHeartbeats 4000000 in
set_option maxRecDepth 100000 in
theorem c_X1_takeSheet (l : Launch) (sz0 : Nat) (D : va_G) (cs : Nat → ClassId) (X : Sh) (Z : ZT) (Y : va_W) (hX : HXI X) (hU : HUI X) (sh fc g4 kc ks : Nat) (hfc : fc ≤ 512) (h23 : Z 2 0 3 = nI (fc + 1)) (h10 : Z 10 0 fc = nI sh) (hsh : sh < 513) (hla : 256 ≤ X.2.1 4 ∧ X.2.1 4 ≤ 32832 ∧ 32832 ≤ X.2.1 4 * 2 ^ g4) (hkc : g4 ≤ kc) (hks : 32832 * g4 ≤ ks) : Ctr l yX1_takeSheet (wsM yX1_takeSheet cX1_takeSheet 3 (some .int)) ({ frames := 2, cells := kc, slots := ks, locals := 48 } : Room) sz0 D cs [.ref (X.1 2 0)] X Z Y (fun X' Z' Y' v k n => Y = Y' ∧ v = some (.int (nI sh)) ∧ TS X Z sh fc g4 X' Z' k n) := by
  refine Ctr.ofW (by decide +kernel) (by intro v hv; simp at hv; rcases hv with rfl <;> rfl) (Nat.le_of_ble_eq_true rfl) ?_
  intro p e s m below meth c ls C hr hlocks hname hl hN hw
  obtain ⟨hx, hb, hml, hown, hts⟩ := id C
  obtain ⟨l1, l2, l3⟩ := hla
  refine lv_aload_n hx hb dX1_takeSheet_0 rfl (hl.at rfl) ?_
  refine w_get C hw (c0 := 2) (i0 := 0) rfl inA1 3 (by decide) mw57 rfl dX1_takeSheet_1 (hX 2 (by decide)) rfl rfl rfl ?_
  refine lv_topi (fun y ey => ?_)
  obtain rfl : y = nI (fc + 1) := ey.trans h23
  refine lv_if_gt (tgt := 9) hx hb dX1_takeSheet_4 (by decide) (fun h4 => ?_) (fun h4 => ?_)
  · refine lv_aload_n hx hb dX1_takeSheet_9 rfl (hl.at rfl) ?_
    refine lv_dup hx hb dX1_takeSheet_10 rfl ?_
    refine w_get C hw (c0 := 2) (i0 := 0) rfl inA1 3 (by decide) mw57 rfl dX1_takeSheet_11 (hX 2 (by decide)) rfl rfl rfl ?_
    refine lv_topi (fun y ey => ?_)
    obtain rfl : y = nI (fc + 1) := ey.trans h23
    refine lv_iconst (v := 1) hx hb dX1_takeSheet_14 (by decide) ?_
    refine lv_isub hx hb dX1_takeSheet_15 ?_
    refine lv_topi (fun y ey => ?_)
    obtain rfl : y = nI fc := ey.trans (nI_pred fc)
    refine w_put C hw (c0 := 2) (i0 := 0) rfl inA1 tyX1_ok nmX1 3 (by decide) mw57 rfl rfl rfl dX1_takeSheet_16 (hX 2 (by decide)) rfl rfl rfl rfl (Nat.le_of_ble_eq_true rfl) rfl (fun H locs hw => ?_)
    refine lv_aload_n hx hb dX1_takeSheet_19 rfl (hl.at rfl) ?_
    refine w_get C hw (c0 := 2) (i0 := 0) rfl inA1 11 (by decide) mw35 rfl dX1_takeSheet_20 (hX 2 (by decide)) rfl rfl rfl ?_
    refine lv_aload_n hx hb dX1_takeSheet_23 rfl (hl.at rfl) ?_
    refine w_get C hw (c0 := 2) (i0 := 0) rfl inA1 3 (by decide) mw57 rfl dX1_takeSheet_24 (hX 2 (by decide)) rfl rfl rfl ?_
    refine lv_topi (fun y ey => ?_)
    obtain rfl : y = nI fc := ey.trans (by rw [upr_s, upd_s])
    refine w_ild C hw (c0 := 10) (i0 := 0) dX1_takeSheet_27 (hX 10 (by decide)) rfl rfl (vp_in_nI (show fc < 513 by omega) (by omega)) (nI_clamp (by omega)) ?_
    rw [upr_k (show (10 : Nat) ≠ 2 by decide), h10]
    refine w_istore_n hx hb dX1_takeSheet_28 rfl hl (Nat.le_of_ble_eq_true rfl) (fun ls hl => ?_)
    refine lv_aload_n hx hb dX1_takeSheet_29 rfl (hl.at rfl) ?_
    refine w_get C hw (c0 := 2) (i0 := 0) rfl inA1 5 (by decide) mw28 rfl dX1_takeSheet_30 (hX 2 (by decide)) rfl rfl rfl ?_
    refine w_len C hw (c0 := 4) (i0 := 0) (ty := 0) dX1_takeSheet_33 (hX 4 (by decide)) rfl rfl rfl rfl rfl ?_
    refine lv_iload_n hx hb dX1_takeSheet_34 rfl (hl.at rfl) ?_
    refine lv_iconst (v := 1) hx hb dX1_takeSheet_35 (by decide) ?_
    refine lv_iadd hx hb dX1_takeSheet_36 ?_
    refine lv_bipush (v := 64) hx hb dX1_takeSheet_37 (by decide) ?_
    refine lv_imul hx hb dX1_takeSheet_39 ?_
    have em : (nI sh + 1) * 64 = nI (64 * (sh + 1)) := (by rw [nI_1, show nI (sh + 1) * 64 = nI (sh + 1) * nI 64 from rfl, pk_mul, Nat.mul_comm])
    rw [em]
    refine lv_icmp_ge (tgt := 77) hx hb dX1_takeSheet_40 (by decide) (fun h40 => ?_) (fun h40 => ?_)
    · have hle := (nI_leI (show 64 * (sh + 1) < 2 ^ 31 by omega) (show X.2.1 4 < 2 ^ 31 by omega)).mp h40
      refine lv_iload_n hx hb dX1_takeSheet_77 rfl (hl.at rfl) ?_
      exact w_iret C hw hr hlocks dX1_takeSheet_78 ⟨rfl, rfl, X.2.1, g4, rfl, rfl, rfl, hle, Nat.le_refl _, l2, l3, by omega, by omega, by rw [upr_s], fun j _ => by rw [upr_k (by decide)], fun c i hc => upr_n (fun q => hc ⟨Or.inl q.1, q.2⟩)⟩
    · have hlt : X.2.1 4 < 64 * (sh + 1) := by
        rcases Nat.lt_or_ge (X.2.1 4) (64 * (sh + 1)) with q | q
        · exact q
        · exact absurd (nI_le q (by omega)) h40
      have hg4 : 1 ≤ g4 := by
        rcases g4 with _ | g
        · simp at l3; omega
        · omega
      refine lv_iconst (v := 2) hx hb dX1_takeSheet_43 (by decide) ?_
      refine lv_aload_n hx hb dX1_takeSheet_44 rfl (hl.at rfl) ?_
      refine w_get C hw (c0 := 2) (i0 := 0) rfl inA1 5 (by decide) mw28 rfl dX1_takeSheet_45 (hX 2 (by decide)) rfl rfl rfl ?_
      refine w_len C hw (c0 := 4) (i0 := 0) (ty := 0) dX1_takeSheet_48 (hX 4 (by decide)) rfl rfl rfl rfl rfl ?_
      refine lv_imul hx hb dX1_takeSheet_49 ?_
      refine lv_ldc (v := 32832) hx hb hown (hts _ mw229) dX1_takeSheet_50 ?_
      refine va_mmin hx hb (hml.trans hl.1.1.symm) hown (hts _ mw230) (hts _ mw217) (hts _ mw218) (hts _ mw219) (Nat.le_of_ble_eq_true rfl) (Nat.le_of_ble_eq_true rfl) (by show 0 ≤ kc; omega) (by show 0 ≤ ks; omega) dX1_takeSheet_52 ?_
      obtain ⟨mi, hmi⟩ : ∃ mi, mi = min (2 * X.2.1 4) 32832 := ⟨_, rfl⟩
      refine lv_topi (fun y ey => ?_)
      obtain rfl : y = nI mi := ey.trans (by
        have e2 : (2 : Int32) * Int32.ofNat (X.2.1 4, (Sum.inl (upr Z 2 0 (upd (Z 2 0) 3 (nI fc)) 4 0) : (Nat → Int32) ⊕ (Nat → Int64) ⊕ (Nat → UInt32) ⊕ (Nat → UInt64) ⊕ (Nat → Option Nat))).1 = nI (2 * X.2.1 4) := pk_mul 2 (X.2.1 4)
        rw [e2, hmi]
        by_cases q : 32832 < 2 * X.2.1 4
        · rw [if_pos (show (32832 : Int32) < nI (2 * X.2.1 4) from (show nI 32832 < nI (2 * X.2.1 4) from nI_lt q (by omega))), Nat.min_eq_right (by omega)]; rfl
        · rw [if_neg (show ¬ (32832 : Int32) < nI (2 * X.2.1 4) from (show ¬ nI 32832 < nI (2 * X.2.1 4) from nI_nlt (by omega) (by decide))), Nat.min_eq_left (by omega)])
      refine w_istore_n hx hb dX1_takeSheet_55 rfl hl (Nat.le_of_ble_eq_true rfl) (fun ls hl => ?_)
      refine lv_aload_n hx hb dX1_takeSheet_56 rfl (hl.at rfl) ?_
      refine lv_aload_n hx hb dX1_takeSheet_57 rfl (hl.at rfl) ?_
      refine w_get C hw (c0 := 2) (i0 := 0) rfl inA1 5 (by decide) mw28 rfl dX1_takeSheet_58 (hX 2 (by decide)) rfl rfl rfl ?_
      refine lv_iload_n hx hb dX1_takeSheet_61 rfl (hl.at rfl) ?_
      refine lv_iconst (v := 1) hx hb dX1_takeSheet_62 (by decide) ?_
      refine lv_iadd hx hb dX1_takeSheet_63 ?_
      refine lv_bipush (v := 64) hx hb dX1_takeSheet_64 (by decide) ?_
      refine lv_imul hx hb dX1_takeSheet_66 ?_
      refine lv_iload_n hx hb dX1_takeSheet_67 rfl (hl.at rfl) ?_
      rw [em]
      refine va_mmax hx hb (hml.trans hl.1.1.symm) hown (hts _ mw231) (hts _ mw232) (hts _ mw218) (hts _ mw233) (Nat.le_of_ble_eq_true rfl) (Nat.le_of_ble_eq_true rfl) (by show 0 ≤ kc; omega) (by show 0 ≤ ks; omega) dX1_takeSheet_68 ?_
      obtain ⟨ma, hma⟩ : ∃ ma, ma = max (64 * (sh + 1)) mi := ⟨_, rfl⟩
      refine lv_topi (fun y ey => ?_)
      obtain rfl : y = nI ma := ey.trans (by
        rw [hma]
        by_cases q : 64 * (sh + 1) < mi
        · rw [if_pos (nI_lt q (by omega)), Nat.max_eq_right (by omega)]
        · rw [if_neg (nI_nlt (by omega) (by omega)), Nat.max_eq_left (by omega)])
      refine w_callS C hN hw (c_copyOf l sz0 D cs X _ Y 4 0 (X.2.1 4) ma kc ks (hX 4 (by decide)) (fun _ => rfl) (by omega) (by omega) (by omega) (by omega)) ⟨(Nat.le_of_ble_eq_true rfl), (Nat.le_of_ble_eq_true rfl), mw209, mw60, cy_J7_copyOf_59c91⟩ mw207 mw208 rfl hl.1.1 rfl (Nat.le_of_ble_eq_true rfl) dX1_takeSheet_71 ⟨by show 0 + kc ≤ kc; omega, by show 0 + ks ≤ ks; omega⟩ (fun X' Z' Y' v k n H locs hp hw => ?_)
      obtain ⟨rfl, rfl, rfl, rfl, q, rfl, rfl⟩ := hp
      refine w_putM C hw (c0 := 4) (k0 := 5) (Or.inr rfl) rfl mw28 dX1_takeSheet_74 (hX 2 (by decide)) (fun i hi => hU 4 i (by decide) hi) (fun i hi => hU 2 i (by decide) hi) (fun H locs hw => ?_)
      refine lv_iload_n hx hb dX1_takeSheet_77 rfl (hl.at rfl) ?_
      refine w_iret C hw hr hlocks dX1_takeSheet_78 ⟨rfl, rfl, _, g4 - 1, rfl, by simp [va_up], by simp [va_up], ?_, ?_, ?_, ?_, by show 0 + 1 + (g4 - 1) ≤ g4; omega, by show 0 + ma ≤ 32832 * (0 + 1); omega, ?_, fun j hj => ?_, fun c i hc => ?_⟩
      · have e1 : (va_up (va_up X.2.1 (4 + 10) q) 4 ma) 4 = ma := by simp [va_up]
        rw [e1]; omega
      · have e1 : (va_up (va_up X.2.1 (4 + 10) q) 4 ma) 4 = ma := by simp [va_up]
        rw [e1]; omega
      · have e1 : (va_up (va_up X.2.1 (4 + 10) q) 4 ma) 4 = ma := by simp [va_up]
        rw [e1]; omega
      · have e1 : (va_up (va_up X.2.1 (4 + 10) q) 4 ma) 4 = ma := by simp [va_up]
        rw [e1]
        obtain ⟨g, rfl⟩ : ∃ g, g4 = g + 1 := ⟨g4 - 1, by omega⟩
        rw [Nat.add_sub_cancel]
        have hp : 1 ≤ 2 ^ g := Nat.one_le_two_pow
        rcases Nat.lt_or_ge ma 32832 with q2 | q2
        · have h2 : 2 * X.2.1 4 ≤ ma := by omega
          rw [Nat.pow_succ] at l3
          have h3 := Nat.mul_le_mul_right (2 ^ g) h2
          have h4 : 2 * X.2.1 4 * 2 ^ g = X.2.1 4 * (2 ^ g * 2) := by rw [Nat.mul_comm 2, Nat.mul_assoc, Nat.mul_comm 2]
          omega
        · exact Nat.le_trans q2 (Nat.le_mul_of_pos_right _ hp)
      · rw [upr_k (by decide), upr_s]
      · rw [upr_s, if_pos hj, upr_k (by decide)]
      · rw [upr_n (fun q => hc ⟨Or.inr q.1, q.2⟩), upr_n (fun q => hc ⟨Or.inl q.1, q.2⟩)]
  · exact absurd (show (0 : Int32) < nI (fc + 1) from nI_lt (Nat.succ_pos fc) (by omega)) h4
end
section
/-- the room has grown: nothing else has changed of the sheets -/
theorem ts_main {X : Sh} {Z : ZT} {h o hd g3 g4 sh fc k n : Nat} {X' : Sh} {Z' : ZT} (H : HA X Z h o hd g3 g4) (T : TS X Z sh fc g4 X' Z' k n) :
    ∃ g4', k + g4' ≤ g4 ∧ HA X' Z' h o hd g3 g4' ∧ X.2.1 4 ≤ X'.2.1 4 ∧ 64 * (sh + 1) ≤ X'.2.1 4 ∧ (∀ s j, s < 513 → j < 64 → 64 * (s + 1) ≤ X.2.1 4 → scn Z' s j = scn Z s j) := by
  obtain ⟨⟨a1, a2, a3, a4⟩, ⟨b1, b2, b3⟩, c1, ⟨c21, c22, c23⟩, c3, c4, c5, c6, c7⟩ := H
  obtain ⟨V, g4', rfl, v3, v13, s1, s2, s3, s4, s5, s6, r2, r4, r⟩ := T
  have r3 : Z' 3 0 = Z 3 0 := r 3 0 (by omega)
  have r5 : Z' 5 0 = Z 5 0 := r 5 0 (by omega)
  have r8 : Z' 8 0 = Z 8 0 := r 8 0 (by omega)
  have r9 : Z' 9 0 = Z 9 0 := r 9 0 (by omega)
  refine ⟨g4', s5, ⟨⟨a1, a2, a3, a4⟩, ?_, ?_, ⟨?_, s3, s4⟩, ?_, ?_, ?_, ?_, ?_⟩, s2, s1, ?_⟩
  · rw [r2]
    exact ⟨by rw [upd_n (by decide)]; exact b1, by rw [upd_n (by decide)]; exact b2, by rw [upd_n (by decide)]; exact b3⟩
  · show 64 * o ≤ V 3 ∧ 256 ≤ V 3 ∧ V 3 < 32768 ∧ 16384 ≤ V 3 * 2 ^ g3
    rw [v3]; exact c1
  · show 256 ≤ V 4
    omega
  · intro s hs
    rw [r8, r5]
    rcases c3 s hs with q | ⟨f, q1, q2, q3, q4⟩
    · exact Or.inl q
    · exact Or.inr ⟨f, q1, q2, q3, by show 64 * (s + 1) ≤ V 4; omega⟩
  · rw [r8, r5]; exact c4
  · rw [r8, r9]; exact c5
  · intro s f k hs hf hk e1 e2
    rw [r8] at e1
    rw [r9] at e2
    have hle : 64 * (s + 1) ≤ X.2.1 4 := by
      rcases c3 s hs with q | ⟨_, _, _, _, q⟩
      · rw [q] at e1; exact absurd e1.symm (nI_ne_m1 (by omega))
      · exact q
    rw [r3, r4 _ (by omega)]
    exact c6 s f k hs hf hk e1 e2
  · intro k hk
    rw [r4 _ (by omega)]
    exact c7 k hk
  · intro s j hs hj hle
    unfold scn
    rw [r8, r3, r4 _ (by omega)]
theorem and63 {n : Nat} (h : n < 64) : nI n &&& 63 = nI n := by
  rw [pk_andN (by omega) 6 (by decide), Nat.mod_eq_of_lt h]
/-- what making a frame a guest's own leaves -/
def MO (X : Sh) (Z : ZT) (h g3 g4 i fr : Nat) (X' : Sh) (Z' : ZT) (f k n : Nat) : Prop :=
  ∃ (V : Nat → Nat) (o' hd' g3' g4' fc' s' : Nat), X' = (X.1, V, X.2.2) ∧ HA X' Z' h o' hd' g3' g4' ∧ HB X' Z' fc' ∧ f < o' ∧ s' < 513 ∧ s' ≠ 0 ∧ Z' 21 i fr = nI s' ∧ Z' 8 0 s' = nI f ∧ Z' 9 0 s' = 1 ∧ cnt X' Z' s' = 1 ∧ k + g3' + g4' ≤ g3 + g4 ∧ n ≤ 32832 * k ∧
    (∀ j k w, j < 8 → k < gfr X Z j → w < 64 → mw Z' j k w = mw Z j k w) ∧ (∀ c i', ¬ (i' = 0 ∧ 2 ≤ c ∧ c ≤ 10) → ¬ (c = 21 ∧ i' = i) → Z' c i' = Z c i') ∧ (∀ j, j ≠ fr → Z' 21 i j = Z 21 i j)
theorem gfr_same {X X' : Sh} {Z Z' : ZT} {j : Nat} (h1 : X'.2.2.1 = X.2.2.1) (h2 : Z' 20 j = Z 20 j) : gfr X' Z' j = gfr X Z j := by
  unfold gfr
  rw [h1, h2]
/-- a sheet with one user is written by it -/
theorem mo_one {X : Sh} {Z : ZT} {h o hd g3 g4 fc i fr s f : Nat} (H : HA X Z h o hd g3 g4) (B : HB X Z fc) (hi : i < 8) (hfr : fr < gfr X Z i) (hs : s < 513) (e21 : Z 21 i fr = nI s) (e8 : Z 8 0 s = nI f) (hf : f < o) (h1 : cnt X Z s = 1) :
    MO X Z h g3 g4 i fr X (upr Z 9 0 (upd (Z 9 0) s 1)) f 0 0 := by
  obtain ⟨⟨a1, a2, a3, a4⟩, ⟨b1, b2, b3⟩, c1, c2, c3, c4, c5, c6, c7⟩ := H
  have hs0 : s ≠ 0 := by
    intro e
    have := cnt_ge hi hfr e21
    rw [if_pos e] at this
    omega
  have z : ∀ c i, c ≠ 9 → upr Z 9 0 (upd (Z 9 0) s 1) c i = Z c i := fun c i h => upr_k h
  have hscn : ∀ s' w, scn (upr Z 9 0 (upd (Z 9 0) s 1)) s' w = scn Z s' w := fun s' w => by
    unfold scn
    rw [z 8 0 (by decide), z 4 0 (by decide), z 3 0 (by decide)]
  have hc : ∀ s', cnt X (upr Z 9 0 (upd (Z 9 0) s 1)) s' = cnt X Z s' := fun s' => cnt_same (fun j _ => gfr_same rfl (z 20 j (by decide))) (fun j k _ _ => by rw [z 21 j (by decide)])
  refine ⟨X.2.1, o, hd, g3, g4, fc, s, rfl, ⟨⟨a1, a2, a3, a4⟩, ?_, c1, c2, ?_, ?_, ?_, ?_, ?_⟩, ?_, hf, hs, hs0, ?_, ?_, ?_, ?_, by omega, by omega, ?_, ?_, ?_⟩
  · rw [z 2 0 (by decide)]; exact ⟨b1, b2, b3⟩
  · rw [z 8 0 (by decide), z 5 0 (by decide)]; exact c3
  · rw [z 8 0 (by decide), z 5 0 (by decide)]; exact c4
  · intro s' hs'
    rw [z 8 0 (by decide), upr_s]
    by_cases e : s' = s
    · subst e
      exact Or.inr ⟨upd_s, by rw [e8]; exact nI_ne_m1 (by omega), hs0⟩
    · rw [upd_n e]; exact c5 s' hs'
  · intro s' f' k hs' hf' hk e1 e2
    rw [z 8 0 (by decide)] at e1
    rw [upr_s] at e2
    rw [z 3 0 (by decide), z 4 0 (by decide)]
    by_cases e : s' = s
    · subst e; rw [upd_s] at e2; exact absurd e2 (by decide)
    · rw [upd_n e] at e2; exact c6 s' f' k hs' hf' hk e1 e2
  · rw [z 4 0 (by decide)]; exact c7
  · obtain ⟨d1, d2, d3, d4, d5, d6, d7, d8, d9⟩ := B
    refine ⟨?_, ?_, ?_, ?_, ?_, ?_, ?_, ?_, ?_⟩
    · intro s' hs'; rw [z 7 0 (by decide), hc]; exact d1 s' hs'
    · intro j k hj hk; rw [z 21 j (by decide)]; rw [gfr_same (X := X) (Z := Z) rfl (z 20 j (by decide))] at hk; exact d2 j k hj hk
    · intro j hj; rw [gfr_same (X := X) (Z := Z) rfl (z 20 j (by decide))]; exact d3 j hj
    · intro s' hs' q; rw [hc] at q; exact d4 s' hs' q
    · intro s' hs' q; rw [z 8 0 (by decide)] at q; rw [hc]; exact d5 s' hs' q
    · rw [z 2 0 (by decide)]; exact d6
    · intro j hj
      obtain ⟨s', q1, q2, q3⟩ := d7 j hj
      exact ⟨s', q1, by rw [z 10 0 (by decide)]; exact q2, by rw [hc]; exact q3⟩
    · rw [z 10 0 (by decide)]; exact d8
    · rw [sumN_congr (fun k _ => by rw [hc])]; exact d9
  · rw [z 21 i (by decide)]; exact e21
  · rw [z 8 0 (by decide)]; exact e8
  · rw [upr_s, upd_s]
  · rw [hc]; exact h1
  · intro j k w _ _ _
    unfold mw
    rw [z 21 j (by decide), hscn]
  · intro c i' q1 _
    exact upr_n (fun q => q1 ⟨q.2, by omega⟩)
  · intro j _
    rw [z 21 i (by decide)]
/-- a fresh sheet, a copy of what the guest had -/
theorem mo_two {X X1 X2 : Sh} {Z Z1 Z2 Z' : ZT} {h o hd g3 g4 fc i fr s f0 f sh k1 n1 k2 n2 : Nat} (H : HA X Z h o hd g3 g4) (B : HB X Z (fc + 1)) (hi : i < 8) (hfr : fr < gfr X Z i) (hs : s < 513) (e21 : Z 21 i fr = nI s) (e8 : Z 8 0 s = nI f0) (hc2 : 2 ≤ cnt X Z s)
    (T : TF X Z h o g3 g4 (nI f0) X1 Z1 f k1 n1) (hf0 : f0 < o) (e10 : Z 10 0 fc = nI sh) (hsh : sh < 513) (S : TS X1 Z1 sh fc g4 X2 Z2 k2 n2)
    (r2 : Z' 2 0 = Z2 2 0) (r3 : Z' 3 0 = va_cpy (Z2 3 0) (Z2 3 0) (64 * f0) (64 * f) 64) (r4 : Z' 4 0 = Z2 4 0) (r5 : Z' 5 0 = upd (Z2 5 0) f (nI sh)) (r7 : Z' 7 0 = upd (upd (Z2 7 0) s (Z2 7 0 s - 1)) sh 1) (r8 : Z' 8 0 = upd (Z2 8 0) sh (nI f)) (r9 : Z' 9 0 = upd (Z2 9 0) sh 1) (r10 : Z' 10 0 = Z2 10 0) (r21 : Z' 21 i = upd (Z2 21 i) fr (nI sh))
    (r : ∀ c i', ¬ (i' = 0 ∧ 2 ≤ c ∧ c ≤ 10) → ¬ (c = 21 ∧ i' = i) → Z' c i' = Z2 c i') :
    MO X Z h g3 g4 i fr X2 Z' f (k1 + k2) (n1 + n2) := by
  have B0 := B
  obtain ⟨d1, d2, d3, d4, d5, d6, d7, d8, d9⟩ := B
  obtain ⟨V1, o1, hd1, g31, rfl, v4, v14, t1, t2, t3, t4, t5, t6, t7, t8, t9, t10, t11, t12⟩ := T
  obtain ⟨g41, y1, y2, y3, y4, y5⟩ := ts_main t4 S
  obtain ⟨V2, g4x, rfl, -, -, -, -, -, -, -, n2b, u1, u2, u3⟩ := S
  -- rows
  have z1 : ∀ c i', ¬ tfR c i' → Z1 c i' = Z c i' := t11
  have z2 : ∀ c i', ¬ ((c = 2 ∨ c = 4) ∧ i' = 0) → Z2 c i' = Z1 c i' := u3
  have z20 : ∀ j, Z' 20 j = Z 20 j := fun j => by rw [r 20 j (by omega) (by omega), z2 20 j (by omega), z1 20 j (by unfold tfR; omega)]
  have z21 : ∀ j, Z2 21 j = Z 21 j := fun j => by rw [z2 21 j (by omega), z1 21 j (by unfold tfR; omega)]
  have z7 : Z2 7 0 = Z 7 0 := by rw [z2 7 0 (by omega), z1 7 0 (by unfold tfR; omega)]
  have z10 : Z' 10 0 = Z 10 0 := by rw [r10, z2 10 0 (by omega), z1 10 0 (by unfold tfR; omega)]
  have z8 : Z2 8 0 = Z1 8 0 := z2 8 0 (by omega)
  have z5 : Z2 5 0 = Z1 5 0 := z2 5 0 (by omega)
  have z9 : Z2 9 0 = Z1 9 0 := z2 9 0 (by omega)
  have hg : ∀ j, gfr (X.1, V2, X.2.2) Z' j = gfr X Z j := fun j => gfr_same rfl (z20 j)
  obtain ⟨s0, q1, q2, hsh0⟩ := d7 fc (by omega)
  have : s0 = sh := nI_inj (by omega) (by omega) (q2.symm.trans e10)
  subst this
  have hsh_ne : s0 ≠ 0 := by
    intro e
    unfold cnt at hsh0
    rw [if_pos e] at hsh0
    omega
  have hss : s0 ≠ s := fun e => by rw [e] at hsh0; omega
  have w8 : Z 8 0 s0 = -1 := Classical.byContradiction fun q => d5 s0 hsh q hsh0
  have w81 : Z1 8 0 s0 = -1 := by
    rcases t9 s0 hsh with q | q
    · exact q
    · rw [q]; exact w8
  have hf0o : f0 < o1 := by omega
  have hff : f ≠ f0 := fun e => t1 (by rw [e])
  have ho31 : o1 ≤ 256 := by obtain ⟨⟨_, q, q', _⟩, _⟩ := t4; omega
  have w80 : Z1 8 0 s = nI f0 := (t8 s hs e8).1
  obtain ⟨m1, m2, m3⟩ := as_main (Z' := Z') (ch := 1) y2 hsh t2 (by rw [z5]; exact t7) (by rw [z8]; exact w81) y4 (Or.inr ⟨rfl, hsh_ne⟩) (fun j _ => by rw [r2]) (fun j hj => by rw [r3]; exact pk_cpy_out (by omega)) (fun q => absurd q (by decide)) r4 r5 r8 r9
  have hcnt : ∀ s', s' < 513 → cnt (X.1, V2, X.2.2) Z' s' + (if s' = s then 1 else 0) = cnt X Z s' + (if s' = s0 then 1 else 0) := by
    intro s' hs'
    have h1 := cnt_chg (X := X) (X' := (X.1, V2, X.2.2)) (Z := Z) (Z' := Z') (s := s') hi hfr (fun j _ => hg j) (fun j k' hj hk' hne => by
      by_cases e : j = i
      · subst e
        rw [r21, upd_n (fun q => hne ⟨rfl, q⟩), z21]
      · rw [r 21 j (by omega) (by omega), z21])
    have h2 : use1 Z i fr s' = if s' = s then 1 else 0 := by
      unfold use1
      rw [e21]
      by_cases e : s' = s
      · rw [if_pos e, e, if_pos rfl]
      · rw [if_neg e, if_neg (fun q => e (nI_inj (by omega) (by omega) q).symm)]
    have h3 : use1 Z' i fr s' = if s' = s0 then 1 else 0 := by
      unfold use1
      rw [r21, upd_s]
      by_cases e : s' = s0
      · rw [if_pos e, e, if_pos rfl]
      · rw [if_neg e, if_neg (fun q => e (nI_inj (by omega) (by omega) q).symm)]
    rw [h2, h3] at h1
    exact h1
  have hc0 : cnt (X.1, V2, X.2.2) Z' s0 = 1 := by
    have := hcnt s0 hsh
    rw [if_neg hss, if_pos rfl] at this
    omega
  have hcs : cnt (X.1, V2, X.2.2) Z' s + 1 = cnt X Z s := by
    have := hcnt s hs
    rw [if_pos rfl, if_neg (Ne.symm hss)] at this
    omega
  have hco : ∀ s', s' < 513 → s' ≠ s → s' ≠ s0 → cnt (X.1, V2, X.2.2) Z' s' = cnt X Z s' := by
    intro s' hs' h1 h2
    have := hcnt s' hs'
    rw [if_neg h1, if_neg h2] at this
    omega
  have hsc : ∀ s' j, s' < 513 → j < 64 → s' ≠ s0 → 64 * (s' + 1) ≤ X.2.1 4 → scn Z' s' j = scn Z s' j := by
    intro s' j hs' hj h1 h2
    rw [m2 s' j hs' hj h1, y5 s' j hs' hj (by rw [show (X.1, V1, X.2.2).2.1 4 = V1 4 from rfl, v4]; exact h2), t10 s' j hs' hj]
  have hla : X.2.1 4 ≤ V2 4 := by
    have : (X.1, V1, X.2.2).2.1 4 ≤ (X.1, V2, X.2.2).2.1 4 := y3
    rw [show (X.1, V1, X.2.2).2.1 4 = V1 4 from rfl, v4] at this
    exact this
  refine ⟨V2, o1, hd1, g31, g41, fc, s0, rfl, m1, ⟨?_, ?_, ?_, ?_, ?_, ?_, ?_, ?_, ?_⟩, t2, hsh, hsh_ne, by rw [r21, upd_s], by rw [r8, upd_s], by rw [r9, upd_s], hc0, by omega, by omega, ?_, ?_, ?_⟩
  · intro s' hs'
    rw [r7, z7]
    by_cases h1 : s' = s0
    · subst h1; rw [upd_s, hc0]; rfl
    · rw [upd_n h1]
      by_cases h2 : s' = s
      · subst h2
        rw [upd_s, d1 s' hs', ← hcs]
        exact nI_pred _
      · rw [upd_n h2, hco s' hs' h2 h1]
        exact d1 s' hs'
  · intro j k hj hk
    rw [hg] at hk
    by_cases e : j = i
    · subst e
      rw [r21, z21]
      by_cases e2 : k = fr
      · subst e2; exact ⟨s0, hsh, upd_s⟩
      · rw [upd_n e2]; exact d2 j k hj hk
    · rw [r 21 j (by omega) (by omega), z21]; exact d2 j k hj hk
  · intro j hj; rw [hg]; exact d3 j hj
  · intro s' hs' hne
    show 64 * (s' + 1) ≤ V2 4
    by_cases h1 : s' = s0
    · subst h1; exact y4
    · have : cnt X Z s' ≠ 0 := by
        by_cases h2 : s' = s
        · subst h2; omega
        · rw [← hco s' hs' h2 h1]; exact hne
      have := d4 s' hs' this
      omega
  · intro s' hs' hne
    by_cases h1 : s' = s0
    · subst h1; exact fun q => absurd (hc0.symm.trans q) (by decide)
    · rw [r8, upd_n h1, z8] at hne
      by_cases h2 : s' = s
      · subst h2; exact fun q => by have h9 : cnt (X.1, V2, X.2.2) Z' s' = 0 := q; omega
      · rw [hco s' hs' h2 h1]
        refine d5 s' hs' fun q => hne ?_
        rcases t9 s' hs' with q' | q'
        · exact q'
        · rw [q']; exact q
  · rw [r2, u1, upd_s]
  · intro j hj
    obtain ⟨s', q1, q2, q3⟩ := d7 j (by omega)
    refine ⟨s', q1, by rw [z10]; exact q2, ?_⟩
    have h1 : s' ≠ s0 := by
      intro e
      have := d8 j fc (by omega) (by omega) (by rw [q2, e10, e])
      omega
    have h2 : s' ≠ s := fun e => by rw [e] at q3; omega
    rw [hco s' q1 h2 h1]
    exact q3
  · intro j j' hj hj' e
    rw [z10] at e
    exact d8 j j' (by omega) (by omega) e
  · have h1 := sumN_chg (n := 513) (k := s0) (f := fun s => if cnt (X.1, V2, X.2.2) Z' s = 0 then 1 else 0) (g := fun s => if cnt X Z s = 0 then 1 else 0) hsh (fun j hj hne => by
      by_cases h2 : j = s
      · subst h2
        rw [if_neg (by omega), if_neg (by omega)]
      · rw [hco j hj h2 hne])
    try dsimp only at h1
    rw [if_pos hsh0, if_neg (by omega), d9] at h1
    show sumN 513 (fun s => if cnt (X.1, V2, X.2.2) Z' s = 0 then 1 else 0) = fc
    omega
  · intro j k w hj hk hw
    unfold mw
    by_cases e : j = i ∧ k = fr
    · obtain ⟨rfl, rfl⟩ := e
      rw [r21, upd_s, e21, nI_clamp (by omega), nI_clamp (by omega), m3, r3, pk_cpy_in (by omega) (by omega), show 64 * f0 + (64 * f + w - 64 * f) = 64 * f0 + w by omega]
      have q := y5 s w hs hw (by rw [show (X.1, V1, X.2.2).2.1 4 = V1 4 from rfl, v4]; exact d4 s hs (by omega))
      rw [scn_mem (f := f0) (by omega) (by rw [z8]; exact w80)] at q
      rw [q, t10 s w hs hw]
    · have e2 : Z' 21 j k = Z 21 j k := by
        by_cases e3 : j = i
        · subst e3
          rw [r21, upd_n (fun q => e ⟨rfl, q⟩), z21]
        · rw [r 21 j (by omega) (by omega), z21]
      obtain ⟨t, ht, et⟩ := d2 j k hj hk
      rw [e2, et, nI_clamp (by omega)]
      have hct := cnt_ge hj hk et
      refine hsc t w ht hw (fun q => ?_) (d4 t ht (by omega))
      rw [q] at hct
      omega
  · intro c i' h1 h2
    rw [r c i' h1 h2, z2 c i' (by omega), z1 c i' (by unfold tfR; omega)]
  · intro j hj
    rw [r21, upd_n hj, z21]
end
section
set_option maxHeartbeats 4000000 in
set_option maxRecDepth 100000 in
theorem c_X1_makeOwn (l : Launch) (sz0 : Nat) (D : va_G) (cs : Nat → ClassId) (X : Sh) (Z : ZT) (Y : va_W) (hX : HXI X) (hU : HUI X) (i : Nat) (hG : GI X i) (h o hd g3 g4 fc kc ks fr sh f0 : Nat) (hH : HA X Z h o hd g3 g4) (hB : HB X Z fc) (hi : i < 8) (hfr : fr < gfr X Z i) (hs : sh < 513) (e21 : Z 21 i fr = nI sh) (e8 : Z 8 0 sh = nI f0) (hf0 : f0 < o) (hkc : g3 + g4 ≤ kc) (hks : 32832 * (g3 + g4) ≤ ks) : Ctr l yX1_makeOwn (wsM yX1_makeOwn cX1_makeOwn 7 (some .int)) ({ frames := 3, cells := kc, slots := ks, locals := 72 } : Room) sz0 D cs [.ref (X.1 2 0), .ref (X.1 20 i), .int (nI fr), .int (nI f0)] X Z Y (fun X' Z' Y' v k n => Y = Y' ∧ ∃ f, v = some (.int (nI f)) ∧ MO X Z h g3 g4 i fr X' Z' f k n) := by
  refine Ctr.ofW (by decide +kernel) (by intro v hv; simp at hv; rcases hv with rfl | rfl | rfl | rfl <;> rfl) (Nat.le_of_ble_eq_true rfl) ?_
  intro p e s m below meth c ls C hr hlocks hname hl hN hw
  obtain ⟨hx, hb, hml, hown, hts⟩ := id C
  have hH0 := hH
  have hB0 := hB
  obtain ⟨⟨a1, a2, a3, a4⟩, ⟨b1, b2, b3⟩, ⟨c11, c12, c13, c14⟩, c2, c3, c4, c5, c6, c7⟩ := hH
  obtain ⟨d1, d2, d3, d4, d5, d6, d7, d8, d9⟩ := hB
  have hfr64 : fr < 64 := by have := d3 i hi; omega
  have hcl : cnt X Z sh ≤ 513 := by have h1 := hB0.total; have h2 := sumN_ge (f := fun s => cnt X Z s) hs; try dsimp only at h2
                                    omega
  refine lv_aload_n hx hb dX1_makeOwn_0 rfl (hl.at rfl) ?_
  refine w_getN C hN hw (c0 := 20) (i0 := i) rfl inA0 7 (by decide) mw652 rfl dX1_makeOwn_1 (hG 20 (by decide) (by decide)) rfl rfl rfl ?_
  refine lv_iload_n hx hb dX1_makeOwn_4 rfl (hl.at rfl) ?_
  refine lv_bipush (v := 63) hx hb dX1_makeOwn_5 (by decide) ?_
  refine lv_iand hx hb dX1_makeOwn_7 ?_
  rw [and63 hfr64]
  refine w_ild C hw (c0 := 21) (i0 := i) dX1_makeOwn_8 (hG 21 (by decide) (by decide)) rfl rfl (vp_in_nI hfr64 (by omega)) (nI_clamp (by omega)) ?_
  rw [e21]
  refine w_istore hx hb dX1_makeOwn_9 hl (Nat.le_of_ble_eq_true rfl) (fun ls hl => ?_)
  refine lv_aload_n hx hb dX1_makeOwn_11 rfl (hl.at rfl) ?_
  refine lv_iload hx hb dX1_makeOwn_12 (hl.at rfl) ?_
  refine w_callV C hN hw (c_X1_isSheet l sz0 D cs X _ Y _) ⟨(Nat.le_of_ble_eq_true rfl), (Nat.le_of_ble_eq_true rfl), mw202, mw15, cy_X1_isSheet⟩ mw199 mw200 mw201 (w_rec hw (c0 := 2) (i0 := 0) (hX 2 (by decide)) rfl rfl) rfl hl.1.1 rfl (Nat.le_of_ble_eq_true rfl) dX1_makeOwn_14 ⟨by show 0 + 0 ≤ kc; omega, by show 0 + 0 ≤ ks; omega⟩ (fun X' Z' Y' v k n H locs hp hw => ?_)
  obtain ⟨rfl, rfl, rfl, rfl, rfl, rfl⟩ := hp
  rw [isShv_nI hs]
  refine lv_if_ne (tgt := 22) hx hb dX1_makeOwn_17 (by decide) (fun h17 => ?_) (fun h17 => ?_)
  · refine lv_aload_n hx hb dX1_makeOwn_22 rfl (hl.at rfl) ?_
    refine w_get C hw (c0 := 2) (i0 := 0) rfl inA1 8 (by decide) mw32 rfl dX1_makeOwn_23 (hX 2 (by decide)) rfl rfl rfl ?_
    refine lv_iload hx hb dX1_makeOwn_26 (hl.at rfl) ?_
    refine w_ild C hw (c0 := 7) (i0 := 0) dX1_makeOwn_28 (hX 7 (by decide)) rfl rfl (vp_in_nI hs (by omega)) (nI_clamp (by omega)) ?_
    rw [d1 sh hs]
    refine lv_iconst (v := 1) hx hb dX1_makeOwn_29 (by decide) ?_
    refine lv_icmp_ne (tgt := 43) hx hb dX1_makeOwn_30 (by decide) (fun h30 => ?_) (fun h30 => ?_)
    · have hc2 : 2 ≤ cnt X Z sh := by
        have h1 := cnt_ge hi hfr e21
        have h2 : cnt X Z sh ≠ 1 := fun q => h30 (by rw [q]; rfl)
        omega
      obtain ⟨fc0, rfl⟩ : ∃ fc0, fc = fc0 + 1 := ⟨fc - 1, by have := hB0.room hs hc2; omega⟩
      obtain ⟨s2, hs2, e10, hs20⟩ := d7 fc0 (by omega)
      have e5 : Z 5 0 f0 = nI sh := by
        rcases c3 sh hs with q | ⟨f1, q1, q2, q3, -⟩
        · rw [q] at e8; exact absurd e8.symm (nI_ne_m1 (by omega))
        · have := nI_inj (by omega) (by omega) (q2.symm.trans e8)
          rw [← this]; exact q3
      refine lv_aload_n hx hb dX1_makeOwn_43 rfl (hl.at rfl) ?_
      refine lv_iload_n hx hb dX1_makeOwn_44 rfl (hl.at rfl) ?_
      refine w_callV C hN hw (c_X1_takeFrame l sz0 D cs X _ Y hX hU h o hd g3 g4 g3 (32768 * g3) (nI f0) hH0 (Or.inr ⟨f0, hf0, rfl, by rw [e5]; exact nI_ne_m1 (by omega)⟩) (Nat.le_refl _) (Nat.le_refl _)) ⟨(Nat.le_of_ble_eq_true rfl), (Nat.le_of_ble_eq_true rfl), mw206, mw15, cy_X1_takeFrame⟩ mw203 mw204 mw205 (w_rec hw (c0 := 2) (i0 := 0) (hX 2 (by decide)) rfl rfl) rfl hl.1.1 rfl (Nat.le_of_ble_eq_true rfl) dX1_makeOwn_45 ⟨by show 0 + g3 ≤ kc; omega, by show 0 + 32768 * g3 ≤ ks; omega⟩ (fun X' Z' Y' v k n H locs hp hw => ?_)
      obtain ⟨rfl, f, rfl, hT⟩ := hp
      have hT0 := hT
      obtain ⟨V1, o1, hd1, g31, rfl, v4, v14, t1, t2, t3, t4, t5, t6, t7, t8, t9, t10, t11, t12⟩ := hT
      have t4b := t4
      obtain ⟨⟨-, q2, q3, -⟩, -, ⟨q11, -, q13, -⟩, q2x, -⟩ := t4b
      refine w_istore hx hb dX1_makeOwn_48 hl (Nat.le_of_ble_eq_true rfl) (fun ls hl => ?_)
      refine lv_iload hx hb dX1_makeOwn_50 (hl.at rfl) ?_
      refine lv_iconst (v := -1) hx hb dX1_makeOwn_52 (by decide) ?_
      refine lv_icmp_ne (tgt := 60) hx hb dX1_makeOwn_53 (by decide) (fun h53 => ?_) (fun h53 => ?_)
      · refine lv_aload_n hx hb dX1_makeOwn_60 rfl (hl.at rfl) ?_
        refine w_callV C hN hw (c_X1_takeSheet l sz0 D cs (X.1, V1, X.2.2) Z' Y hX hU s2 fc0 g4 g4 (32832 * g4) (by have := hB0.fc_le; omega) (by rw [t12 3 (by decide) (by decide)]; exact d6) (by rw [t11 10 0 (by unfold tfR; omega)]; exact e10) hs2 q2x (Nat.le_refl _) (Nat.le_refl _)) ⟨(Nat.le_of_ble_eq_true rfl), (Nat.le_of_ble_eq_true rfl), mw228, mw15, cy_X1_takeSheet⟩ mw225 mw226 mw227 (w_rec hw (c0 := 2) (i0 := 0) (hX 2 (by decide)) rfl rfl) rfl hl.1.1 rfl (Nat.le_of_ble_eq_true rfl) dX1_makeOwn_61 ⟨by show 0 + 0 + k + g4 ≤ kc; omega, by show 0 + 0 + n + 32832 * g4 ≤ ks; omega⟩ (fun X2 Z2 Y2 v2 k2 n2 H locs hp hw => ?_)
        obtain ⟨rfl, rfl, hS⟩ := hp
        have hS0 := hS
        obtain ⟨V2, g42, rfl, w3, w13, s1, s2x, s3, s4, s5, s6, u1, u2, u3⟩ := hS
        refine w_istore hx hb dX1_makeOwn_64 hl (Nat.le_of_ble_eq_true rfl) (fun ls hl => ?_)
        refine lv_iload hx hb dX1_makeOwn_66 (hl.at rfl) ?_
        refine lv_iconst (v := -1) hx hb dX1_makeOwn_68 (by decide) ?_
        refine lv_icmp_ne (tgt := 74) hx hb dX1_makeOwn_69 (by decide) (fun h69 => ?_) (fun h69 => ?_)
        · refine lv_aload_n hx hb dX1_makeOwn_74 rfl (hl.at rfl) ?_
          refine w_get C hw (c0 := 2) (i0 := 0) rfl inA1 4 (by decide) mw27 rfl dX1_makeOwn_75 (hX 2 (by decide)) rfl rfl rfl ?_
          refine lv_iload_n hx hb dX1_makeOwn_78 rfl (hl.at rfl) ?_
          refine lv_bipush (v := 64) hx hb dX1_makeOwn_79 (by decide) ?_
          refine lv_imul hx hb dX1_makeOwn_81 ?_
          refine lv_aload_n hx hb dX1_makeOwn_82 rfl (hl.at rfl) ?_
          refine w_get C hw (c0 := 2) (i0 := 0) rfl inA1 4 (by decide) mw27 rfl dX1_makeOwn_83 (hX 2 (by decide)) rfl rfl rfl ?_
          refine lv_iload hx hb dX1_makeOwn_86 (hl.at rfl) ?_
          refine lv_bipush (v := 64) hx hb dX1_makeOwn_88 (by decide) ?_
          refine lv_imul hx hb dX1_makeOwn_90 ?_
          refine lv_bipush (v := 64) hx hb dX1_makeOwn_91 (by decide) ?_
          have ex : nI f * 64 = nI (64 * f) := by rw [show nI f * 64 = nI f * nI 64 from rfl, pk_mul, Nat.mul_comm]
          have es : nI f0 * 64 = nI (64 * f0) := by rw [show nI f0 * 64 = nI f0 * nI 64 from rfl, pk_mul, Nat.mul_comm]
          rw [ex, es]
          have hl3 : 64 * o1 ≤ V2 3 := by rw [w3]; exact q11
          refine w_cpy C hw (c0 := 3) (i0 := 0) (c1 := 3) (i1 := 0) mw195 dX1_makeOwn_93 (hX 3 (by decide)) rfl rfl (hX 3 (by decide)) rfl (fun _ => rfl) (nI_pos (by omega)) (nI_pos (by omega)) (by decide) (nI_clamp (by omega)) (nI_clamp (by omega)) (jn := 64) (by decide) (show 64 * f0 + 64 ≤ V2 3 by omega) (show 64 * f + 64 ≤ V2 3 by omega) hl.1.1 (Nat.le_of_ble_eq_true rfl) (Nat.le_of_ble_eq_true rfl) (fun H locs hw => ?_)
          refine lv_aload_n hx hb dX1_makeOwn_96 rfl (hl.at rfl) ?_
          refine w_get C hw (c0 := 2) (i0 := 0) rfl inA1 8 (by decide) mw32 rfl dX1_makeOwn_97 (hX 2 (by decide)) rfl rfl rfl ?_
          refine lv_iload hx hb dX1_makeOwn_100 (hl.at rfl) ?_
          refine lv_dup2_11 hx hb dX1_makeOwn_102 rfl rfl ?_
          refine w_ild C hw (c0 := 7) (i0 := 0) dX1_makeOwn_103 (hX 7 (by decide)) rfl rfl (vp_in_nI hs (by omega)) (nI_clamp (by omega)) ?_
          refine lv_iconst (v := 1) hx hb dX1_makeOwn_104 (by decide) ?_
          refine lv_isub hx hb dX1_makeOwn_105 ?_
          refine w_ist C hw (c0 := 7) (i0 := 0) dX1_makeOwn_106 (hX 7 (by decide)) rfl (fun _ => rfl) (vp_in_nI hs (by omega)) (nI_clamp (by omega)) (fun H locs hw => ?_)
          refine lv_aload_n hx hb dX1_makeOwn_107 rfl (hl.at rfl) ?_
          refine w_get C hw (c0 := 2) (i0 := 0) rfl inA1 8 (by decide) mw32 rfl dX1_makeOwn_108 (hX 2 (by decide)) rfl rfl rfl ?_
          refine lv_iload hx hb dX1_makeOwn_111 (hl.at rfl) ?_
          refine lv_iconst (v := 1) hx hb dX1_makeOwn_113 (by decide) ?_
          refine w_ist C hw (c0 := 7) (i0 := 0) dX1_makeOwn_114 (hX 7 (by decide)) rfl (fun _ => rfl) (vp_in_nI hs2 (by omega)) (nI_clamp (by omega)) (fun H locs hw => ?_)
          refine lv_aload_n hx hb dX1_makeOwn_115 rfl (hl.at rfl) ?_
          refine w_get C hw (c0 := 2) (i0 := 0) rfl inA1 9 (by decide) mw33 rfl dX1_makeOwn_116 (hX 2 (by decide)) rfl rfl rfl ?_
          refine lv_iload hx hb dX1_makeOwn_119 (hl.at rfl) ?_
          refine lv_iload hx hb dX1_makeOwn_121 (hl.at rfl) ?_
          refine w_ist C hw (c0 := 8) (i0 := 0) dX1_makeOwn_123 (hX 8 (by decide)) rfl (fun _ => rfl) (vp_in_nI hs2 (by omega)) (nI_clamp (by omega)) (fun H locs hw => ?_)
          refine lv_aload_n hx hb dX1_makeOwn_124 rfl (hl.at rfl) ?_
          refine w_get C hw (c0 := 2) (i0 := 0) rfl inA1 10 (by decide) mw34 rfl dX1_makeOwn_125 (hX 2 (by decide)) rfl rfl rfl ?_
          refine lv_iload hx hb dX1_makeOwn_128 (hl.at rfl) ?_
          refine lv_iconst (v := 1) hx hb dX1_makeOwn_130 (by decide) ?_
          refine w_zst C hw (c0 := 9) (i0 := 0) dX1_makeOwn_131 (hX 9 (by decide)) rfl (fun _ => rfl) (vp_in_nI hs2 (by omega)) (nI_clamp (by omega)) (by decide) (fun H locs hw => ?_)
          refine lv_aload_n hx hb dX1_makeOwn_132 rfl (hl.at rfl) ?_
          refine w_get C hw (c0 := 2) (i0 := 0) rfl inA1 6 (by decide) mw29 rfl dX1_makeOwn_133 (hX 2 (by decide)) rfl rfl rfl ?_
          refine lv_iload hx hb dX1_makeOwn_136 (hl.at rfl) ?_
          refine lv_iload hx hb dX1_makeOwn_138 (hl.at rfl) ?_
          refine w_ist C hw (c0 := 5) (i0 := 0) dX1_makeOwn_140 (hX 5 (by decide)) rfl (fun _ => rfl) (vp_in_nI (show f < 256 by omega) (by omega)) (nI_clamp (by omega)) (fun H locs hw => ?_)
          refine lv_aload_n hx hb dX1_makeOwn_141 rfl (hl.at rfl) ?_
          refine w_get C hw (c0 := 2) (i0 := 0) rfl inA1 7 (by decide) mw31 rfl dX1_makeOwn_142 (hX 2 (by decide)) rfl rfl rfl ?_
          refine lv_iload hx hb dX1_makeOwn_145 (hl.at rfl) ?_
          refine lv_iconst (v := 1) hx hb dX1_makeOwn_147 (by decide) ?_
          refine w_zst C hw (c0 := 6) (i0 := 0) dX1_makeOwn_148 (hX 6 (by decide)) rfl (fun _ => rfl) (vp_in_nI (show f < 256 by omega) (by omega)) (nI_clamp (by omega)) (by decide) (fun H locs hw => ?_)
          refine lv_aload_n hx hb dX1_makeOwn_149 rfl (hl.at rfl) ?_
          refine w_getN C hN hw (c0 := 20) (i0 := i) rfl inA0 7 (by decide) mw652 rfl dX1_makeOwn_150 (hG 20 (by decide) (by decide)) rfl rfl rfl ?_
          refine lv_iload_n hx hb dX1_makeOwn_153 rfl (hl.at rfl) ?_
          refine lv_bipush (v := 63) hx hb dX1_makeOwn_154 (by decide) ?_
          refine lv_iand hx hb dX1_makeOwn_156 ?_
          rw [and63 hfr64]
          refine lv_iload hx hb dX1_makeOwn_157 (hl.at rfl) ?_
          refine w_ist C hw (c0 := 21) (i0 := i) dX1_makeOwn_159 (hG 21 (by decide) (by decide)) rfl (fun _ => rfl) (vp_in_nI hfr64 (by omega)) (nI_clamp (by omega)) (fun H locs hw => ?_)
          refine lv_iload hx hb dX1_makeOwn_160 (hl.at rfl) ?_
          refine w_iret C hw hr hlocks dX1_makeOwn_162 ⟨rfl, f, rfl, ?_⟩
          rw [show 0 + 0 + k + k2 = k + k2 by omega, show 0 + 0 + n + n2 = n + n2 by omega]
          refine mo_two hH0 hB0 hi hfr hs e21 e8 hc2 hT0 hf0 e10 hs2 hS0 ?_ ?_ ?_ ?_ ?_ ?_ ?_ ?_ ?_ ?_
          · simp [upr]
          · simp [upr]
          · simp [upr]
          · simp [upr]
          · simp [upr]
          · simp [upr]
          · simp [upr]
          · simp [upr]
          · simp [upr]
          · intro c i' h1 h2
            rw [upr_n (by omega), upr_n (by omega), upr_n (by omega), upr_n (by omega), upr_n (by omega), upr_n (by omega), upr_n (by omega), upr_n (by omega)]
        · exact absurd h69 (nI_ne_m1 (by omega))
      · exact absurd h53 (nI_ne_m1 (by omega))
    · have hc1 : cnt X Z sh = 1 := nI_inj (by omega) (by decide) h30
      refine lv_aload_n hx hb dX1_makeOwn_33 rfl (hl.at rfl) ?_
      refine w_get C hw (c0 := 2) (i0 := 0) rfl inA1 10 (by decide) mw34 rfl dX1_makeOwn_34 (hX 2 (by decide)) rfl rfl rfl ?_
      refine lv_iload hx hb dX1_makeOwn_37 (hl.at rfl) ?_
      refine lv_iconst (v := 1) hx hb dX1_makeOwn_39 (by decide) ?_
      refine w_zst C hw (c0 := 9) (i0 := 0) dX1_makeOwn_40 (hX 9 (by decide)) rfl (fun _ => rfl) (vp_in_nI hs (by omega)) (nI_clamp (by omega)) (by decide) (fun H locs hw => ?_)
      refine lv_iload_n hx hb dX1_makeOwn_41 rfl (hl.at rfl) ?_
      exact w_iret C hw hr hlocks dX1_makeOwn_42 ⟨rfl, f0, rfl, mo_one hH0 hB0 hi hfr hs e21 e8 hf0 hc1⟩
  · exact absurd h17 (by decide)
end
section
/-- the host is right; its memory and room may grow gp times more -/
def HI (X : Sh) (Z : ZT) (h gp : Nat) : Prop := ∃ o hd g3 g4 fc, HA X Z h o hd g3 g4 ∧ HB X Z fc ∧ g3 + g4 ≤ gp
/-- the host has moved; the guests' words are M' -/
def HM (X : Sh) (Z : ZT) (h gp : Nat) (X' : Sh) (Z' : ZT) (k n : Nat) (M' : Nat → Nat → Nat → Int32) : Prop :=
  ∃ (V : Nat → Nat) (gp' : Nat), X' = (X.1, V, X.2.2) ∧ HI X' Z' h gp' ∧ k + gp' ≤ gp ∧ n ≤ 32832 * k ∧ (∀ j k w, j < 8 → k < gfr X Z j → w < 64 → mw Z' j k w = M' j k w) ∧ (∀ c i', ¬ (i' = 0 ∧ 2 ≤ c ∧ c ≤ 10) → c ≠ 21 → Z' c i' = Z c i')
theorem br_HB {X X' : Sh} {Z Z' : ZT} {h o g3 g4 s f k n fc : Nat} (B : HB X Z fc) (hs : s < 513) (hc : cnt X Z s ≠ 0) (T : BR X Z h o g3 g4 s X' Z' f k n) : HB X' Z' fc := by
  obtain ⟨V, o', hd', g3', rfl, v4, v14, -, -, -, -, -, -, -, r, r2, r8⟩ := T
  obtain ⟨d1, d2, d3, d4, d5, d6, d7, d8, d9⟩ := B
  have z20 : ∀ j, Z' 20 j = Z 20 j := fun j => r 20 j (by unfold tfR; omega)
  have z21 : ∀ j, Z' 21 j = Z 21 j := fun j => r 21 j (by unfold tfR; omega)
  have hg : ∀ j, gfr (X.1, V, X.2.2) Z' j = gfr X Z j := fun j => gfr_same rfl (z20 j)
  have hcn : ∀ s', cnt (X.1, V, X.2.2) Z' s' = cnt X Z s' := fun s' => cnt_same (fun j _ => hg j) (fun j k _ _ => by rw [z21])
  refine ⟨?_, ?_, ?_, ?_, ?_, ?_, ?_, ?_, ?_⟩
  · intro s' hs'; rw [r 7 0 (by unfold tfR; omega), hcn]; exact d1 s' hs'
  · intro j k hj hk; rw [hg] at hk; rw [z21]; exact d2 j k hj hk
  · intro j hj; rw [hg]; exact d3 j hj
  · intro s' hs' q
    rw [hcn] at q
    show 64 * (s' + 1) ≤ V 4
    rw [v4]; exact d4 s' hs' q
  · intro s' hs' q
    rw [hcn]
    rcases r8 s' hs' with q' | q' | q'
    · exact absurd q' q
    · exact d5 s' hs' (by rw [← q']; exact q)
    · rw [q']; exact hc
  · rw [r2 3 (by decide) (by decide)]; exact d6
  · intro j hj
    obtain ⟨s', q1, q2, q3⟩ := d7 j hj
    exact ⟨s', q1, by rw [r 10 0 (by unfold tfR; omega)]; exact q2, by rw [hcn]; exact q3⟩
  · rw [r 10 0 (by unfold tfR; omega)]; exact d8
  · rw [sumN_congr (fun k _ => by rw [hcn])]; exact d9
theorem br_HM {X X' : Sh} {Z Z' : ZT} {h o hd g3 g4 s f k n fc gp : Nat} (B : HB X Z fc) (hs : s < 513) (hc : cnt X Z s ≠ 0) (hgp : g3 + g4 ≤ gp) (T : BR X Z h o g3 g4 s X' Z' f k n) : HM X Z h gp X' Z' k n (mw Z) := by
  have B' := br_HB B hs hc T
  obtain ⟨V, o', hd', g3', rfl, v4, v14, hf, ho, hA, hk, hn, e8, sc, r, r2, r8⟩ := T
  obtain ⟨d1, d2, -⟩ := B
  refine ⟨V, g3' + g4, rfl, ⟨o', hd', g3', g4, fc, hA, B', Nat.le_refl _⟩, by omega, by omega, ?_, ?_⟩
  · intro j k w hj hk hw
    unfold mw
    rw [r 21 j (by unfold tfR; omega)]
    obtain ⟨t, ht, e⟩ := d2 j k hj hk
    rw [e, nI_clamp (by omega)]
    exact sc t w ht hw
  · intro c i' h1 h2
    exact r c i' (by unfold tfR; omega)
theorem mo_HM {X X' : Sh} {Z Z' : ZT} {h g3 g4 i fr f k n gp : Nat} (hgp : g3 + g4 ≤ gp) (T : MO X Z h g3 g4 i fr X' Z' f k n) : HM X Z h gp X' Z' k n (mw Z) := by
  obtain ⟨V, o', hd', g3', g4', fc', s', rfl, hA, hB, -, -, -, -, -, -, -, hk, hn, m, r, r21⟩ := T
  refine ⟨V, g3' + g4', rfl, ⟨o', hd', g3', g4', fc', hA, hB, Nat.le_refl _⟩, by omega, hn, m, fun c i' h1 h2 => r c i' h1 (fun q => h2 q.1)⟩
theorem HM.rfl' {X : Sh} {Z : ZT} {h gp : Nat} (H : HI X Z h gp) : HM X Z h gp X Z 0 0 (mw Z) := ⟨X.2.1, gp, rfl, H, by omega, by omega, fun _ _ _ _ _ _ => rfl, fun _ _ _ _ => rfl⟩
theorem HM.gfr {X X' : Sh} {Z Z' : ZT} {h gp k n : Nat} {M' : Nat → Nat → Nat → Int32} (H : HM X Z h gp X' Z' k n M') (j : Nat) : gfr X' Z' j = gfr X Z j := by
  obtain ⟨V, gp', rfl, -, -, -, -, r⟩ := H
  exact gfr_same rfl (r 20 j (by omega) (by decide))
/-- the row of a frame that is a guest's own is changed -/
theorem mo_put {X X' : Sh} {Z Z' Z2 : ZT} {h g3 g4 i fr f k n gp : Nat} (hi : i < 8) (hfr : fr < gfr X Z i) (hgp : g3 + g4 ≤ gp) (T : MO X Z h g3 g4 i fr X' Z' f k n) {m : Nat → Int32} (hm : ∀ j, ¬ (64 * f ≤ j ∧ j < 64 * f + 64) → m j = Z' 3 0 j) (e2 : Z2 = upr Z' 3 0 m) :
    HM X Z h gp X' Z2 k n (fun j k w => if j = i ∧ k = fr then m (64 * f + w) else mw Z j k w) := by
  obtain ⟨V, o', hd', g3', g4', fc', s', rfl, hA, hB, hf, hs, hs0, e21, e8, e9, hc1, hk, hn, mm, r, r21⟩ := T
  subst e2
  have z : ∀ c i', c ≠ 3 → upr Z' 3 0 m c i' = Z' c i' := fun c i' q => upr_k q
  have hA0 := hA
  obtain ⟨⟨a1, a2, a3, a4⟩, ⟨b1, b2, b3⟩, c1, c2, c3, c4, c5, c6, c7⟩ := hA
  have one : ∀ t f', t < 513 → f' < o' → Z' 8 0 t = nI f' → t ≠ s' → f' ≠ f := by
    intro t f' ht hf' e hne q
    subst q
    apply hne
    rcases c3 t ht with q | ⟨f1, q1, q2, q3, -⟩
    · rw [q] at e; exact absurd e.symm (nI_ne_m1 (by omega))
    · rcases c3 s' hs with p | ⟨f2, p1, p2, p3, -⟩
      · rw [p] at e8; exact absurd e8.symm (nI_ne_m1 (by omega))
      · have h1 := nI_inj (by omega) (by omega) (q2.symm.trans e)
        have h2 := nI_inj (by omega) (by omega) (p2.symm.trans e8)
        subst h1; subst h2
        exact nI_inj (by omega) (by omega) (q3.symm.trans p3)
  have sc : ∀ t w, t < 513 → w < 64 → t ≠ s' → scn (upr Z' 3 0 m) t w = scn Z' t w := by
    intro t w ht hw hne
    rcases c3 t ht with q | ⟨f1, q1, q2, -, -⟩
    · rw [scn_away (by rw [z 8 0 (by decide)]; exact q), scn_away q, z 4 0 (by decide)]
    · have := one t f1 ht q1 q2 hne
      rw [scn_mem (f := f1) (by omega) (by rw [z 8 0 (by decide)]; exact q2), scn_mem (by omega) q2, upr_s, hm _ (by omega)]
  have hg : ∀ j, gfr (X.1, V, X.2.2) Z' j = gfr X Z j := fun j => gfr_same rfl (r 20 j (by omega) (by omega))
  refine ⟨V, g3' + g4', rfl, ⟨o', hd', g3', g4', fc', ⟨⟨a1, a2, a3, a4⟩, ?_, c1, c2, ?_, ?_, ?_, ?_, ?_⟩, ?_, Nat.le_refl _⟩, by omega, hn, ?_, ?_⟩
  · rw [z 2 0 (by decide)]; exact ⟨b1, b2, b3⟩
  · rw [z 8 0 (by decide), z 5 0 (by decide)]; exact c3
  · rw [z 8 0 (by decide), z 5 0 (by decide)]; exact c4
  · rw [z 8 0 (by decide), z 9 0 (by decide)]; exact c5
  · intro t f' w ht hf' hw h8 h9
    rw [z 8 0 (by decide)] at h8
    rw [z 9 0 (by decide)] at h9
    have hne : t ≠ s' := fun q => by rw [q, e9] at h9; exact absurd h9 (by decide)
    have := one t f' ht hf' h8 hne
    rw [upr_s, hm _ (by omega), z 4 0 (by decide)]
    exact c6 t f' w ht hf' hw h8 h9
  · rw [z 4 0 (by decide)]; exact c7
  · obtain ⟨d1, d2, d3, d4, d5, d6, d7, d8, d9⟩ := hB
    have hcn : ∀ s', cnt (X.1, V, X.2.2) (upr Z' 3 0 m) s' = cnt (X.1, V, X.2.2) Z' s' := fun s' => cnt_same (fun j _ => gfr_same rfl (z 20 j (by decide))) (fun j k _ _ => by rw [z 21 j (by decide)])
    have hg2 : ∀ j, gfr (X.1, V, X.2.2) (upr Z' 3 0 m) j = gfr (X.1, V, X.2.2) Z' j := fun j => gfr_same rfl (z 20 j (by decide))
    refine ⟨?_, ?_, ?_, ?_, ?_, ?_, ?_, ?_, ?_⟩
    · intro t ht; rw [z 7 0 (by decide), hcn]; exact d1 t ht
    · intro j k hj hk; rw [z 21 j (by decide)]; rw [hg2] at hk; exact d2 j k hj hk
    · intro j hj; rw [hg2]; exact d3 j hj
    · intro t ht q; rw [hcn] at q; exact d4 t ht q
    · intro t ht q; rw [z 8 0 (by decide)] at q; rw [hcn]; exact d5 t ht q
    · rw [z 2 0 (by decide)]; exact d6
    · intro j hj
      obtain ⟨t, q1, q2, q3⟩ := d7 j hj
      exact ⟨t, q1, by rw [z 10 0 (by decide)]; exact q2, by rw [hcn]; exact q3⟩
    · rw [z 10 0 (by decide)]; exact d8
    · rw [sumN_congr (fun k _ => by rw [hcn])]; exact d9
  · intro j k w hj hk hw
    show mw (upr Z' 3 0 m) j k w = if j = i ∧ k = fr then m (64 * f + w) else mw Z j k w
    by_cases e : j = i ∧ k = fr
    · obtain ⟨rfl, rfl⟩ := e
      rw [if_pos ⟨rfl, rfl⟩]
      unfold mw
      rw [z 21 j (by decide), e21, nI_clamp (by omega), scn_mem (f := f) (by omega) (by rw [z 8 0 (by decide)]; exact e8), upr_s]
    · rw [if_neg e, ← mm j k w hj hk hw]
      unfold mw
      rw [z 21 j (by decide)]
      obtain ⟨-, d2, -⟩ := hB
      obtain ⟨t, ht, et⟩ := d2 j k hj (by rw [hg]; exact hk)
      rw [et, nI_clamp (by omega)]
      refine sc t w ht hw fun q => ?_
      subst q
      have := cnt_two (X := (X.1, V, X.2.2)) (Z := Z') hj (by rw [hg]; exact hk) et hi (by rw [hg]; exact hfr) e21 (fun q => e ⟨q.1, q.2⟩)
      omega
  · intro c i' h1 h2
    rw [upr_n (fun q => h1 ⟨q.2, by omega⟩)]
    exact r c i' h1 (fun q => h2 q.1)
/-- a guest that is there, with F frames -/
def GL (X : Sh) (Z : ZT) (i F : Nat) : Prop := i < 8 ∧ gfr X Z i = F ∧ Z 20 i 6 = nI F ∧ 1 ≤ F ∧ F ≤ 64
theorem hasWv_nI {F a : Nat} (hF : F ≤ 64) (ha : a < 64 * F) : hasWv (nI F) (nI a) = 1 := by
  unfold hasWv
  rw [if_neg (nI_pos (by omega)), if_neg]
  rw [show (64 : Int32) * nI F = nI (64 * F) from pk_mul 64 F]
  exact nI_ge ha (by omega)
theorem hasWv_in {F : Nat} {a : Int32} (hF : F ≤ 64) (h : hasWv (nI F) a ≠ 0) : ∃ n, n < 64 * F ∧ a = nI n := by
  unfold hasWv at h
  by_cases h1 : a < 0
  · rw [if_pos h1] at h; exact absurd rfl h
  · rw [if_neg h1] at h
    by_cases h2 : 64 * nI F ≤ a
    · rw [if_pos h2] at h; exact absurd rfl h
    · obtain ⟨n, hn, rfl⟩ := nI_of h1
      refine ⟨n, ?_, rfl⟩
      rw [show (64 : Int32) * nI F = nI (64 * F) from pk_mul 64 F] at h2
      rcases Nat.lt_or_ge n (64 * F) with q | q
      · exact q
      · exact absurd (nI_le q (by omega)) h2
theorem hasWv_01 (F a : Int32) : hasWv F a = 0 ∨ hasWv F a = 1 := by
  unfold hasWv
  split
  · exact Or.inl rfl
  · split
    · exact Or.inl rfl
    · exact Or.inr rfl
/-- word of a guest's memory, 0 where there is none -/
def rdv (Z : ZT) (i F : Nat) (a : Int32) : Int32 := if hasWv (nI F) a = 0 then 0 else mw Z i (a.toNatClampNeg / 64) (a.toNatClampNeg % 64)
theorem rdv_nI {Z : ZT} {i F a : Nat} (hF : F ≤ 64) (ha : a < 64 * F) : rdv Z i F (nI a) = mw Z i (a / 64) (a % 64) := by
  unfold rdv
  rw [hasWv_nI hF ha, if_neg (by decide), nI_clamp (by omega)]
end
