section
-- ===== PART A: goes FIRST, ahead of the names: the tables' words, and 'selects' of the private methods out of them =====
/-- a private method of a class that the tables say can be made, by its rows of tables_1 -/
def lw_okq (q : MethodName × Nat) : Prop := (q.1.cls ≠ "java/lang/invoke/MethodHandle" ∧ q.1.cls ≠ "java/lang/invoke/VarHandle") ∧ Cond.instantiable q.1.cls q.2 ∈ tables_1 ∧ Cond.privateMethod q.1 ∈ tables_1 ∧ Cond.instanceMethod q.1 ∈ tables_1
theorem lw_p0 : lw_okq (⟨"ElbowQueue", "found", "(I)I"⟩, 14) := ⟨⟨by decide +kernel, by decide +kernel⟩, List.mem_of_getElem? (i := 13) (by decide +kernel), List.mem_of_getElem? (i := 277) (by decide +kernel), List.mem_of_getElem? (i := 278) (by decide +kernel)⟩
theorem lw_p1 : lw_okq (⟨"ElbowQueue", "fine", "(I)I"⟩, 14) := ⟨⟨by decide +kernel, by decide +kernel⟩, List.mem_of_getElem? (i := 13) (by decide +kernel), List.mem_of_getElem? (i := 286) (by decide +kernel), List.mem_of_getElem? (i := 287) (by decide +kernel)⟩
theorem lw_p2 : lw_okq (⟨"ElbowQueue$Reader", "readHead", "(LElbowQueue$Told;)V"⟩, 4) := ⟨⟨by decide +kernel, by decide +kernel⟩, List.mem_of_getElem? (i := 40) (by decide +kernel), List.mem_of_getElem? (i := 357) (by decide +kernel), List.mem_of_getElem? (i := 358) (by decide +kernel)⟩
theorem lw_p3 : lw_okq (⟨"ElbowQueue$Reader", "sign", "(I)V"⟩, 4) := ⟨⟨by decide +kernel, by decide +kernel⟩, List.mem_of_getElem? (i := 40) (by decide +kernel), List.mem_of_getElem? (i := 361) (by decide +kernel), List.mem_of_getElem? (i := 362) (by decide +kernel)⟩
theorem lw_p4 : lw_okq (⟨"ElbowQueue$Reader", "byteAt", "(I)I"⟩, 4) := ⟨⟨by decide +kernel, by decide +kernel⟩, List.mem_of_getElem? (i := 40) (by decide +kernel), List.mem_of_getElem? (i := 365) (by decide +kernel), List.mem_of_getElem? (i := 366) (by decide +kernel)⟩
theorem lw_p5 : lw_okq (⟨"ElbowQueue$Reader", "number", "(I)I"⟩, 4) := ⟨⟨by decide +kernel, by decide +kernel⟩, List.mem_of_getElem? (i := 40) (by decide +kernel), List.mem_of_getElem? (i := 369) (by decide +kernel), List.mem_of_getElem? (i := 370) (by decide +kernel)⟩
theorem lw_p6 : lw_okq (⟨"ElbowQueue$Reader", "readWaiters", "(LElbowQueue$Told;)V"⟩, 4) := ⟨⟨by decide +kernel, by decide +kernel⟩, List.mem_of_getElem? (i := 40) (by decide +kernel), List.mem_of_getElem? (i := 376) (by decide +kernel), List.mem_of_getElem? (i := 377) (by decide +kernel)⟩
theorem lw_p7 : lw_okq (⟨"ElbowQueue$Reader", "readPassers", "(LElbowQueue$Told;)V"⟩, 4) := ⟨⟨by decide +kernel, by decide +kernel⟩, List.mem_of_getElem? (i := 40) (by decide +kernel), List.mem_of_getElem? (i := 387) (by decide +kernel), List.mem_of_getElem? (i := 388) (by decide +kernel)⟩
theorem lw_p8 : lw_okq (⟨"ElbowQueue$Reader", "sort", "()I"⟩, 4) := ⟨⟨by decide +kernel, by decide +kernel⟩, List.mem_of_getElem? (i := 40) (by decide +kernel), List.mem_of_getElem? (i := 391) (by decide +kernel), List.mem_of_getElem? (i := 392) (by decide +kernel)⟩
theorem lw_p9 : lw_okq (⟨"ElbowQueue$Town", "join", "(I)V"⟩, 11) := ⟨⟨by decide +kernel, by decide +kernel⟩, List.mem_of_getElem? (i := 107) (by decide +kernel), List.mem_of_getElem? (i := 409) (by decide +kernel), List.mem_of_getElem? (i := 410) (by decide +kernel)⟩
theorem lw_p10 : lw_okq (⟨"ElbowQueue$Town", "tellOn", "()V"⟩, 11) := ⟨⟨by decide +kernel, by decide +kernel⟩, List.mem_of_getElem? (i := 107) (by decide +kernel), List.mem_of_getElem? (i := 443) (by decide +kernel), List.mem_of_getElem? (i := 444) (by decide +kernel)⟩
theorem lw_p11 : lw_okq (⟨"ElbowQueue$Town", "takesOn", "(I)Z"⟩, 11) := ⟨⟨by decide +kernel, by decide +kernel⟩, List.mem_of_getElem? (i := 107) (by decide +kernel), List.mem_of_getElem? (i := 451) (by decide +kernel), List.mem_of_getElem? (i := 452) (by decide +kernel)⟩
theorem lw_p12 : lw_okq (⟨"ElbowQueue$Town", "standOn", "()V"⟩, 11) := ⟨⟨by decide +kernel, by decide +kernel⟩, List.mem_of_getElem? (i := 107) (by decide +kernel), List.mem_of_getElem? (i := 459) (by decide +kernel), List.mem_of_getElem? (i := 460) (by decide +kernel)⟩
theorem lw_p13 : lw_okq (⟨"ElbowQueue$Town", "bears", "(I)I"⟩, 11) := ⟨⟨by decide +kernel, by decide +kernel⟩, List.mem_of_getElem? (i := 107) (by decide +kernel), List.mem_of_getElem? (i := 463) (by decide +kernel), List.mem_of_getElem? (i := 464) (by decide +kernel)⟩
theorem lw_p14 : lw_okq (⟨"ElbowQueue$Town", "hoped", "(II)I"⟩, 11) := ⟨⟨by decide +kernel, by decide +kernel⟩, List.mem_of_getElem? (i := 107) (by decide +kernel), List.mem_of_getElem? (i := 467) (by decide +kernel), List.mem_of_getElem? (i := 468) (by decide +kernel)⟩
theorem lw_p15 : lw_okq (⟨"ElbowQueue$Town", "meetPasser", "(Z)V"⟩, 11) := ⟨⟨by decide +kernel, by decide +kernel⟩, List.mem_of_getElem? (i := 107) (by decide +kernel), List.mem_of_getElem? (i := 471) (by decide +kernel), List.mem_of_getElem? (i := 472) (by decide +kernel)⟩
def lw_privs_1 : List (MethodName × Nat) := [(⟨"ElbowQueue", "found", "(I)I"⟩, 14), (⟨"ElbowQueue", "fine", "(I)I"⟩, 14), (⟨"ElbowQueue$Reader", "readHead", "(LElbowQueue$Told;)V"⟩, 4), (⟨"ElbowQueue$Reader", "sign", "(I)V"⟩, 4), (⟨"ElbowQueue$Reader", "byteAt", "(I)I"⟩, 4), (⟨"ElbowQueue$Reader", "number", "(I)I"⟩, 4), (⟨"ElbowQueue$Reader", "readWaiters", "(LElbowQueue$Told;)V"⟩, 4), (⟨"ElbowQueue$Reader", "readPassers", "(LElbowQueue$Told;)V"⟩, 4), (⟨"ElbowQueue$Reader", "sort", "()I"⟩, 4), (⟨"ElbowQueue$Town", "join", "(I)V"⟩, 11), (⟨"ElbowQueue$Town", "tellOn", "()V"⟩, 11), (⟨"ElbowQueue$Town", "takesOn", "(I)Z"⟩, 11), (⟨"ElbowQueue$Town", "standOn", "()V"⟩, 11), (⟨"ElbowQueue$Town", "bears", "(I)I"⟩, 11), (⟨"ElbowQueue$Town", "hoped", "(II)I"⟩, 11), (⟨"ElbowQueue$Town", "meetPasser", "(Z)V"⟩, 11)]
theorem lw_r1 : ∀ q ∈ lw_privs_1, lw_okq q := List.forall_mem_cons.mpr ⟨lw_p0, List.forall_mem_cons.mpr ⟨lw_p1, List.forall_mem_cons.mpr ⟨lw_p2, List.forall_mem_cons.mpr ⟨lw_p3, List.forall_mem_cons.mpr ⟨lw_p4, List.forall_mem_cons.mpr ⟨lw_p5, List.forall_mem_cons.mpr ⟨lw_p6, List.forall_mem_cons.mpr ⟨lw_p7, List.forall_mem_cons.mpr ⟨lw_p8, List.forall_mem_cons.mpr ⟨lw_p9, List.forall_mem_cons.mpr ⟨lw_p10, List.forall_mem_cons.mpr ⟨lw_p11, List.forall_mem_cons.mpr ⟨lw_p12, List.forall_mem_cons.mpr ⟨lw_p13, List.forall_mem_cons.mpr ⟨lw_p14, List.forall_mem_cons.mpr ⟨lw_p15, fun _ h => absurd h List.not_mem_nil⟩⟩⟩⟩⟩⟩⟩⟩⟩⟩⟩⟩⟩⟩⟩⟩
theorem lw_p16 : lw_okq (⟨"ElbowQueue", "isPerson", "(I)Z"⟩, 14) := ⟨⟨by decide +kernel, by decide +kernel⟩, List.mem_of_getElem? (i := 13) (by decide +kernel), List.mem_of_getElem? (i := 483) (by decide +kernel), List.mem_of_getElem? (i := 484) (by decide +kernel)⟩
theorem lw_p17 : lw_okq (⟨"ElbowQueue$Foretold", "firstMinute", "(IIII)I"⟩, 5) := ⟨⟨by decide +kernel, by decide +kernel⟩, List.mem_of_getElem? (i := 177) (by decide +kernel), List.mem_of_getElem? (i := 564) (by decide +kernel), List.mem_of_getElem? (i := 565) (by decide +kernel)⟩
theorem lw_p18 : lw_okq (⟨"ElbowQueue$Foretold", "shows", "(III)Z"⟩, 5) := ⟨⟨by decide +kernel, by decide +kernel⟩, List.mem_of_getElem? (i := 177) (by decide +kernel), List.mem_of_getElem? (i := 568) (by decide +kernel), List.mem_of_getElem? (i := 569) (by decide +kernel)⟩
theorem lw_p19 : lw_okq (⟨"ElbowQueue$Foretold", "fitting", "(IIII)J"⟩, 5) := ⟨⟨by decide +kernel, by decide +kernel⟩, List.mem_of_getElem? (i := 177) (by decide +kernel), List.mem_of_getElem? (i := 635) (by decide +kernel), List.mem_of_getElem? (i := 636) (by decide +kernel)⟩
theorem lw_p20 : lw_okq (⟨"ElbowQueue$Foretold", "goOn", "(IZ)V"⟩, 5) := ⟨⟨by decide +kernel, by decide +kernel⟩, List.mem_of_getElem? (i := 177) (by decide +kernel), List.mem_of_getElem? (i := 640) (by decide +kernel), List.mem_of_getElem? (i := 641) (by decide +kernel)⟩
theorem lw_p21 : lw_okq (⟨"ElbowQueue$Asks", "asked", "(III)I"⟩, 4) := ⟨⟨by decide +kernel, by decide +kernel⟩, List.mem_of_getElem? (i := 202) (by decide +kernel), List.mem_of_getElem? (i := 700) (by decide +kernel), List.mem_of_getElem? (i := 701) (by decide +kernel)⟩
theorem lw_p22 : lw_okq (⟨"ElbowQueue$Asks", "given", "(III)I"⟩, 4) := ⟨⟨by decide +kernel, by decide +kernel⟩, List.mem_of_getElem? (i := 202) (by decide +kernel), List.mem_of_getElem? (i := 714) (by decide +kernel), List.mem_of_getElem? (i := 715) (by decide +kernel)⟩
theorem lw_p23 : lw_okq (⟨"ElbowQueue$Asks", "leave", "(I)V"⟩, 4) := ⟨⟨by decide +kernel, by decide +kernel⟩, List.mem_of_getElem? (i := 202) (by decide +kernel), List.mem_of_getElem? (i := 718) (by decide +kernel), List.mem_of_getElem? (i := 719) (by decide +kernel)⟩
theorem lw_p24 : lw_okq (⟨"ElbowQueueModel", "found", "(I)I"⟩, 22) := ⟨⟨by decide +kernel, by decide +kernel⟩, List.mem_of_getElem? (i := 748) (by decide +kernel), List.mem_of_getElem? (i := 834) (by decide +kernel), List.mem_of_getElem? (i := 835) (by decide +kernel)⟩
theorem lw_p25 : lw_okq (⟨"ElbowQueueModel", "well", "(I)I"⟩, 22) := ⟨⟨by decide +kernel, by decide +kernel⟩, List.mem_of_getElem? (i := 748) (by decide +kernel), List.mem_of_getElem? (i := 839) (by decide +kernel), List.mem_of_getElem? (i := 840) (by decide +kernel)⟩
theorem lw_p26 : lw_okq (⟨"ElbowQueueModel", "readTown", "()I"⟩, 22) := ⟨⟨by decide +kernel, by decide +kernel⟩, List.mem_of_getElem? (i := 748) (by decide +kernel), List.mem_of_getElem? (i := 865) (by decide +kernel), List.mem_of_getElem? (i := 866) (by decide +kernel)⟩
theorem lw_p27 : lw_okq (⟨"ElbowQueueModel", "sign", "(I)I"⟩, 22) := ⟨⟨by decide +kernel, by decide +kernel⟩, List.mem_of_getElem? (i := 748) (by decide +kernel), List.mem_of_getElem? (i := 869) (by decide +kernel), List.mem_of_getElem? (i := 870) (by decide +kernel)⟩
theorem lw_p28 : lw_okq (⟨"ElbowQueueModel", "byteAt", "(I)I"⟩, 22) := ⟨⟨by decide +kernel, by decide +kernel⟩, List.mem_of_getElem? (i := 748) (by decide +kernel), List.mem_of_getElem? (i := 873) (by decide +kernel), List.mem_of_getElem? (i := 874) (by decide +kernel)⟩
theorem lw_p29 : lw_okq (⟨"ElbowQueueModel", "number", "(I)I"⟩, 22) := ⟨⟨by decide +kernel, by decide +kernel⟩, List.mem_of_getElem? (i := 748) (by decide +kernel), List.mem_of_getElem? (i := 877) (by decide +kernel), List.mem_of_getElem? (i := 878) (by decide +kernel)⟩
theorem lw_p30 : lw_okq (⟨"ElbowQueueModel", "readPasser", "()I"⟩, 22) := ⟨⟨by decide +kernel, by decide +kernel⟩, List.mem_of_getElem? (i := 748) (by decide +kernel), List.mem_of_getElem? (i := 886) (by decide +kernel), List.mem_of_getElem? (i := 887) (by decide +kernel)⟩
theorem lw_p31 : lw_okq (⟨"ElbowQueueModel", "readOne", "(I)I"⟩, 22) := ⟨⟨by decide +kernel, by decide +kernel⟩, List.mem_of_getElem? (i := 748) (by decide +kernel), List.mem_of_getElem? (i := 890) (by decide +kernel), List.mem_of_getElem? (i := 891) (by decide +kernel)⟩
def lw_privs_2 : List (MethodName × Nat) := [(⟨"ElbowQueue", "isPerson", "(I)Z"⟩, 14), (⟨"ElbowQueue$Foretold", "firstMinute", "(IIII)I"⟩, 5), (⟨"ElbowQueue$Foretold", "shows", "(III)Z"⟩, 5), (⟨"ElbowQueue$Foretold", "fitting", "(IIII)J"⟩, 5), (⟨"ElbowQueue$Foretold", "goOn", "(IZ)V"⟩, 5), (⟨"ElbowQueue$Asks", "asked", "(III)I"⟩, 4), (⟨"ElbowQueue$Asks", "given", "(III)I"⟩, 4), (⟨"ElbowQueue$Asks", "leave", "(I)V"⟩, 4), (⟨"ElbowQueueModel", "found", "(I)I"⟩, 22), (⟨"ElbowQueueModel", "well", "(I)I"⟩, 22), (⟨"ElbowQueueModel", "readTown", "()I"⟩, 22), (⟨"ElbowQueueModel", "sign", "(I)I"⟩, 22), (⟨"ElbowQueueModel", "byteAt", "(I)I"⟩, 22), (⟨"ElbowQueueModel", "number", "(I)I"⟩, 22), (⟨"ElbowQueueModel", "readPasser", "()I"⟩, 22), (⟨"ElbowQueueModel", "readOne", "(I)I"⟩, 22)]
theorem lw_r2 : ∀ q ∈ lw_privs_2, lw_okq q := List.forall_mem_cons.mpr ⟨lw_p16, List.forall_mem_cons.mpr ⟨lw_p17, List.forall_mem_cons.mpr ⟨lw_p18, List.forall_mem_cons.mpr ⟨lw_p19, List.forall_mem_cons.mpr ⟨lw_p20, List.forall_mem_cons.mpr ⟨lw_p21, List.forall_mem_cons.mpr ⟨lw_p22, List.forall_mem_cons.mpr ⟨lw_p23, List.forall_mem_cons.mpr ⟨lw_p24, List.forall_mem_cons.mpr ⟨lw_p25, List.forall_mem_cons.mpr ⟨lw_p26, List.forall_mem_cons.mpr ⟨lw_p27, List.forall_mem_cons.mpr ⟨lw_p28, List.forall_mem_cons.mpr ⟨lw_p29, List.forall_mem_cons.mpr ⟨lw_p30, List.forall_mem_cons.mpr ⟨lw_p31, fun _ h => absurd h List.not_mem_nil⟩⟩⟩⟩⟩⟩⟩⟩⟩⟩⟩⟩⟩⟩⟩⟩
theorem lw_p32 : lw_okq (⟨"ElbowQueueModel", "readWaiter", "()I"⟩, 22) := ⟨⟨by decide +kernel, by decide +kernel⟩, List.mem_of_getElem? (i := 748) (by decide +kernel), List.mem_of_getElem? (i := 897) (by decide +kernel), List.mem_of_getElem? (i := 898) (by decide +kernel)⟩
theorem lw_p33 : lw_okq (⟨"ElbowQueueModel", "people", "()I"⟩, 22) := ⟨⟨by decide +kernel, by decide +kernel⟩, List.mem_of_getElem? (i := 748) (by decide +kernel), List.mem_of_getElem? (i := 902) (by decide +kernel), List.mem_of_getElem? (i := 903) (by decide +kernel)⟩
theorem lw_p34 : lw_okq (⟨"ElbowQueueModel", "isTown", "()Z"⟩, 22) := ⟨⟨by decide +kernel, by decide +kernel⟩, List.mem_of_getElem? (i := 748) (by decide +kernel), List.mem_of_getElem? (i := 914) (by decide +kernel), List.mem_of_getElem? (i := 915) (by decide +kernel)⟩
theorem lw_p35 : lw_okq (⟨"ElbowQueueModel", "keepAct", "()V"⟩, 22) := ⟨⟨by decide +kernel, by decide +kernel⟩, List.mem_of_getElem? (i := 748) (by decide +kernel), List.mem_of_getElem? (i := 920) (by decide +kernel), List.mem_of_getElem? (i := 921) (by decide +kernel)⟩
theorem lw_p36 : lw_okq (⟨"ElbowQueueModel", "goMinute", "(Z)V"⟩, 22) := ⟨⟨by decide +kernel, by decide +kernel⟩, List.mem_of_getElem? (i := 748) (by decide +kernel), List.mem_of_getElem? (i := 924) (by decide +kernel), List.mem_of_getElem? (i := 925) (by decide +kernel)⟩
theorem lw_p37 : lw_okq (⟨"ElbowQueueModel", "tellOn", "()V"⟩, 22) := ⟨⟨by decide +kernel, by decide +kernel⟩, List.mem_of_getElem? (i := 748) (by decide +kernel), List.mem_of_getElem? (i := 928) (by decide +kernel), List.mem_of_getElem? (i := 929) (by decide +kernel)⟩
theorem lw_p38 : lw_okq (⟨"ElbowQueueModel", "believes", "(I)I"⟩, 22) := ⟨⟨by decide +kernel, by decide +kernel⟩, List.mem_of_getElem? (i := 748) (by decide +kernel), List.mem_of_getElem? (i := 932) (by decide +kernel), List.mem_of_getElem? (i := 933) (by decide +kernel)⟩
theorem lw_p39 : lw_okq (⟨"ElbowQueueModel", "takesOn", "(I)Z"⟩, 22) := ⟨⟨by decide +kernel, by decide +kernel⟩, List.mem_of_getElem? (i := 748) (by decide +kernel), List.mem_of_getElem? (i := 936) (by decide +kernel), List.mem_of_getElem? (i := 937) (by decide +kernel)⟩
theorem lw_p40 : lw_okq (⟨"ElbowQueueModel", "outOf", "(I)V"⟩, 22) := ⟨⟨by decide +kernel, by decide +kernel⟩, List.mem_of_getElem? (i := 748) (by decide +kernel), List.mem_of_getElem? (i := 940) (by decide +kernel), List.mem_of_getElem? (i := 941) (by decide +kernel)⟩
theorem lw_p41 : lw_okq (⟨"ElbowQueueModel", "leave", "()V"⟩, 22) := ⟨⟨by decide +kernel, by decide +kernel⟩, List.mem_of_getElem? (i := 748) (by decide +kernel), List.mem_of_getElem? (i := 944) (by decide +kernel), List.mem_of_getElem? (i := 945) (by decide +kernel)⟩
theorem lw_p42 : lw_okq (⟨"ElbowQueueModel", "bears", "(I)I"⟩, 22) := ⟨⟨by decide +kernel, by decide +kernel⟩, List.mem_of_getElem? (i := 748) (by decide +kernel), List.mem_of_getElem? (i := 948) (by decide +kernel), List.mem_of_getElem? (i := 949) (by decide +kernel)⟩
theorem lw_p43 : lw_okq (⟨"ElbowQueueModel", "join", "(I)V"⟩, 22) := ⟨⟨by decide +kernel, by decide +kernel⟩, List.mem_of_getElem? (i := 748) (by decide +kernel), List.mem_of_getElem? (i := 952) (by decide +kernel), List.mem_of_getElem? (i := 953) (by decide +kernel)⟩
theorem lw_p44 : lw_okq (⟨"ElbowQueueModel", "isPerson", "(I)Z"⟩, 22) := ⟨⟨by decide +kernel, by decide +kernel⟩, List.mem_of_getElem? (i := 748) (by decide +kernel), List.mem_of_getElem? (i := 960) (by decide +kernel), List.mem_of_getElem? (i := 961) (by decide +kernel)⟩
theorem lw_p45 : lw_okq (⟨"ElbowQueueModel", "isInQueue", "(I)Z"⟩, 22) := ⟨⟨by decide +kernel, by decide +kernel⟩, List.mem_of_getElem? (i := 748) (by decide +kernel), List.mem_of_getElem? (i := 965) (by decide +kernel), List.mem_of_getElem? (i := 966) (by decide +kernel)⟩
theorem lw_p46 : lw_okq (⟨"ElbowQueueModel", "tellOne", "(II)V"⟩, 22) := ⟨⟨by decide +kernel, by decide +kernel⟩, List.mem_of_getElem? (i := 748) (by decide +kernel), List.mem_of_getElem? (i := 969) (by decide +kernel), List.mem_of_getElem? (i := 970) (by decide +kernel)⟩
theorem lw_p47 : lw_okq (⟨"ElbowQueueModel", "placeOf", "(I)I"⟩, 22) := ⟨⟨by decide +kernel, by decide +kernel⟩, List.mem_of_getElem? (i := 748) (by decide +kernel), List.mem_of_getElem? (i := 977) (by decide +kernel), List.mem_of_getElem? (i := 978) (by decide +kernel)⟩
def lw_privs_3 : List (MethodName × Nat) := [(⟨"ElbowQueueModel", "readWaiter", "()I"⟩, 22), (⟨"ElbowQueueModel", "people", "()I"⟩, 22), (⟨"ElbowQueueModel", "isTown", "()Z"⟩, 22), (⟨"ElbowQueueModel", "keepAct", "()V"⟩, 22), (⟨"ElbowQueueModel", "goMinute", "(Z)V"⟩, 22), (⟨"ElbowQueueModel", "tellOn", "()V"⟩, 22), (⟨"ElbowQueueModel", "believes", "(I)I"⟩, 22), (⟨"ElbowQueueModel", "takesOn", "(I)Z"⟩, 22), (⟨"ElbowQueueModel", "outOf", "(I)V"⟩, 22), (⟨"ElbowQueueModel", "leave", "()V"⟩, 22), (⟨"ElbowQueueModel", "bears", "(I)I"⟩, 22), (⟨"ElbowQueueModel", "join", "(I)V"⟩, 22), (⟨"ElbowQueueModel", "isPerson", "(I)Z"⟩, 22), (⟨"ElbowQueueModel", "isInQueue", "(I)Z"⟩, 22), (⟨"ElbowQueueModel", "tellOne", "(II)V"⟩, 22), (⟨"ElbowQueueModel", "placeOf", "(I)I"⟩, 22)]
theorem lw_r3 : ∀ q ∈ lw_privs_3, lw_okq q := List.forall_mem_cons.mpr ⟨lw_p32, List.forall_mem_cons.mpr ⟨lw_p33, List.forall_mem_cons.mpr ⟨lw_p34, List.forall_mem_cons.mpr ⟨lw_p35, List.forall_mem_cons.mpr ⟨lw_p36, List.forall_mem_cons.mpr ⟨lw_p37, List.forall_mem_cons.mpr ⟨lw_p38, List.forall_mem_cons.mpr ⟨lw_p39, List.forall_mem_cons.mpr ⟨lw_p40, List.forall_mem_cons.mpr ⟨lw_p41, List.forall_mem_cons.mpr ⟨lw_p42, List.forall_mem_cons.mpr ⟨lw_p43, List.forall_mem_cons.mpr ⟨lw_p44, List.forall_mem_cons.mpr ⟨lw_p45, List.forall_mem_cons.mpr ⟨lw_p46, List.forall_mem_cons.mpr ⟨lw_p47, fun _ h => absurd h List.not_mem_nil⟩⟩⟩⟩⟩⟩⟩⟩⟩⟩⟩⟩⟩⟩⟩⟩
theorem lw_p48 : lw_okq (⟨"ElbowQueueModel", "start", "()V"⟩, 22) := ⟨⟨by decide +kernel, by decide +kernel⟩, List.mem_of_getElem? (i := 748) (by decide +kernel), List.mem_of_getElem? (i := 1005) (by decide +kernel), List.mem_of_getElem? (i := 1006) (by decide +kernel)⟩
theorem lw_p49 : lw_okq (⟨"ElbowQueueModel", "goMinutes", "(I)V"⟩, 22) := ⟨⟨by decide +kernel, by decide +kernel⟩, List.mem_of_getElem? (i := 748) (by decide +kernel), List.mem_of_getElem? (i := 1009) (by decide +kernel), List.mem_of_getElem? (i := 1010) (by decide +kernel)⟩
theorem lw_p50 : lw_okq (⟨"ElbowQueueModel", "howMany", "(I)I"⟩, 22) := ⟨⟨by decide +kernel, by decide +kernel⟩, List.mem_of_getElem? (i := 748) (by decide +kernel), List.mem_of_getElem? (i := 1013) (by decide +kernel), List.mem_of_getElem? (i := 1014) (by decide +kernel)⟩
theorem lw_p51 : lw_okq (⟨"ElbowQueueModel", "back", "()V"⟩, 22) := ⟨⟨by decide +kernel, by decide +kernel⟩, List.mem_of_getElem? (i := 748) (by decide +kernel), List.mem_of_getElem? (i := 1017) (by decide +kernel), List.mem_of_getElem? (i := 1018) (by decide +kernel)⟩
theorem lw_p52 : lw_okq (⟨"ElbowQueueModel", "goLives", "()I"⟩, 22) := ⟨⟨by decide +kernel, by decide +kernel⟩, List.mem_of_getElem? (i := 748) (by decide +kernel), List.mem_of_getElem? (i := 1029) (by decide +kernel), List.mem_of_getElem? (i := 1030) (by decide +kernel)⟩
theorem lw_p53 : lw_okq (⟨"ElbowQueueModel", "allBelieve", "(I)Z"⟩, 22) := ⟨⟨by decide +kernel, by decide +kernel⟩, List.mem_of_getElem? (i := 748) (by decide +kernel), List.mem_of_getElem? (i := 1045) (by decide +kernel), List.mem_of_getElem? (i := 1046) (by decide +kernel)⟩
theorem lw_p54 : lw_okq (⟨"ElbowQueueModel", "joinElbows", "(I)V"⟩, 22) := ⟨⟨by decide +kernel, by decide +kernel⟩, List.mem_of_getElem? (i := 748) (by decide +kernel), List.mem_of_getElem? (i := 1054) (by decide +kernel), List.mem_of_getElem? (i := 1055) (by decide +kernel)⟩
theorem lw_p55 : lw_okq (⟨"ElbowQueueModel", "passersIn", "()I"⟩, 22) := ⟨⟨by decide +kernel, by decide +kernel⟩, List.mem_of_getElem? (i := 748) (by decide +kernel), List.mem_of_getElem? (i := 1058) (by decide +kernel), List.mem_of_getElem? (i := 1059) (by decide +kernel)⟩
theorem lw_p56 : lw_okq (⟨"ElbowQueueModel", "isSeen", "(III)Z"⟩, 22) := ⟨⟨by decide +kernel, by decide +kernel⟩, List.mem_of_getElem? (i := 748) (by decide +kernel), List.mem_of_getElem? (i := 1085) (by decide +kernel), List.mem_of_getElem? (i := 1086) (by decide +kernel)⟩
theorem lw_p57 : lw_okq (⟨"ElbowQueueModel", "size", "(I)I"⟩, 22) := ⟨⟨by decide +kernel, by decide +kernel⟩, List.mem_of_getElem? (i := 748) (by decide +kernel), List.mem_of_getElem? (i := 1112) (by decide +kernel), List.mem_of_getElem? (i := 1113) (by decide +kernel)⟩
theorem lw_p58 : lw_okq (⟨"ElbowQueueModel", "isFirstOne", "(I)Z"⟩, 22) := ⟨⟨by decide +kernel, by decide +kernel⟩, List.mem_of_getElem? (i := 748) (by decide +kernel), List.mem_of_getElem? (i := 1116) (by decide +kernel), List.mem_of_getElem? (i := 1117) (by decide +kernel)⟩
theorem lw_p59 : lw_okq (⟨"ElbowQueueModel", "sizeOfFirst", "(I)I"⟩, 22) := ⟨⟨by decide +kernel, by decide +kernel⟩, List.mem_of_getElem? (i := 748) (by decide +kernel), List.mem_of_getElem? (i := 1120) (by decide +kernel), List.mem_of_getElem? (i := 1121) (by decide +kernel)⟩
theorem lw_p60 : lw_okq (⟨"ElbowQueueModel", "note", "(I)V"⟩, 22) := ⟨⟨by decide +kernel, by decide +kernel⟩, List.mem_of_getElem? (i := 748) (by decide +kernel), List.mem_of_getElem? (i := 1124) (by decide +kernel), List.mem_of_getElem? (i := 1125) (by decide +kernel)⟩
theorem lw_p61 : lw_okq (⟨"ElbowQueueModel", "firstSize", "(I)I"⟩, 22) := ⟨⟨by decide +kernel, by decide +kernel⟩, List.mem_of_getElem? (i := 748) (by decide +kernel), List.mem_of_getElem? (i := 1128) (by decide +kernel), List.mem_of_getElem? (i := 1129) (by decide +kernel)⟩
theorem lw_p62 : lw_okq (⟨"ElbowQueueModel", "plainSize", "(I)I"⟩, 22) := ⟨⟨by decide +kernel, by decide +kernel⟩, List.mem_of_getElem? (i := 748) (by decide +kernel), List.mem_of_getElem? (i := 1132) (by decide +kernel), List.mem_of_getElem? (i := 1133) (by decide +kernel)⟩
theorem lw_p63 : lw_okq (⟨"ElbowQueueModel", "believerSize", "(I)I"⟩, 22) := ⟨⟨by decide +kernel, by decide +kernel⟩, List.mem_of_getElem? (i := 748) (by decide +kernel), List.mem_of_getElem? (i := 1136) (by decide +kernel), List.mem_of_getElem? (i := 1137) (by decide +kernel)⟩
def lw_privs_4 : List (MethodName × Nat) := [(⟨"ElbowQueueModel", "start", "()V"⟩, 22), (⟨"ElbowQueueModel", "goMinutes", "(I)V"⟩, 22), (⟨"ElbowQueueModel", "howMany", "(I)I"⟩, 22), (⟨"ElbowQueueModel", "back", "()V"⟩, 22), (⟨"ElbowQueueModel", "goLives", "()I"⟩, 22), (⟨"ElbowQueueModel", "allBelieve", "(I)Z"⟩, 22), (⟨"ElbowQueueModel", "joinElbows", "(I)V"⟩, 22), (⟨"ElbowQueueModel", "passersIn", "()I"⟩, 22), (⟨"ElbowQueueModel", "isSeen", "(III)Z"⟩, 22), (⟨"ElbowQueueModel", "size", "(I)I"⟩, 22), (⟨"ElbowQueueModel", "isFirstOne", "(I)Z"⟩, 22), (⟨"ElbowQueueModel", "sizeOfFirst", "(I)I"⟩, 22), (⟨"ElbowQueueModel", "note", "(I)V"⟩, 22), (⟨"ElbowQueueModel", "firstSize", "(I)I"⟩, 22), (⟨"ElbowQueueModel", "plainSize", "(I)I"⟩, 22), (⟨"ElbowQueueModel", "believerSize", "(I)I"⟩, 22)]
theorem lw_r4 : ∀ q ∈ lw_privs_4, lw_okq q := List.forall_mem_cons.mpr ⟨lw_p48, List.forall_mem_cons.mpr ⟨lw_p49, List.forall_mem_cons.mpr ⟨lw_p50, List.forall_mem_cons.mpr ⟨lw_p51, List.forall_mem_cons.mpr ⟨lw_p52, List.forall_mem_cons.mpr ⟨lw_p53, List.forall_mem_cons.mpr ⟨lw_p54, List.forall_mem_cons.mpr ⟨lw_p55, List.forall_mem_cons.mpr ⟨lw_p56, List.forall_mem_cons.mpr ⟨lw_p57, List.forall_mem_cons.mpr ⟨lw_p58, List.forall_mem_cons.mpr ⟨lw_p59, List.forall_mem_cons.mpr ⟨lw_p60, List.forall_mem_cons.mpr ⟨lw_p61, List.forall_mem_cons.mpr ⟨lw_p62, List.forall_mem_cons.mpr ⟨lw_p63, fun _ h => absurd h List.not_mem_nil⟩⟩⟩⟩⟩⟩⟩⟩⟩⟩⟩⟩⟩⟩⟩⟩
theorem lw_p64 : lw_okq (⟨"ElbowQueueModel", "mark", "(I)I"⟩, 22) := ⟨⟨by decide +kernel, by decide +kernel⟩, List.mem_of_getElem? (i := 748) (by decide +kernel), List.mem_of_getElem? (i := 1140) (by decide +kernel), List.mem_of_getElem? (i := 1141) (by decide +kernel)⟩
theorem lw_p65 : lw_okq (⟨"ElbowQueueModel", "believerMark", "(I)I"⟩, 22) := ⟨⟨by decide +kernel, by decide +kernel⟩, List.mem_of_getElem? (i := 748) (by decide +kernel), List.mem_of_getElem? (i := 1144) (by decide +kernel), List.mem_of_getElem? (i := 1145) (by decide +kernel)⟩
theorem lw_p66 : lw_okq (⟨"ElbowQueueModel", "plainMark", "(I)I"⟩, 22) := ⟨⟨by decide +kernel, by decide +kernel⟩, List.mem_of_getElem? (i := 748) (by decide +kernel), List.mem_of_getElem? (i := 1148) (by decide +kernel), List.mem_of_getElem? (i := 1149) (by decide +kernel)⟩
theorem lw_p67 : lw_okq (⟨"ElbowQueueModel", "rows", "()I"⟩, 22) := ⟨⟨by decide +kernel, by decide +kernel⟩, List.mem_of_getElem? (i := 748) (by decide +kernel), List.mem_of_getElem? (i := 1160) (by decide +kernel), List.mem_of_getElem? (i := 1161) (by decide +kernel)⟩
def lw_privs_5 : List (MethodName × Nat) := [(⟨"ElbowQueueModel", "mark", "(I)I"⟩, 22), (⟨"ElbowQueueModel", "believerMark", "(I)I"⟩, 22), (⟨"ElbowQueueModel", "plainMark", "(I)I"⟩, 22), (⟨"ElbowQueueModel", "rows", "()I"⟩, 22)]
theorem lw_r5 : ∀ q ∈ lw_privs_5, lw_okq q := List.forall_mem_cons.mpr ⟨lw_p64, List.forall_mem_cons.mpr ⟨lw_p65, List.forall_mem_cons.mpr ⟨lw_p66, List.forall_mem_cons.mpr ⟨lw_p67, fun _ h => absurd h List.not_mem_nil⟩⟩⟩⟩
def lw_privs : List (MethodName × Nat) := lw_privs_1 ++ (lw_privs_2 ++ (lw_privs_3 ++ (lw_privs_4 ++ (lw_privs_5))))
def lw_tbl : List Cond := k2_sels lw_privs ++ tables_1
theorem lw_privs_ok : ∀ q ∈ lw_privs, lw_okq q := by
  show ∀ q ∈ lw_privs_1 ++ (lw_privs_2 ++ (lw_privs_3 ++ (lw_privs_4 ++ (lw_privs_5)))), lw_okq q
  exact List.forall_mem_append.mpr ⟨lw_r1, List.forall_mem_append.mpr ⟨lw_r2, List.forall_mem_append.mpr ⟨lw_r3, List.forall_mem_append.mpr ⟨lw_r4, lw_r5⟩⟩⟩⟩
end
section
def RX0 : String := "ElbowQueue$Acts"
def TX0 : u_T := fun k => match k with
  | 0 => ("ElbowQueue$Acts", "ring", "[LElbowQueue$Town;", true)
  | 1 => ("ElbowQueue$Acts", "end", "I", false)
  | _ => ("ElbowQueue$Acts", "kept", "I", false)
def tyX0 : Nat → FieldType := fun k => match k with
  | 0 => .array (.object "ElbowQueue$Town")
  | 1 => .int
  | _ => .int
abbrev wsX00 : List Cond := u_ws RX0 TX0 3
theorem nmX0 : ∀ a, a < 3 → ∀ b, b < 3 → a ≠ b → (TX0 a).2.1 ≠ (TX0 b).2.1 := by decide +kernel
theorem tyX0_ok : ∀ k, k < 3 → parseFieldDescriptor (TX0 k).2.2.1 = some (tyX0 k) := by decide +kernel
abbrev cX0_init : ByteArray := prog_2_method_1_code
def yX0_init : MethodName := ⟨RX0, "<init>", "(LElbowQueue$Told;)V"⟩
abbrev cX0_kept : ByteArray := prog_2_method_2_code
def yX0_kept : MethodName := ⟨RX0, "kept", "()I"⟩
abbrev cX0_forget : ByteArray := prog_2_method_3_code
def yX0_forget : MethodName := ⟨RX0, "forget", "()V"⟩
abbrev cX0_keep : ByteArray := prog_2_method_4_code
def yX0_keep : MethodName := ⟨RX0, "keep", "(LElbowQueue$Town;)V"⟩
abbrev cX0_giveBack : ByteArray := prog_2_method_5_code
def yX0_giveBack : MethodName := ⟨RX0, "giveBack", "(LElbowQueue$Town;)V"⟩
def RX1 : String := "ElbowQueue$Asks"
def TX1 : u_T := fun k => match k with
  | 0 => ("ElbowQueue$Asks", "told", "LElbowQueue$Told;", true)
  | 1 => ("ElbowQueue$Asks", "town", "LElbowQueue$Town;", true)
  | 2 => ("ElbowQueue$Asks", "traces", "[I", true)
  | _ => ("ElbowQueue$Asks", "length", "I", false)
def tyX1 : Nat → FieldType := fun k => match k with
  | 0 => .object "ElbowQueue$Told"
  | 1 => .object "ElbowQueue$Town"
  | 2 => .array .int
  | _ => .int
abbrev wsX10 : List Cond := u_ws RX1 TX1 4
theorem nmX1 : ∀ a, a < 4 → ∀ b, b < 4 → a ≠ b → (TX1 a).2.1 ≠ (TX1 b).2.1 := by decide +kernel
theorem tyX1_ok : ∀ k, k < 4 → parseFieldDescriptor (TX1 k).2.2.1 = some (tyX1 k) := by decide +kernel
abbrev cX1_init : ByteArray := prog_3_method_1_code
def yX1_init : MethodName := ⟨RX1, "<init>", "(LElbowQueue$Told;LElbowQueue$Town;)V"⟩
abbrev cX1_isA : ByteArray := prog_3_method_2_code
def yX1_isA : MethodName := ⟨RX1, "isA", "(II)Z"⟩
abbrev cX1_traced : ByteArray := prog_3_method_3_code
def yX1_traced : MethodName := ⟨RX1, "traced", "(I)I"⟩
abbrev cX1_begin : ByteArray := prog_3_method_4_code
def yX1_begin : MethodName := ⟨RX1, "begin", "(II)I"⟩
abbrev cX1_asked : ByteArray := prog_3_method_5_code
def yX1_asked : MethodName := ⟨RX1, "asked", "(III)I"⟩
abbrev cX1_bodyOf : ByteArray := prog_3_method_6_code
def yX1_bodyOf : MethodName := ⟨RX1, "bodyOf", "(II)I"⟩
abbrev cX1_given : ByteArray := prog_3_method_7_code
def yX1_given : MethodName := ⟨RX1, "given", "(III)I"⟩
abbrev cX1_leave : ByteArray := prog_3_method_8_code
def yX1_leave : MethodName := ⟨RX1, "leave", "(I)V"⟩
def RX2 : String := "ElbowQueue$Foretold"
def TX2 : u_T := fun k => match k with
  | 0 => ("ElbowQueue$Foretold", "wanted", "[I", true)
  | 1 => ("ElbowQueue$Foretold", "now", "LElbowQueue$Town;", true)
  | 2 => ("ElbowQueue$Foretold", "then", "LElbowQueue$Town;", true)
  | 3 => ("ElbowQueue$Foretold", "till", "LElbowQueue$Town;", true)
  | _ => ("ElbowQueue$Foretold", "path", "[LElbowQueue$Town;", true)
def tyX2 : Nat → FieldType := fun k => match k with
  | 0 => .array .int
  | 1 => .object "ElbowQueue$Town"
  | 2 => .object "ElbowQueue$Town"
  | 3 => .object "ElbowQueue$Town"
  | _ => .array (.object "ElbowQueue$Town")
abbrev wsX20 : List Cond := u_ws RX2 TX2 5
theorem nmX2 : ∀ a, a < 5 → ∀ b, b < 5 → a ≠ b → (TX2 a).2.1 ≠ (TX2 b).2.1 := by decide +kernel
theorem tyX2_ok : ∀ k, k < 5 → parseFieldDescriptor (TX2 k).2.2.1 = some (tyX2 k) := by decide +kernel
abbrev cX2_init : ByteArray := prog_4_method_1_code
def yX2_init : MethodName := ⟨RX2, "<init>", "(LElbowQueue$Told;LElbowQueue$Town;)V"⟩
abbrev cX2_letGoBy : ByteArray := prog_4_method_2_code
def yX2_letGoBy : MethodName := ⟨RX2, "letGoBy", "(LElbowQueue$Town;I)V"⟩
abbrev cX2_behind : ByteArray := prog_4_method_3_code
def yX2_behind : MethodName := ⟨RX2, "behind", "(I)LElbowQueue$Town;"⟩
abbrev cX2_firstMinute : ByteArray := prog_4_method_4_code
def yX2_firstMinute : MethodName := ⟨RX2, "firstMinute", "(IIII)I"⟩
abbrev cX2_shows : ByteArray := prog_4_method_5_code
def yX2_shows : MethodName := ⟨RX2, "shows", "(III)Z"⟩
abbrev cX2_life : ByteArray := prog_4_method_6_code
def yX2_life : MethodName := ⟨RX2, "life", "()I"⟩
abbrev cX2_whenIs : ByteArray := prog_4_method_7_code
def yX2_whenIs : MethodName := ⟨RX2, "whenIs", "(II)I"⟩
abbrev cX2_whenAllBelieve : ByteArray := prog_4_method_8_code
def yX2_whenAllBelieve : MethodName := ⟨RX2, "whenAllBelieve", "(I)I"⟩
abbrev cX2_whenAreJust : ByteArray := prog_4_method_9_code
def yX2_whenAreJust : MethodName := ⟨RX2, "whenAreJust", "(I)I"⟩
abbrev cX2_bestWord : ByteArray := prog_4_method_10_code
def yX2_bestWord : MethodName := ⟨RX2, "bestWord", "(IZ)I"⟩
abbrev cX2_fewestElbows : ByteArray := prog_4_method_11_code
def yX2_fewestElbows : MethodName := ⟨RX2, "fewestElbows", "(I)I"⟩
abbrev cX2_odds : ByteArray := prog_4_method_12_code
def yX2_odds : MethodName := ⟨RX2, "odds", "(IIIZ)I"⟩
abbrev cX2_fitting : ByteArray := prog_4_method_13_code
def yX2_fitting : MethodName := ⟨RX2, "fitting", "(IIII)J"⟩
abbrev cX2_goOn : ByteArray := prog_4_method_14_code
def yX2_goOn : MethodName := ⟨RX2, "goOn", "(IZ)V"⟩
abbrev cX2_greatestDivisor : ByteArray := prog_4_method_15_code
def yX2_greatestDivisor : MethodName := ⟨RX2, "greatestDivisor", "(JJ)J"⟩
abbrev cX2_bestOpening : ByteArray := prog_4_method_16_code
def yX2_bestOpening : MethodName := ⟨RX2, "bestOpening", "(IZ)I"⟩
def RX3 : String := "ElbowQueue$Reader"
def TX3 : u_T := fun k => match k with
  | 0 => ("ElbowQueue$Reader", "tape", "[I", true)
  | 1 => ("ElbowQueue$Reader", "length", "I", false)
  | 2 => ("ElbowQueue$Reader", "at", "I", false)
  | _ => ("ElbowQueue$Reader", "faulty", "I", false)
def tyX3 : Nat → FieldType := fun k => match k with
  | 0 => .array .int
  | 1 => .int
  | 2 => .int
  | _ => .int
abbrev wsX30 : List Cond := u_ws RX3 TX3 4
theorem nmX3 : ∀ a, a < 4 → ∀ b, b < 4 → a ≠ b → (TX3 a).2.1 ≠ (TX3 b).2.1 := by decide +kernel
theorem tyX3_ok : ∀ k, k < 4 → parseFieldDescriptor (TX3 k).2.2.1 = some (tyX3 k) := by decide +kernel
abbrev cX3_init : ByteArray := prog_5_method_1_code
def yX3_init : MethodName := ⟨RX3, "<init>", "()V"⟩
abbrev cX3_isFull : ByteArray := prog_5_method_2_code
def yX3_isFull : MethodName := ⟨RX3, "isFull", "()Z"⟩
abbrev cX3_take : ByteArray := prog_5_method_3_code
def yX3_take : MethodName := ⟨RX3, "take", "(I)I"⟩
abbrev cX3_length : ByteArray := prog_5_method_4_code
def yX3_length : MethodName := ⟨RX3, "length", "()I"⟩
abbrev cX3_at : ByteArray := prog_5_method_5_code
def yX3_at : MethodName := ⟨RX3, "at", "()I"⟩
abbrev cX3_read : ByteArray := prog_5_method_6_code
def yX3_read : MethodName := ⟨RX3, "read", "(LElbowQueue$Told;)I"⟩
abbrev cX3_readHead : ByteArray := prog_5_method_7_code
def yX3_readHead : MethodName := ⟨RX3, "readHead", "(LElbowQueue$Told;)V"⟩
abbrev cX3_readWaiters : ByteArray := prog_5_method_8_code
def yX3_readWaiters : MethodName := ⟨RX3, "readWaiters", "(LElbowQueue$Told;)V"⟩
abbrev cX3_readPassers : ByteArray := prog_5_method_9_code
def yX3_readPassers : MethodName := ⟨RX3, "readPassers", "(LElbowQueue$Told;)V"⟩
abbrev cX3_byteAt : ByteArray := prog_5_method_10_code
def yX3_byteAt : MethodName := ⟨RX3, "byteAt", "(I)I"⟩
abbrev cX3_sign : ByteArray := prog_5_method_11_code
def yX3_sign : MethodName := ⟨RX3, "sign", "(I)V"⟩
abbrev cX3_sort : ByteArray := prog_5_method_12_code
def yX3_sort : MethodName := ⟨RX3, "sort", "()I"⟩
abbrev cX3_number : ByteArray := prog_5_method_13_code
def yX3_number : MethodName := ⟨RX3, "number", "(I)I"⟩
abbrev cX3_isFigure : ByteArray := prog_5_method_14_code
def yX3_isFigure : MethodName := ⟨RX3, "isFigure", "(I)Z"⟩
abbrev cX3_kindOf : ByteArray := prog_5_method_15_code
def yX3_kindOf : MethodName := ⟨RX3, "kindOf", "(I)I"⟩
def RX4 : String := "ElbowQueue$Rows"
def TX4 : u_T := fun k => match k with
  | 0 => ("ElbowQueue$Rows", "items", "[[I", true)
  | 1 => ("ElbowQueue$Rows", "lanes", "[I", true)
  | _ => ("ElbowQueue$Rows", "sizes", "[I", true)
def tyX4 : Nat → FieldType := fun k => match k with
  | 0 => .array (.array .int)
  | 1 => .array .int
  | _ => .array .int
abbrev wsX40 : List Cond := u_ws RX4 TX4 3
theorem nmX4 : ∀ a, a < 3 → ∀ b, b < 3 → a ≠ b → (TX4 a).2.1 ≠ (TX4 b).2.1 := by decide +kernel
theorem tyX4_ok : ∀ k, k < 3 → parseFieldDescriptor (TX4 k).2.2.1 = some (tyX4 k) := by decide +kernel
abbrev cX4_init : ByteArray := prog_6_method_1_code
def yX4_init : MethodName := ⟨RX4, "<init>", "()V"⟩
abbrev cX4_isNumber : ByteArray := prog_6_method_2_code
def yX4_isNumber : MethodName := ⟨RX4, "isNumber", "(I)Z"⟩
abbrev cX4_isLane : ByteArray := prog_6_method_3_code
def yX4_isLane : MethodName := ⟨RX4, "isLane", "(I)Z"⟩
abbrev cX4_isMissing : ByteArray := prog_6_method_4_code
def yX4_isMissing : MethodName := ⟨RX4, "isMissing", "(I)Z"⟩
abbrev cX4_laneOf : ByteArray := prog_6_method_5_code
def yX4_laneOf : MethodName := ⟨RX4, "laneOf", "(I)I"⟩
abbrev cX4_item : ByteArray := prog_6_method_6_code
def yX4_item : MethodName := ⟨RX4, "item", "(II)I"⟩
abbrev cX4_spans : ByteArray := prog_6_method_7_code
def yX4_spans : MethodName := ⟨RX4, "spans", "(III)Z"⟩
abbrev cX4_lay : ByteArray := prog_6_method_8_code
def yX4_lay : MethodName := ⟨RX4, "lay", "(III)V"⟩
abbrev cX4_put : ByteArray := prog_6_method_9_code
def yX4_put : MethodName := ⟨RX4, "put", "(III)I"⟩
abbrev cX4_bring : ByteArray := prog_6_method_10_code
def yX4_bring : MethodName := ⟨RX4, "bring", "(IIIII)V"⟩
abbrev cX4_takeAway : ByteArray := prog_6_method_11_code
def yX4_takeAway : MethodName := ⟨RX4, "takeAway", "(I)I"⟩
abbrev cX4_present : ByteArray := prog_6_method_12_code
def yX4_present : MethodName := ⟨RX4, "present", "()I"⟩
def RX5 : String := "ElbowQueue$Told"
def TX5 : u_T := fun k => match k with
  | 0 => ("ElbowQueue$Told", "kinds", "[I", true)
  | 1 => ("ElbowQueue$Told", "patience", "[I", true)
  | 2 => ("ElbowQueue$Told", "belief", "[I", true)
  | 3 => ("ElbowQueue$Told", "need", "[I", true)
  | 4 => ("ElbowQueue$Told", "cause", "I", false)
  | 5 => ("ElbowQueue$Told", "serves", "I", false)
  | 6 => ("ElbowQueue$Told", "waiters", "I", false)
  | _ => ("ElbowQueue$Told", "people", "I", false)
def tyX5 : Nat → FieldType := fun k => match k with
  | 0 => .array .int
  | 1 => .array .int
  | 2 => .array .int
  | 3 => .array .int
  | 4 => .int
  | 5 => .int
  | 6 => .int
  | _ => .int
abbrev wsX50 : List Cond := u_ws RX5 TX5 8
theorem nmX5 : ∀ a, a < 8 → ∀ b, b < 8 → a ≠ b → (TX5 a).2.1 ≠ (TX5 b).2.1 := by decide +kernel
theorem tyX5_ok : ∀ k, k < 8 → parseFieldDescriptor (TX5 k).2.2.1 = some (tyX5 k) := by decide +kernel
abbrev cX5_init : ByteArray := prog_7_method_1_code
def yX5_init : MethodName := ⟨RX5, "<init>", "()V"⟩
abbrev cX5_clear : ByteArray := prog_7_method_2_code
def yX5_clear : MethodName := ⟨RX5, "clear", "()V"⟩
abbrev cX5_add : ByteArray := prog_7_method_3_code
def yX5_add : MethodName := ⟨RX5, "add", "(IIII)V"⟩
abbrev cX5_become : ByteArray := prog_7_method_4_code
def yX5_become : MethodName := ⟨RX5, "become", "(LElbowQueue$Told;)V"⟩
def RX6 : String := "ElbowQueue$Town"
def TX6 : u_T := fun k => match k with
  | 0 => ("ElbowQueue$Town", "told", "LElbowQueue$Told;", true)
  | 1 => ("ElbowQueue$Town", "queue", "[I", true)
  | 2 => ("ElbowQueue$Town", "belief", "[I", true)
  | 3 => ("ElbowQueue$Town", "where", "[I", true)
  | 4 => ("ElbowQueue$Town", "stood", "[I", true)
  | 5 => ("ElbowQueue$Town", "origin", "[I", true)
  | 6 => ("ElbowQueue$Town", "minute", "I", false)
  | 7 => ("ElbowQueue$Town", "cause", "I", false)
  | 8 => ("ElbowQueue$Town", "serves", "I", false)
  | 9 => ("ElbowQueue$Town", "size", "I", false)
  | _ => ("ElbowQueue$Town", "next", "I", false)
def tyX6 : Nat → FieldType := fun k => match k with
  | 0 => .object "ElbowQueue$Told"
  | 1 => .array .int
  | 2 => .array .int
  | 3 => .array .int
  | 4 => .array .int
  | 5 => .array .int
  | 6 => .int
  | 7 => .int
  | 8 => .int
  | 9 => .int
  | _ => .int
abbrev wsX60 : List Cond := u_ws RX6 TX6 11
theorem nmX6 : ∀ a, a < 11 → ∀ b, b < 11 → a ≠ b → (TX6 a).2.1 ≠ (TX6 b).2.1 := by decide +kernel
theorem tyX6_ok : ∀ k, k < 11 → parseFieldDescriptor (TX6 k).2.2.1 = some (tyX6 k) := by decide +kernel
abbrev cX6_init : ByteArray := prog_8_method_1_code
def yX6_init : MethodName := ⟨RX6, "<init>", "(LElbowQueue$Told;I)V"⟩
abbrev cX6_begin : ByteArray := prog_8_method_2_code
def yX6_begin : MethodName := ⟨RX6, "begin", "()V"⟩
abbrev cX6_become : ByteArray := prog_8_method_3_code
def yX6_become : MethodName := ⟨RX6, "become", "(LElbowQueue$Town;)V"⟩
abbrev cX6_believes : ByteArray := prog_8_method_4_code
def yX6_believes : MethodName := ⟨RX6, "believes", "(I)I"⟩
abbrev cX6_hears : ByteArray := prog_8_method_5_code
def yX6_hears : MethodName := ⟨RX6, "hears", "(II)V"⟩
abbrev cX6_whoIsAt : ByteArray := prog_8_method_6_code
def yX6_whoIsAt : MethodName := ⟨RX6, "whoIsAt", "(I)I"⟩
abbrev cX6_placeOf : ByteArray := prog_8_method_7_code
def yX6_placeOf : MethodName := ⟨RX6, "placeOf", "(I)I"⟩
abbrev cX6_howMany : ByteArray := prog_8_method_8_code
def yX6_howMany : MethodName := ⟨RX6, "howMany", "(I)I"⟩
abbrev cX6_hasPasserToCome : ByteArray := prog_8_method_9_code
def yX6_hasPasserToCome : MethodName := ⟨RX6, "hasPasserToCome", "()Z"⟩
abbrev cX6_isOver : ByteArray := prog_8_method_10_code
def yX6_isOver : MethodName := ⟨RX6, "isOver", "()Z"⟩
abbrev cX6_allBelieve : ByteArray := prog_8_method_11_code
def yX6_allBelieve : MethodName := ⟨RX6, "allBelieve", "(I)Z"⟩
abbrev cX6_hasJust : ByteArray := prog_8_method_12_code
def yX6_hasJust : MethodName := ⟨RX6, "hasJust", "([II)Z"⟩
abbrev cX6_minuteGoesBy : ByteArray := prog_8_method_13_code
def yX6_minuteGoesBy : MethodName := ⟨RX6, "minuteGoesBy", "(Z)V"⟩
abbrev cX6_tellOn : ByteArray := prog_8_method_14_code
def yX6_tellOn : MethodName := ⟨RX6, "tellOn", "()V"⟩
abbrev cX6_takesOn : ByteArray := prog_8_method_15_code
def yX6_takesOn : MethodName := ⟨RX6, "takesOn", "(I)Z"⟩
abbrev cX6_takeOut : ByteArray := prog_8_method_16_code
def yX6_takeOut : MethodName := ⟨RX6, "takeOut", "(II)V"⟩
abbrev cX6_standOn : ByteArray := prog_8_method_17_code
def yX6_standOn : MethodName := ⟨RX6, "standOn", "()V"⟩
abbrev cX6_bears : ByteArray := prog_8_method_18_code
def yX6_bears : MethodName := ⟨RX6, "bears", "(I)I"⟩
abbrev cX6_hoped : ByteArray := prog_8_method_19_code
def yX6_hoped : MethodName := ⟨RX6, "hoped", "(II)I"⟩
abbrev cX6_meetPasser : ByteArray := prog_8_method_20_code
def yX6_meetPasser : MethodName := ⟨RX6, "meetPasser", "(Z)V"⟩
abbrev cX6_isWaiting : ByteArray := prog_8_method_21_code
def yX6_isWaiting : MethodName := ⟨RX6, "isWaiting", "(I)Z"⟩
abbrev cX6_join : ByteArray := prog_8_method_22_code
def yX6_join : MethodName := ⟨RX6, "join", "(I)V"⟩
abbrev cX6_joinElbows : ByteArray := prog_8_method_23_code
def yX6_joinElbows : MethodName := ⟨RX6, "joinElbows", "(I)V"⟩
abbrev cX6_joinersToCome : ByteArray := prog_8_method_24_code
def yX6_joinersToCome : MethodName := ⟨RX6, "joinersToCome", "()I"⟩
def RX7 : String := "ElbowQueue"
def TX7 : u_T := fun k => match k with
  | 0 => ("ElbowQueue", "rows", "LElbowQueue$Rows;", true)
  | 1 => ("ElbowQueue", "reader", "LElbowQueue$Reader;", true)
  | 2 => ("ElbowQueue", "draft", "LElbowQueue$Told;", true)
  | 3 => ("ElbowQueue", "told", "LElbowQueue$Told;", true)
  | 4 => ("ElbowQueue", "town", "LElbowQueue$Town;", true)
  | 5 => ("ElbowQueue", "acts", "LElbowQueue$Acts;", true)
  | 6 => ("ElbowQueue", "foretold", "LElbowQueue$Foretold;", true)
  | 7 => ("ElbowQueue", "asks", "LElbowQueue$Asks;", true)
  | 8 => ("ElbowQueue", "imagesTold", "[LElbowQueue$Told;", true)
  | 9 => ("ElbowQueue", "imagesTown", "[LElbowQueue$Town;", true)
  | 10 => ("ElbowQueue", "imageKept", "[Z", true)
  | 11 => ("ElbowQueue", "hasTown", "Z", false)
  | 12 => ("ElbowQueue", "latestFault", "I", false)
  | _ => ("ElbowQueue", "latestFinding", "I", false)
def tyX7 : Nat → FieldType := fun k => match k with
  | 0 => .object "ElbowQueue$Rows"
  | 1 => .object "ElbowQueue$Reader"
  | 2 => .object "ElbowQueue$Told"
  | 3 => .object "ElbowQueue$Told"
  | 4 => .object "ElbowQueue$Town"
  | 5 => .object "ElbowQueue$Acts"
  | 6 => .object "ElbowQueue$Foretold"
  | 7 => .object "ElbowQueue$Asks"
  | 8 => .array (.object "ElbowQueue$Told")
  | 9 => .array (.object "ElbowQueue$Town")
  | 10 => .array .boolean
  | 11 => .boolean
  | 12 => .int
  | _ => .int
abbrev wsX70 : List Cond := u_ws RX7 TX7 14
theorem nmX7 : ∀ a, a < 14 → ∀ b, b < 14 → a ≠ b → (TX7 a).2.1 ≠ (TX7 b).2.1 := by decide +kernel
theorem tyX7_ok : ∀ k, k < 14 → parseFieldDescriptor (TX7 k).2.2.1 = some (tyX7 k) := by decide +kernel
abbrev cX7_init : ByteArray := prog_1_method_1_code
def yX7_init : MethodName := ⟨RX7, "<init>", "()V"⟩
abbrev cX7_row : ByteArray := prog_1_method_2_code
def yX7_row : MethodName := ⟨RX7, "row", "(III)I"⟩
abbrev cX7_set : ByteArray := prog_1_method_3_code
def yX7_set : MethodName := ⟨RX7, "set", "(III)I"⟩
abbrev cX7_copy : ByteArray := prog_1_method_4_code
def yX7_copy : MethodName := ⟨RX7, "copy", "(IIIII)I"⟩
abbrev cX7_drop : ByteArray := prog_1_method_5_code
def yX7_drop : MethodName := ⟨RX7, "drop", "(I)I"⟩
abbrev cX7_feed : ByteArray := prog_1_method_6_code
def yX7_feed : MethodName := ⟨RX7, "feed", "(I)I"⟩
abbrev cX7_town : ByteArray := prog_1_method_7_code
def yX7_town : MethodName := ⟨RX7, "town", "()I"⟩
abbrev cX7_fault : ByteArray := prog_1_method_8_code
def yX7_fault : MethodName := ⟨RX7, "fault", "()I"⟩
abbrev cX7_minutes : ByteArray := prog_1_method_9_code
def yX7_minutes : MethodName := ⟨RX7, "minutes", "(I)I"⟩
abbrev cX7_say : ByteArray := prog_1_method_10_code
def yX7_say : MethodName := ⟨RX7, "say", "(II)I"⟩
abbrev cX7_go : ByteArray := prog_1_method_11_code
def yX7_go : MethodName := ⟨RX7, "go", "(I)I"⟩
abbrev cX7_hatch : ByteArray := prog_1_method_12_code
def yX7_hatch : MethodName := ⟨RX7, "hatch", "(II)I"⟩
abbrev cX7_undo : ByteArray := prog_1_method_13_code
def yX7_undo : MethodName := ⟨RX7, "undo", "()I"⟩
abbrev cX7_person : ByteArray := prog_1_method_14_code
def yX7_person : MethodName := ⟨RX7, "person", "(II)I"⟩
abbrev cX7_place : ByteArray := prog_1_method_15_code
def yX7_place : MethodName := ⟨RX7, "place", "(I)I"⟩
abbrev cX7_ahead : ByteArray := prog_1_method_16_code
def yX7_ahead : MethodName := ⟨RX7, "ahead", "(II)I"⟩
abbrev cX7_order : ByteArray := prog_1_method_17_code
def yX7_order : MethodName := ⟨RX7, "order", "(II)I"⟩
abbrev cX7_lives : ByteArray := prog_1_method_18_code
def yX7_lives : MethodName := ⟨RX7, "lives", "()I"⟩
abbrev cX7_words : ByteArray := prog_1_method_19_code
def yX7_words : MethodName := ⟨RX7, "words", "(II)I"⟩
abbrev cX7_served : ByteArray := prog_1_method_20_code
def yX7_served : MethodName := ⟨RX7, "served", "(II)I"⟩
abbrev cX7_spread : ByteArray := prog_1_method_21_code
def yX7_spread : MethodName := ⟨RX7, "spread", "(I)I"⟩
abbrev cX7_elbows : ByteArray := prog_1_method_22_code
def yX7_elbows : MethodName := ⟨RX7, "elbows", "(I)I"⟩
abbrev cX7_grows : ByteArray := prog_1_method_23_code
def yX7_grows : MethodName := ⟨RX7, "grows", "(IIII)I"⟩
abbrev cX7_opens : ByteArray := prog_1_method_24_code
def yX7_opens : MethodName := ⟨RX7, "opens", "(II)I"⟩
abbrev cX7_seen : ByteArray := prog_1_method_25_code
def yX7_seen : MethodName := ⟨RX7, "seen", "(III)I"⟩
abbrev cX7_image : ByteArray := prog_1_method_26_code
def yX7_image : MethodName := ⟨RX7, "image", "(I)I"⟩
abbrev cX7_restore : ByteArray := prog_1_method_27_code
def yX7_restore : MethodName := ⟨RX7, "restore", "(I)I"⟩
abbrev cX7_kind : ByteArray := prog_1_method_28_code
def yX7_kind : MethodName := ⟨RX7, "kind", "(I)I"⟩
abbrev cX7_as : ByteArray := prog_1_method_29_code
def yX7_as : MethodName := ⟨RX7, "as", "(II)I"⟩
abbrev cX7_ask : ByteArray := prog_1_method_30_code
def yX7_ask : MethodName := ⟨RX7, "ask", "(II)I"⟩
abbrev cX7_trace : ByteArray := prog_1_method_31_code
def yX7_trace : MethodName := ⟨RX7, "trace", "(I)I"⟩
abbrev cX7_count : ByteArray := prog_1_method_32_code
def yX7_count : MethodName := ⟨RX7, "count", "(I)I"⟩
abbrev cX7_status : ByteArray := prog_1_method_33_code
def yX7_status : MethodName := ⟨RX7, "status", "()I"⟩
abbrev cX7_within : ByteArray := prog_1_method_34_code
def yX7_within : MethodName := ⟨RX7, "within", "(II)Z"⟩
abbrev cX7_isPerson : ByteArray := prog_1_method_35_code
def yX7_isPerson : MethodName := ⟨RX7, "isPerson", "(I)Z"⟩
abbrev cX7_found : ByteArray := prog_1_method_36_code
def yX7_found : MethodName := ⟨RX7, "found", "(I)I"⟩
abbrev cX7_fine : ByteArray := prog_1_method_37_code
def yX7_fine : MethodName := ⟨RX7, "fine", "(I)I"⟩
def RX8 : String := "ElbowQueueModel"
def TX8 : u_T := fun k => match k with
  | 0 => ("ElbowQueueModel", "now", "[I", true)
  | 1 => ("ElbowQueueModel", "kept", "[I", true)
  | 2 => ("ElbowQueueModel", "isKept", "[Z", true)
  | 3 => ("ElbowQueueModel", "acts", "[I", true)
  | 4 => ("ElbowQueueModel", "manyActs", "I", false)
  | 5 => ("ElbowQueueModel", "was", "[I", true)
  | 6 => ("ElbowQueueModel", "status", "I", false)
  | 7 => ("ElbowQueueModel", "lanes", "[I", true)
  | 8 => ("ElbowQueueModel", "longs", "[I", true)
  | 9 => ("ElbowQueueModel", "isThere", "[Z", true)
  | 10 => ("ElbowQueueModel", "items", "[I", true)
  | 11 => ("ElbowQueueModel", "copied", "[I", true)
  | 12 => ("ElbowQueueModel", "tape", "[I", true)
  | 13 => ("ElbowQueueModel", "tapeLong", "I", false)
  | 14 => ("ElbowQueueModel", "fault", "I", false)
  | 15 => ("ElbowQueueModel", "at", "I", false)
  | 16 => ("ElbowQueueModel", "value", "I", false)
  | 17 => ("ElbowQueueModel", "next", "[I", true)
  | 18 => ("ElbowQueueModel", "told", "[I", true)
  | 19 => ("ElbowQueueModel", "from", "[I", true)
  | 20 => ("ElbowQueueModel", "traces", "[I", true)
  | _ => ("ElbowQueueModel", "traced", "I", false)
def tyX8 : Nat → FieldType := fun k => match k with
  | 0 => .array .int
  | 1 => .array .int
  | 2 => .array .boolean
  | 3 => .array .int
  | 4 => .int
  | 5 => .array .int
  | 6 => .int
  | 7 => .array .int
  | 8 => .array .int
  | 9 => .array .boolean
  | 10 => .array .int
  | 11 => .array .int
  | 12 => .array .int
  | 13 => .int
  | 14 => .int
  | 15 => .int
  | 16 => .int
  | 17 => .array .int
  | 18 => .array .int
  | 19 => .array .int
  | 20 => .array .int
  | _ => .int
abbrev wsX80 : List Cond := u_ws RX8 TX8 22
theorem nmX8 : ∀ a, a < 22 → ∀ b, b < 22 → a ≠ b → (TX8 a).2.1 ≠ (TX8 b).2.1 := by decide +kernel
theorem tyX8_ok : ∀ k, k < 22 → parseFieldDescriptor (TX8 k).2.2.1 = some (tyX8 k) := by decide +kernel
abbrev cX8_init : ByteArray := prog_10_method_1_code
def yX8_init : MethodName := ⟨RX8, "<init>", "()V"⟩
abbrev cX8_in : ByteArray := prog_10_method_3_code
def yX8_in : MethodName := ⟨RX8, "in", "(JJJ)Z"⟩
abbrev cX8_found : ByteArray := prog_10_method_4_code
def yX8_found : MethodName := ⟨RX8, "found", "(I)I"⟩
abbrev cX8_well : ByteArray := prog_10_method_5_code
def yX8_well : MethodName := ⟨RX8, "well", "(I)I"⟩
abbrev cX8_isRow : ByteArray := prog_10_method_6_code
def yX8_isRow : MethodName := ⟨RX8, "isRow", "(I)Z"⟩
abbrev cX8_row : ByteArray := prog_10_method_7_code
def yX8_row : MethodName := ⟨RX8, "row", "(III)I"⟩
abbrev cX8_set : ByteArray := prog_10_method_8_code
def yX8_set : MethodName := ⟨RX8, "set", "(III)I"⟩
abbrev cX8_copy : ByteArray := prog_10_method_9_code
def yX8_copy : MethodName := ⟨RX8, "copy", "(IIIII)I"⟩
abbrev cX8_drop : ByteArray := prog_10_method_10_code
def yX8_drop : MethodName := ⟨RX8, "drop", "(I)I"⟩
abbrev cX8_feed : ByteArray := prog_10_method_11_code
def yX8_feed : MethodName := ⟨RX8, "feed", "(I)I"⟩
abbrev cX8_byteAt : ByteArray := prog_10_method_12_code
def yX8_byteAt : MethodName := ⟨RX8, "byteAt", "(I)I"⟩
abbrev cX8_isFigure : ByteArray := prog_10_method_13_code
def yX8_isFigure : MethodName := ⟨RX8, "isFigure", "(I)Z"⟩
abbrev cX8_sign : ByteArray := prog_10_method_14_code
def yX8_sign : MethodName := ⟨RX8, "sign", "(I)I"⟩
abbrev cX8_number : ByteArray := prog_10_method_15_code
def yX8_number : MethodName := ⟨RX8, "number", "(I)I"⟩
abbrev cX8_sortOf : ByteArray := prog_10_method_16_code
def yX8_sortOf : MethodName := ⟨RX8, "sortOf", "(I)I"⟩
abbrev cX8_readOne : ByteArray := prog_10_method_17_code
def yX8_readOne : MethodName := ⟨RX8, "readOne", "(I)I"⟩
abbrev cX8_readWaiter : ByteArray := prog_10_method_18_code
def yX8_readWaiter : MethodName := ⟨RX8, "readWaiter", "()I"⟩
abbrev cX8_readPasser : ByteArray := prog_10_method_19_code
def yX8_readPasser : MethodName := ⟨RX8, "readPasser", "()I"⟩
abbrev cX8_readTown : ByteArray := prog_10_method_20_code
def yX8_readTown : MethodName := ⟨RX8, "readTown", "()I"⟩
abbrev cX8_town : ByteArray := prog_10_method_21_code
def yX8_town : MethodName := ⟨RX8, "town", "()I"⟩
abbrev cX8_fault : ByteArray := prog_10_method_22_code
def yX8_fault : MethodName := ⟨RX8, "fault", "()I"⟩
abbrev cX8_people : ByteArray := prog_10_method_23_code
def yX8_people : MethodName := ⟨RX8, "people", "()I"⟩
abbrev cX8_isPerson : ByteArray := prog_10_method_24_code
def yX8_isPerson : MethodName := ⟨RX8, "isPerson", "(I)Z"⟩
abbrev cX8_isTown : ByteArray := prog_10_method_25_code
def yX8_isTown : MethodName := ⟨RX8, "isTown", "()Z"⟩
abbrev cX8_isFirstOne : ByteArray := prog_10_method_26_code
def yX8_isFirstOne : MethodName := ⟨RX8, "isFirstOne", "(I)Z"⟩
abbrev cX8_believes : ByteArray := prog_10_method_27_code
def yX8_believes : MethodName := ⟨RX8, "believes", "(I)I"⟩
abbrev cX8_takesOn : ByteArray := prog_10_method_28_code
def yX8_takesOn : MethodName := ⟨RX8, "takesOn", "(I)Z"⟩
abbrev cX8_tellOn : ByteArray := prog_10_method_29_code
def yX8_tellOn : MethodName := ⟨RX8, "tellOn", "()V"⟩
abbrev cX8_outOf : ByteArray := prog_10_method_30_code
def yX8_outOf : MethodName := ⟨RX8, "outOf", "(I)V"⟩
abbrev cX8_bears : ByteArray := prog_10_method_31_code
def yX8_bears : MethodName := ⟨RX8, "bears", "(I)I"⟩
abbrev cX8_leave : ByteArray := prog_10_method_32_code
def yX8_leave : MethodName := ⟨RX8, "leave", "()V"⟩
abbrev cX8_join : ByteArray := prog_10_method_33_code
def yX8_join : MethodName := ⟨RX8, "join", "(I)V"⟩
abbrev cX8_goMinute : ByteArray := prog_10_method_34_code
def yX8_goMinute : MethodName := ⟨RX8, "goMinute", "(Z)V"⟩
abbrev cX8_keepAct : ByteArray := prog_10_method_35_code
def yX8_keepAct : MethodName := ⟨RX8, "keepAct", "()V"⟩
abbrev cX8_minutes : ByteArray := prog_10_method_36_code
def yX8_minutes : MethodName := ⟨RX8, "minutes", "(I)I"⟩
abbrev cX8_isInQueue : ByteArray := prog_10_method_37_code
def yX8_isInQueue : MethodName := ⟨RX8, "isInQueue", "(I)Z"⟩
abbrev cX8_tellOne : ByteArray := prog_10_method_38_code
def yX8_tellOne : MethodName := ⟨RX8, "tellOne", "(II)V"⟩
abbrev cX8_say : ByteArray := prog_10_method_39_code
def yX8_say : MethodName := ⟨RX8, "say", "(II)I"⟩
abbrev cX8_placeOf : ByteArray := prog_10_method_40_code
def yX8_placeOf : MethodName := ⟨RX8, "placeOf", "(I)I"⟩
abbrev cX8_go : ByteArray := prog_10_method_41_code
def yX8_go : MethodName := ⟨RX8, "go", "(I)I"⟩
abbrev cX8_hatch : ByteArray := prog_10_method_42_code
def yX8_hatch : MethodName := ⟨RX8, "hatch", "(II)I"⟩
abbrev cX8_undo : ByteArray := prog_10_method_43_code
def yX8_undo : MethodName := ⟨RX8, "undo", "()I"⟩
abbrev cX8_person : ByteArray := prog_10_method_44_code
def yX8_person : MethodName := ⟨RX8, "person", "(II)I"⟩
abbrev cX8_place : ByteArray := prog_10_method_45_code
def yX8_place : MethodName := ⟨RX8, "place", "(I)I"⟩
abbrev cX8_start : ByteArray := prog_10_method_46_code
def yX8_start : MethodName := ⟨RX8, "start", "()V"⟩
abbrev cX8_back : ByteArray := prog_10_method_47_code
def yX8_back : MethodName := ⟨RX8, "back", "()V"⟩
abbrev cX8_goMinutes : ByteArray := prog_10_method_48_code
def yX8_goMinutes : MethodName := ⟨RX8, "goMinutes", "(I)V"⟩
abbrev cX8_howMany : ByteArray := prog_10_method_49_code
def yX8_howMany : MethodName := ⟨RX8, "howMany", "(I)I"⟩
abbrev cX8_ahead : ByteArray := prog_10_method_50_code
def yX8_ahead : MethodName := ⟨RX8, "ahead", "(II)I"⟩
abbrev cX8_order : ByteArray := prog_10_method_51_code
def yX8_order : MethodName := ⟨RX8, "order", "(II)I"⟩
abbrev cX8_goLives : ByteArray := prog_10_method_52_code
def yX8_goLives : MethodName := ⟨RX8, "goLives", "()I"⟩
abbrev cX8_lives : ByteArray := prog_10_method_53_code
def yX8_lives : MethodName := ⟨RX8, "lives", "()I"⟩
abbrev cX8_words : ByteArray := prog_10_method_54_code
def yX8_words : MethodName := ⟨RX8, "words", "(II)I"⟩
abbrev cX8_served : ByteArray := prog_10_method_55_code
def yX8_served : MethodName := ⟨RX8, "served", "(II)I"⟩
abbrev cX8_allBelieve : ByteArray := prog_10_method_56_code
def yX8_allBelieve : MethodName := ⟨RX8, "allBelieve", "(I)Z"⟩
abbrev cX8_spread : ByteArray := prog_10_method_57_code
def yX8_spread : MethodName := ⟨RX8, "spread", "(I)I"⟩
abbrev cX8_joinElbows : ByteArray := prog_10_method_58_code
def yX8_joinElbows : MethodName := ⟨RX8, "joinElbows", "(I)V"⟩
abbrev cX8_passersIn : ByteArray := prog_10_method_59_code
def yX8_passersIn : MethodName := ⟨RX8, "passersIn", "()I"⟩
abbrev cX8_elbows : ByteArray := prog_10_method_60_code
def yX8_elbows : MethodName := ⟨RX8, "elbows", "(I)I"⟩
abbrev cX8_common : ByteArray := prog_10_method_61_code
def yX8_common : MethodName := ⟨RX8, "common", "(II)I"⟩
abbrev cX8_power : ByteArray := prog_10_method_62_code
def yX8_power : MethodName := ⟨RX8, "power", "(II)I"⟩
abbrev cX8_bits : ByteArray := prog_10_method_63_code
def yX8_bits : MethodName := ⟨RX8, "bits", "(I)I"⟩
abbrev cX8_grows : ByteArray := prog_10_method_64_code
def yX8_grows : MethodName := ⟨RX8, "grows", "(IIII)I"⟩
abbrev cX8_opens : ByteArray := prog_10_method_65_code
def yX8_opens : MethodName := ⟨RX8, "opens", "(II)I"⟩
abbrev cX8_isSeen : ByteArray := prog_10_method_66_code
def yX8_isSeen : MethodName := ⟨RX8, "isSeen", "(III)Z"⟩
abbrev cX8_seen : ByteArray := prog_10_method_67_code
def yX8_seen : MethodName := ⟨RX8, "seen", "(III)I"⟩
abbrev cX8_image : ByteArray := prog_10_method_68_code
def yX8_image : MethodName := ⟨RX8, "image", "(I)I"⟩
abbrev cX8_restore : ByteArray := prog_10_method_69_code
def yX8_restore : MethodName := ⟨RX8, "restore", "(I)I"⟩
abbrev cX8_kind : ByteArray := prog_10_method_70_code
def yX8_kind : MethodName := ⟨RX8, "kind", "(I)I"⟩
abbrev cX8_above : ByteArray := prog_10_method_71_code
def yX8_above : MethodName := ⟨RX8, "above", "(I)I"⟩
abbrev cX8_as : ByteArray := prog_10_method_72_code
def yX8_as : MethodName := ⟨RX8, "as", "(II)I"⟩
abbrev cX8_note : ByteArray := prog_10_method_73_code
def yX8_note : MethodName := ⟨RX8, "note", "(I)V"⟩
abbrev cX8_plainSize : ByteArray := prog_10_method_74_code
def yX8_plainSize : MethodName := ⟨RX8, "plainSize", "(I)I"⟩
abbrev cX8_firstSize : ByteArray := prog_10_method_75_code
def yX8_firstSize : MethodName := ⟨RX8, "firstSize", "(I)I"⟩
abbrev cX8_sizeOfFirst : ByteArray := prog_10_method_76_code
def yX8_sizeOfFirst : MethodName := ⟨RX8, "sizeOfFirst", "(I)I"⟩
abbrev cX8_believerSize : ByteArray := prog_10_method_77_code
def yX8_believerSize : MethodName := ⟨RX8, "believerSize", "(I)I"⟩
abbrev cX8_size : ByteArray := prog_10_method_78_code
def yX8_size : MethodName := ⟨RX8, "size", "(I)I"⟩
abbrev cX8_plainMark : ByteArray := prog_10_method_79_code
def yX8_plainMark : MethodName := ⟨RX8, "plainMark", "(I)I"⟩
abbrev cX8_believerMark : ByteArray := prog_10_method_80_code
def yX8_believerMark : MethodName := ⟨RX8, "believerMark", "(I)I"⟩
abbrev cX8_mark : ByteArray := prog_10_method_81_code
def yX8_mark : MethodName := ⟨RX8, "mark", "(I)I"⟩
abbrev cX8_ask : ByteArray := prog_10_method_82_code
def yX8_ask : MethodName := ⟨RX8, "ask", "(II)I"⟩
abbrev cX8_trace : ByteArray := prog_10_method_83_code
def yX8_trace : MethodName := ⟨RX8, "trace", "(I)I"⟩
abbrev cX8_rows : ByteArray := prog_10_method_84_code
def yX8_rows : MethodName := ⟨RX8, "rows", "()I"⟩
abbrev cX8_count : ByteArray := prog_10_method_85_code
def yX8_count : MethodName := ⟨RX8, "count", "(I)I"⟩
abbrev cX8_status : ByteArray := prog_10_method_86_code
def yX8_status : MethodName := ⟨RX8, "status", "()I"⟩
def RJ9 : String := "java/lang/Math"
def TJ9 : u_T := fun k => match k with
  | _ => ("", "", "", false)
def tyJ9 : Nat → FieldType := fun k => match k with
  | _ => .int
abbrev wsJ90 : List Cond := u_ws RJ9 TJ9 0
theorem nmJ9 : ∀ a, a < 0 → ∀ b, b < 0 → a ≠ b → (TJ9 a).2.1 ≠ (TJ9 b).2.1 := by decide +kernel
theorem tyJ9_ok : ∀ k, k < 0 → parseFieldDescriptor (TJ9 k).2.2.1 = some (tyJ9 k) := by decide +kernel
abbrev cJ9_max_7cf53 : ByteArray := prog_11_method_65_code
def yJ9_max_7cf53 : MethodName := ⟨RJ9, "max", "(II)I"⟩
abbrev cJ9_min_7cf53 : ByteArray := prog_11_method_69_code
def yJ9_min_7cf53 : MethodName := ⟨RJ9, "min", "(II)I"⟩
def RJ10 : String := "java/lang/System"
def TJ10 : u_T := fun k => match k with
  | _ => ("", "", "", false)
def tyJ10 : Nat → FieldType := fun k => match k with
  | _ => .int
abbrev wsJ100 : List Cond := u_ws RJ10 TJ10 0
theorem nmJ10 : ∀ a, a < 0 → ∀ b, b < 0 → a ≠ b → (TJ10 a).2.1 ≠ (TJ10 b).2.1 := by decide +kernel
theorem tyJ10_ok : ∀ k, k < 0 → parseFieldDescriptor (TJ10 k).2.2.1 = some (tyJ10 k) := by decide +kernel
end
section
/-- the classes by number; 9: Math -/
def cN : Nat → String := fun k => match k with
  | 0 => RX0
  | 1 => RX1
  | 2 => RX2
  | 3 => RX3
  | 4 => RX4
  | 5 => RX5
  | 6 => RX6
  | 7 => RX7
  | 8 => RX8
  | _ => "java/lang/Math"
def mT : List (Nat × MethodName × ByteArray × Nat × Option FieldType × Nat × Bool) := [
  (0, ⟨"ElbowQueue$Acts", "<init>", "(LElbowQueue$Told;)V"⟩, prog_2_method_1_code, 3, (none : Option FieldType), 1, false),
  (0, ⟨"ElbowQueue$Acts", "kept", "()I"⟩, prog_2_method_2_code, 1, some (FieldType.int), 0, false),
  (0, ⟨"ElbowQueue$Acts", "forget", "()V"⟩, prog_2_method_3_code, 1, (none : Option FieldType), 0, false),
  (0, ⟨"ElbowQueue$Acts", "keep", "(LElbowQueue$Town;)V"⟩, prog_2_method_4_code, 2, (none : Option FieldType), 1, false),
  (0, ⟨"ElbowQueue$Acts", "giveBack", "(LElbowQueue$Town;)V"⟩, prog_2_method_5_code, 2, (none : Option FieldType), 1, false),
  (1, ⟨"ElbowQueue$Asks", "<init>", "(LElbowQueue$Told;LElbowQueue$Town;)V"⟩, prog_3_method_1_code, 3, (none : Option FieldType), 2, false),
  (1, ⟨"ElbowQueue$Asks", "isA", "(II)Z"⟩, prog_3_method_2_code, 4, some (FieldType.boolean), 2, true),
  (1, ⟨"ElbowQueue$Asks", "traced", "(I)I"⟩, prog_3_method_3_code, 2, some (FieldType.int), 1, false),
  (1, ⟨"ElbowQueue$Asks", "begin", "(II)I"⟩, prog_3_method_4_code, 3, some (FieldType.int), 2, false),
  (1, ⟨"ElbowQueue$Asks", "asked", "(III)I"⟩, prog_3_method_5_code, 6, some (FieldType.int), 3, false),
  (1, ⟨"ElbowQueue$Asks", "bodyOf", "(II)I"⟩, prog_3_method_6_code, 3, some (FieldType.int), 2, true),
  (1, ⟨"ElbowQueue$Asks", "given", "(III)I"⟩, prog_3_method_7_code, 4, some (FieldType.int), 3, false),
  (1, ⟨"ElbowQueue$Asks", "leave", "(I)V"⟩, prog_3_method_8_code, 2, (none : Option FieldType), 1, false),
  (2, ⟨"ElbowQueue$Foretold", "<init>", "(LElbowQueue$Told;LElbowQueue$Town;)V"⟩, prog_4_method_1_code, 4, (none : Option FieldType), 2, false),
  (2, ⟨"ElbowQueue$Foretold", "letGoBy", "(LElbowQueue$Town;I)V"⟩, prog_4_method_2_code, 3, (none : Option FieldType), 2, true),
  (2, ⟨"ElbowQueue$Foretold", "behind", "(I)LElbowQueue$Town;"⟩, prog_4_method_3_code, 2, some (FieldType.object "ElbowQueue$Town"), 1, false),
  (2, ⟨"ElbowQueue$Foretold", "firstMinute", "(IIII)I"⟩, prog_4_method_4_code, 6, some (FieldType.int), 4, false),
  (2, ⟨"ElbowQueue$Foretold", "shows", "(III)Z"⟩, prog_4_method_5_code, 4, some (FieldType.boolean), 3, false),
  (2, ⟨"ElbowQueue$Foretold", "life", "()I"⟩, prog_4_method_6_code, 1, some (FieldType.int), 0, false),
  (2, ⟨"ElbowQueue$Foretold", "whenIs", "(II)I"⟩, prog_4_method_7_code, 3, some (FieldType.int), 2, false),
  (2, ⟨"ElbowQueue$Foretold", "whenAllBelieve", "(I)I"⟩, prog_4_method_8_code, 2, some (FieldType.int), 1, false),
  (2, ⟨"ElbowQueue$Foretold", "whenAreJust", "(I)I"⟩, prog_4_method_9_code, 2, some (FieldType.int), 1, false),
  (2, ⟨"ElbowQueue$Foretold", "bestWord", "(IZ)I"⟩, prog_4_method_10_code, 7, some (FieldType.int), 2, false),
  (2, ⟨"ElbowQueue$Foretold", "fewestElbows", "(I)I"⟩, prog_4_method_11_code, 3, some (FieldType.int), 1, false),
  (2, ⟨"ElbowQueue$Foretold", "odds", "(IIIZ)I"⟩, prog_4_method_12_code, 11, some (FieldType.int), 4, false),
  (2, ⟨"ElbowQueue$Foretold", "fitting", "(IIII)J"⟩, prog_4_method_13_code, 9, some (FieldType.long), 4, false),
  (2, ⟨"ElbowQueue$Foretold", "goOn", "(IZ)V"⟩, prog_4_method_14_code, 4, (none : Option FieldType), 2, false),
  (2, ⟨"ElbowQueue$Foretold", "greatestDivisor", "(JJ)J"⟩, prog_4_method_15_code, 11, some (FieldType.long), 2, true),
  (2, ⟨"ElbowQueue$Foretold", "bestOpening", "(IZ)I"⟩, prog_4_method_16_code, 8, some (FieldType.int), 2, false),
  (3, ⟨"ElbowQueue$Reader", "<init>", "()V"⟩, prog_5_method_1_code, 1, (none : Option FieldType), 0, false),
  (3, ⟨"ElbowQueue$Reader", "isFull", "()Z"⟩, prog_5_method_2_code, 1, some (FieldType.boolean), 0, false),
  (3, ⟨"ElbowQueue$Reader", "take", "(I)I"⟩, prog_5_method_3_code, 2, some (FieldType.int), 1, false),
  (3, ⟨"ElbowQueue$Reader", "length", "()I"⟩, prog_5_method_4_code, 1, some (FieldType.int), 0, false),
  (3, ⟨"ElbowQueue$Reader", "at", "()I"⟩, prog_5_method_5_code, 1, some (FieldType.int), 0, false),
  (3, ⟨"ElbowQueue$Reader", "read", "(LElbowQueue$Told;)I"⟩, prog_5_method_6_code, 2, some (FieldType.int), 1, false),
  (3, ⟨"ElbowQueue$Reader", "readHead", "(LElbowQueue$Told;)V"⟩, prog_5_method_7_code, 2, (none : Option FieldType), 1, false),
  (3, ⟨"ElbowQueue$Reader", "readWaiters", "(LElbowQueue$Told;)V"⟩, prog_5_method_8_code, 6, (none : Option FieldType), 1, false),
  (3, ⟨"ElbowQueue$Reader", "readPassers", "(LElbowQueue$Told;)V"⟩, prog_5_method_9_code, 7, (none : Option FieldType), 1, false),
  (3, ⟨"ElbowQueue$Reader", "byteAt", "(I)I"⟩, prog_5_method_10_code, 2, some (FieldType.int), 1, false),
  (3, ⟨"ElbowQueue$Reader", "sign", "(I)V"⟩, prog_5_method_11_code, 2, (none : Option FieldType), 1, false),
  (3, ⟨"ElbowQueue$Reader", "sort", "()I"⟩, prog_5_method_12_code, 2, some (FieldType.int), 0, false),
  (3, ⟨"ElbowQueue$Reader", "number", "(I)I"⟩, prog_5_method_13_code, 4, some (FieldType.int), 1, false),
  (3, ⟨"ElbowQueue$Reader", "isFigure", "(I)Z"⟩, prog_5_method_14_code, 1, some (FieldType.boolean), 1, true),
  (3, ⟨"ElbowQueue$Reader", "kindOf", "(I)I"⟩, prog_5_method_15_code, 1, some (FieldType.int), 1, true),
  (4, ⟨"ElbowQueue$Rows", "<init>", "()V"⟩, prog_6_method_1_code, 2, (none : Option FieldType), 0, false),
  (4, ⟨"ElbowQueue$Rows", "isNumber", "(I)Z"⟩, prog_6_method_2_code, 1, some (FieldType.boolean), 1, true),
  (4, ⟨"ElbowQueue$Rows", "isLane", "(I)Z"⟩, prog_6_method_3_code, 1, some (FieldType.boolean), 1, true),
  (4, ⟨"ElbowQueue$Rows", "isMissing", "(I)Z"⟩, prog_6_method_4_code, 2, some (FieldType.boolean), 1, false),
  (4, ⟨"ElbowQueue$Rows", "laneOf", "(I)I"⟩, prog_6_method_5_code, 2, some (FieldType.int), 1, false),
  (4, ⟨"ElbowQueue$Rows", "item", "(II)I"⟩, prog_6_method_6_code, 3, some (FieldType.int), 2, false),
  (4, ⟨"ElbowQueue$Rows", "spans", "(III)Z"⟩, prog_6_method_7_code, 4, some (FieldType.boolean), 3, false),
  (4, ⟨"ElbowQueue$Rows", "lay", "(III)V"⟩, prog_6_method_8_code, 5, (none : Option FieldType), 3, false),
  (4, ⟨"ElbowQueue$Rows", "put", "(III)I"⟩, prog_6_method_9_code, 5, some (FieldType.int), 3, false),
  (4, ⟨"ElbowQueue$Rows", "bring", "(IIIII)V"⟩, prog_6_method_10_code, 6, (none : Option FieldType), 5, false),
  (4, ⟨"ElbowQueue$Rows", "takeAway", "(I)I"⟩, prog_6_method_11_code, 3, some (FieldType.int), 1, false),
  (4, ⟨"ElbowQueue$Rows", "present", "()I"⟩, prog_6_method_12_code, 3, some (FieldType.int), 0, false),
  (5, ⟨"ElbowQueue$Told", "<init>", "()V"⟩, prog_7_method_1_code, 2, (none : Option FieldType), 0, false),
  (5, ⟨"ElbowQueue$Told", "clear", "()V"⟩, prog_7_method_2_code, 1, (none : Option FieldType), 0, false),
  (5, ⟨"ElbowQueue$Told", "add", "(IIII)V"⟩, prog_7_method_3_code, 5, (none : Option FieldType), 4, false),
  (5, ⟨"ElbowQueue$Told", "become", "(LElbowQueue$Told;)V"⟩, prog_7_method_4_code, 2, (none : Option FieldType), 1, false),
  (6, ⟨"ElbowQueue$Town", "<init>", "(LElbowQueue$Told;I)V"⟩, prog_8_method_1_code, 3, (none : Option FieldType), 2, false),
  (6, ⟨"ElbowQueue$Town", "begin", "()V"⟩, prog_8_method_2_code, 2, (none : Option FieldType), 0, false),
  (6, ⟨"ElbowQueue$Town", "become", "(LElbowQueue$Town;)V"⟩, prog_8_method_3_code, 3, (none : Option FieldType), 1, false),
  (6, ⟨"ElbowQueue$Town", "believes", "(I)I"⟩, prog_8_method_4_code, 2, some (FieldType.int), 1, false),
  (6, ⟨"ElbowQueue$Town", "hears", "(II)V"⟩, prog_8_method_5_code, 3, (none : Option FieldType), 2, false),
  (6, ⟨"ElbowQueue$Town", "whoIsAt", "(I)I"⟩, prog_8_method_6_code, 2, some (FieldType.int), 1, false),
  (6, ⟨"ElbowQueue$Town", "placeOf", "(I)I"⟩, prog_8_method_7_code, 3, some (FieldType.int), 1, false),
  (6, ⟨"ElbowQueue$Town", "howMany", "(I)I"⟩, prog_8_method_8_code, 4, some (FieldType.int), 1, false),
  (6, ⟨"ElbowQueue$Town", "hasPasserToCome", "()Z"⟩, prog_8_method_9_code, 1, some (FieldType.boolean), 0, false),
  (6, ⟨"ElbowQueue$Town", "isOver", "()Z"⟩, prog_8_method_10_code, 1, some (FieldType.boolean), 0, false),
  (6, ⟨"ElbowQueue$Town", "allBelieve", "(I)Z"⟩, prog_8_method_11_code, 3, some (FieldType.boolean), 1, false),
  (6, ⟨"ElbowQueue$Town", "hasJust", "([II)Z"⟩, prog_8_method_12_code, 4, some (FieldType.boolean), 2, false),
  (6, ⟨"ElbowQueue$Town", "minuteGoesBy", "(Z)V"⟩, prog_8_method_13_code, 2, (none : Option FieldType), 1, false),
  (6, ⟨"ElbowQueue$Town", "tellOn", "()V"⟩, prog_8_method_14_code, 4, (none : Option FieldType), 0, false),
  (6, ⟨"ElbowQueue$Town", "takesOn", "(I)Z"⟩, prog_8_method_15_code, 3, some (FieldType.boolean), 1, false),
  (6, ⟨"ElbowQueue$Town", "takeOut", "(II)V"⟩, prog_8_method_16_code, 4, (none : Option FieldType), 2, false),
  (6, ⟨"ElbowQueue$Town", "standOn", "()V"⟩, prog_8_method_17_code, 6, (none : Option FieldType), 0, false),
  (6, ⟨"ElbowQueue$Town", "bears", "(I)I"⟩, prog_8_method_18_code, 3, some (FieldType.int), 1, false),
  (6, ⟨"ElbowQueue$Town", "hoped", "(II)I"⟩, prog_8_method_19_code, 3, some (FieldType.int), 2, false),
  (6, ⟨"ElbowQueue$Town", "meetPasser", "(Z)V"⟩, prog_8_method_20_code, 3, (none : Option FieldType), 1, false),
  (6, ⟨"ElbowQueue$Town", "isWaiting", "(I)Z"⟩, prog_8_method_21_code, 2, some (FieldType.boolean), 1, false),
  (6, ⟨"ElbowQueue$Town", "join", "(I)V"⟩, prog_8_method_22_code, 2, (none : Option FieldType), 1, false),
  (6, ⟨"ElbowQueue$Town", "joinElbows", "(I)V"⟩, prog_8_method_23_code, 3, (none : Option FieldType), 1, false),
  (6, ⟨"ElbowQueue$Town", "joinersToCome", "()I"⟩, prog_8_method_24_code, 4, some (FieldType.int), 0, false),
  (7, ⟨"ElbowQueue", "<init>", "()V"⟩, prog_1_method_1_code, 2, (none : Option FieldType), 0, false),
  (7, ⟨"ElbowQueue", "row", "(III)I"⟩, prog_1_method_2_code, 4, some (FieldType.int), 3, false),
  (7, ⟨"ElbowQueue", "set", "(III)I"⟩, prog_1_method_3_code, 4, some (FieldType.int), 3, false),
  (7, ⟨"ElbowQueue", "copy", "(IIIII)I"⟩, prog_1_method_4_code, 6, some (FieldType.int), 5, false),
  (7, ⟨"ElbowQueue", "drop", "(I)I"⟩, prog_1_method_5_code, 2, some (FieldType.int), 1, false),
  (7, ⟨"ElbowQueue", "feed", "(I)I"⟩, prog_1_method_6_code, 2, some (FieldType.int), 1, false),
  (7, ⟨"ElbowQueue", "town", "()I"⟩, prog_1_method_7_code, 2, some (FieldType.int), 0, false),
  (7, ⟨"ElbowQueue", "fault", "()I"⟩, prog_1_method_8_code, 1, some (FieldType.int), 0, false),
  (7, ⟨"ElbowQueue", "minutes", "(I)I"⟩, prog_1_method_9_code, 3, some (FieldType.int), 1, false),
  (7, ⟨"ElbowQueue", "say", "(II)I"⟩, prog_1_method_10_code, 4, some (FieldType.int), 2, false),
  (7, ⟨"ElbowQueue", "go", "(I)I"⟩, prog_1_method_11_code, 3, some (FieldType.int), 1, false),
  (7, ⟨"ElbowQueue", "hatch", "(II)I"⟩, prog_1_method_12_code, 4, some (FieldType.int), 2, false),
  (7, ⟨"ElbowQueue", "undo", "()I"⟩, prog_1_method_13_code, 1, some (FieldType.int), 0, false),
  (7, ⟨"ElbowQueue", "person", "(II)I"⟩, prog_1_method_14_code, 3, some (FieldType.int), 2, false),
  (7, ⟨"ElbowQueue", "place", "(I)I"⟩, prog_1_method_15_code, 2, some (FieldType.int), 1, false),
  (7, ⟨"ElbowQueue", "ahead", "(II)I"⟩, prog_1_method_16_code, 3, some (FieldType.int), 2, false),
  (7, ⟨"ElbowQueue", "order", "(II)I"⟩, prog_1_method_17_code, 3, some (FieldType.int), 2, false),
  (7, ⟨"ElbowQueue", "lives", "()I"⟩, prog_1_method_18_code, 1, some (FieldType.int), 0, false),
  (7, ⟨"ElbowQueue", "words", "(II)I"⟩, prog_1_method_19_code, 4, some (FieldType.int), 2, false),
  (7, ⟨"ElbowQueue", "served", "(II)I"⟩, prog_1_method_20_code, 3, some (FieldType.int), 2, false),
  (7, ⟨"ElbowQueue", "spread", "(I)I"⟩, prog_1_method_21_code, 2, some (FieldType.int), 1, false),
  (7, ⟨"ElbowQueue", "elbows", "(I)I"⟩, prog_1_method_22_code, 2, some (FieldType.int), 1, false),
  (7, ⟨"ElbowQueue", "grows", "(IIII)I"⟩, prog_1_method_23_code, 5, some (FieldType.int), 4, false),
  (7, ⟨"ElbowQueue", "opens", "(II)I"⟩, prog_1_method_24_code, 3, some (FieldType.int), 2, false),
  (7, ⟨"ElbowQueue", "seen", "(III)I"⟩, prog_1_method_25_code, 6, some (FieldType.int), 3, false),
  (7, ⟨"ElbowQueue", "image", "(I)I"⟩, prog_1_method_26_code, 2, some (FieldType.int), 1, false),
  (7, ⟨"ElbowQueue", "restore", "(I)I"⟩, prog_1_method_27_code, 2, some (FieldType.int), 1, false),
  (7, ⟨"ElbowQueue", "kind", "(I)I"⟩, prog_1_method_28_code, 2, some (FieldType.int), 1, false),
  (7, ⟨"ElbowQueue", "as", "(II)I"⟩, prog_1_method_29_code, 3, some (FieldType.int), 2, false),
  (7, ⟨"ElbowQueue", "ask", "(II)I"⟩, prog_1_method_30_code, 3, some (FieldType.int), 2, false),
  (7, ⟨"ElbowQueue", "trace", "(I)I"⟩, prog_1_method_31_code, 2, some (FieldType.int), 1, false),
  (7, ⟨"ElbowQueue", "count", "(I)I"⟩, prog_1_method_32_code, 2, some (FieldType.int), 1, false),
  (7, ⟨"ElbowQueue", "status", "()I"⟩, prog_1_method_33_code, 1, some (FieldType.int), 0, false),
  (7, ⟨"ElbowQueue", "within", "(II)Z"⟩, prog_1_method_34_code, 2, some (FieldType.boolean), 2, true),
  (7, ⟨"ElbowQueue", "isPerson", "(I)Z"⟩, prog_1_method_35_code, 2, some (FieldType.boolean), 1, false),
  (7, ⟨"ElbowQueue", "found", "(I)I"⟩, prog_1_method_36_code, 2, some (FieldType.int), 1, false),
  (7, ⟨"ElbowQueue", "fine", "(I)I"⟩, prog_1_method_37_code, 2, some (FieldType.int), 1, false),
  (8, ⟨"ElbowQueueModel", "<init>", "()V"⟩, prog_10_method_1_code, 1, (none : Option FieldType), 0, false),
  (8, ⟨"ElbowQueueModel", "in", "(JJJ)Z"⟩, prog_10_method_3_code, 6, some (FieldType.boolean), 3, true),
  (8, ⟨"ElbowQueueModel", "found", "(I)I"⟩, prog_10_method_4_code, 2, some (FieldType.int), 1, false),
  (8, ⟨"ElbowQueueModel", "well", "(I)I"⟩, prog_10_method_5_code, 2, some (FieldType.int), 1, false),
  (8, ⟨"ElbowQueueModel", "isRow", "(I)Z"⟩, prog_10_method_6_code, 1, some (FieldType.boolean), 1, true),
  (8, ⟨"ElbowQueueModel", "row", "(III)I"⟩, prog_10_method_7_code, 5, some (FieldType.int), 3, false),
  (8, ⟨"ElbowQueueModel", "set", "(III)I"⟩, prog_10_method_8_code, 5, some (FieldType.int), 3, false),
  (8, ⟨"ElbowQueueModel", "copy", "(IIIII)I"⟩, prog_10_method_9_code, 7, some (FieldType.int), 5, false),
  (8, ⟨"ElbowQueueModel", "drop", "(I)I"⟩, prog_10_method_10_code, 2, some (FieldType.int), 1, false),
  (8, ⟨"ElbowQueueModel", "feed", "(I)I"⟩, prog_10_method_11_code, 2, some (FieldType.int), 1, false),
  (8, ⟨"ElbowQueueModel", "byteAt", "(I)I"⟩, prog_10_method_12_code, 2, some (FieldType.int), 1, false),
  (8, ⟨"ElbowQueueModel", "isFigure", "(I)Z"⟩, prog_10_method_13_code, 1, some (FieldType.boolean), 1, true),
  (8, ⟨"ElbowQueueModel", "sign", "(I)I"⟩, prog_10_method_14_code, 3, some (FieldType.int), 1, false),
  (8, ⟨"ElbowQueueModel", "number", "(I)I"⟩, prog_10_method_15_code, 4, some (FieldType.int), 1, false),
  (8, ⟨"ElbowQueueModel", "sortOf", "(I)I"⟩, prog_10_method_16_code, 1, some (FieldType.int), 1, true),
  (8, ⟨"ElbowQueueModel", "readOne", "(I)I"⟩, prog_10_method_17_code, 3, some (FieldType.int), 1, false),
  (8, ⟨"ElbowQueueModel", "readWaiter", "()I"⟩, prog_10_method_18_code, 3, some (FieldType.int), 0, false),
  (8, ⟨"ElbowQueueModel", "readPasser", "()I"⟩, prog_10_method_19_code, 3, some (FieldType.int), 0, false),
  (8, ⟨"ElbowQueueModel", "readTown", "()I"⟩, prog_10_method_20_code, 3, some (FieldType.int), 0, false),
  (8, ⟨"ElbowQueueModel", "town", "()I"⟩, prog_10_method_21_code, 3, some (FieldType.int), 0, false),
  (8, ⟨"ElbowQueueModel", "fault", "()I"⟩, prog_10_method_22_code, 1, some (FieldType.int), 0, false),
  (8, ⟨"ElbowQueueModel", "people", "()I"⟩, prog_10_method_23_code, 1, some (FieldType.int), 0, false),
  (8, ⟨"ElbowQueueModel", "isPerson", "(I)Z"⟩, prog_10_method_24_code, 2, some (FieldType.boolean), 1, false),
  (8, ⟨"ElbowQueueModel", "isTown", "()Z"⟩, prog_10_method_25_code, 1, some (FieldType.boolean), 0, false),
  (8, ⟨"ElbowQueueModel", "isFirstOne", "(I)Z"⟩, prog_10_method_26_code, 2, some (FieldType.boolean), 1, false),
  (8, ⟨"ElbowQueueModel", "believes", "(I)I"⟩, prog_10_method_27_code, 2, some (FieldType.int), 1, false),
  (8, ⟨"ElbowQueueModel", "takesOn", "(I)Z"⟩, prog_10_method_28_code, 3, some (FieldType.boolean), 1, false),
  (8, ⟨"ElbowQueueModel", "tellOn", "()V"⟩, prog_10_method_29_code, 3, (none : Option FieldType), 0, false),
  (8, ⟨"ElbowQueueModel", "outOf", "(I)V"⟩, prog_10_method_30_code, 3, (none : Option FieldType), 1, false),
  (8, ⟨"ElbowQueueModel", "bears", "(I)I"⟩, prog_10_method_31_code, 5, some (FieldType.int), 1, false),
  (8, ⟨"ElbowQueueModel", "leave", "()V"⟩, prog_10_method_32_code, 5, (none : Option FieldType), 0, false),
  (8, ⟨"ElbowQueueModel", "join", "(I)V"⟩, prog_10_method_33_code, 2, (none : Option FieldType), 1, false),
  (8, ⟨"ElbowQueueModel", "goMinute", "(Z)V"⟩, prog_10_method_34_code, 3, (none : Option FieldType), 1, false),
  (8, ⟨"ElbowQueueModel", "keepAct", "()V"⟩, prog_10_method_35_code, 2, (none : Option FieldType), 0, false),
  (8, ⟨"ElbowQueueModel", "minutes", "(I)I"⟩, prog_10_method_36_code, 3, some (FieldType.int), 1, false),
  (8, ⟨"ElbowQueueModel", "isInQueue", "(I)Z"⟩, prog_10_method_37_code, 2, some (FieldType.boolean), 1, false),
  (8, ⟨"ElbowQueueModel", "tellOne", "(II)V"⟩, prog_10_method_38_code, 3, (none : Option FieldType), 2, false),
  (8, ⟨"ElbowQueueModel", "say", "(II)I"⟩, prog_10_method_39_code, 4, some (FieldType.int), 2, false),
  (8, ⟨"ElbowQueueModel", "placeOf", "(I)I"⟩, prog_10_method_40_code, 4, some (FieldType.int), 1, false),
  (8, ⟨"ElbowQueueModel", "go", "(I)I"⟩, prog_10_method_41_code, 2, some (FieldType.int), 1, false),
  (8, ⟨"ElbowQueueModel", "hatch", "(II)I"⟩, prog_10_method_42_code, 4, some (FieldType.int), 2, false),
  (8, ⟨"ElbowQueueModel", "undo", "()I"⟩, prog_10_method_43_code, 2, some (FieldType.int), 0, false),
  (8, ⟨"ElbowQueueModel", "person", "(II)I"⟩, prog_10_method_44_code, 3, some (FieldType.int), 2, false),
  (8, ⟨"ElbowQueueModel", "place", "(I)I"⟩, prog_10_method_45_code, 2, some (FieldType.int), 1, false),
  (8, ⟨"ElbowQueueModel", "start", "()V"⟩, prog_10_method_46_code, 2, (none : Option FieldType), 0, false),
  (8, ⟨"ElbowQueueModel", "back", "()V"⟩, prog_10_method_47_code, 2, (none : Option FieldType), 0, false),
  (8, ⟨"ElbowQueueModel", "goMinutes", "(I)V"⟩, prog_10_method_48_code, 3, (none : Option FieldType), 1, false),
  (8, ⟨"ElbowQueueModel", "howMany", "(I)I"⟩, prog_10_method_49_code, 4, some (FieldType.int), 1, false),
  (8, ⟨"ElbowQueueModel", "ahead", "(II)I"⟩, prog_10_method_50_code, 4, some (FieldType.int), 2, false),
  (8, ⟨"ElbowQueueModel", "order", "(II)I"⟩, prog_10_method_51_code, 4, some (FieldType.int), 2, false),
  (8, ⟨"ElbowQueueModel", "goLives", "()I"⟩, prog_10_method_52_code, 2, some (FieldType.int), 0, false),
  (8, ⟨"ElbowQueueModel", "lives", "()I"⟩, prog_10_method_53_code, 2, some (FieldType.int), 0, false),
  (8, ⟨"ElbowQueueModel", "words", "(II)I"⟩, prog_10_method_54_code, 8, some (FieldType.int), 2, false),
  (8, ⟨"ElbowQueueModel", "served", "(II)I"⟩, prog_10_method_55_code, 6, some (FieldType.int), 2, false),
  (8, ⟨"ElbowQueueModel", "allBelieve", "(I)Z"⟩, prog_10_method_56_code, 4, some (FieldType.boolean), 1, false),
  (8, ⟨"ElbowQueueModel", "spread", "(I)I"⟩, prog_10_method_57_code, 4, some (FieldType.int), 1, false),
  (8, ⟨"ElbowQueueModel", "joinElbows", "(I)V"⟩, prog_10_method_58_code, 4, (none : Option FieldType), 1, false),
  (8, ⟨"ElbowQueueModel", "passersIn", "()I"⟩, prog_10_method_59_code, 3, some (FieldType.int), 0, false),
  (8, ⟨"ElbowQueueModel", "elbows", "(I)I"⟩, prog_10_method_60_code, 4, some (FieldType.int), 1, false),
  (8, ⟨"ElbowQueueModel", "common", "(II)I"⟩, prog_10_method_61_code, 5, some (FieldType.int), 2, true),
  (8, ⟨"ElbowQueueModel", "power", "(II)I"⟩, prog_10_method_62_code, 4, some (FieldType.int), 2, true),
  (8, ⟨"ElbowQueueModel", "bits", "(I)I"⟩, prog_10_method_63_code, 3, some (FieldType.int), 1, true),
  (8, ⟨"ElbowQueueModel", "grows", "(IIII)I"⟩, prog_10_method_64_code, 10, some (FieldType.int), 4, false),
  (8, ⟨"ElbowQueueModel", "opens", "(II)I"⟩, prog_10_method_65_code, 8, some (FieldType.int), 2, false),
  (8, ⟨"ElbowQueueModel", "isSeen", "(III)Z"⟩, prog_10_method_66_code, 6, some (FieldType.boolean), 3, false),
  (8, ⟨"ElbowQueueModel", "seen", "(III)I"⟩, prog_10_method_67_code, 7, some (FieldType.int), 3, false),
  (8, ⟨"ElbowQueueModel", "image", "(I)I"⟩, prog_10_method_68_code, 3, some (FieldType.int), 1, false),
  (8, ⟨"ElbowQueueModel", "restore", "(I)I"⟩, prog_10_method_69_code, 3, some (FieldType.int), 1, false),
  (8, ⟨"ElbowQueueModel", "kind", "(I)I"⟩, prog_10_method_70_code, 2, some (FieldType.int), 1, false),
  (8, ⟨"ElbowQueueModel", "above", "(I)I"⟩, prog_10_method_71_code, 1, some (FieldType.int), 1, true),
  (8, ⟨"ElbowQueueModel", "as", "(II)I"⟩, prog_10_method_72_code, 4, some (FieldType.int), 2, false),
  (8, ⟨"ElbowQueueModel", "note", "(I)V"⟩, prog_10_method_73_code, 2, (none : Option FieldType), 1, false),
  (8, ⟨"ElbowQueueModel", "plainSize", "(I)I"⟩, prog_10_method_74_code, 2, some (FieldType.int), 1, false),
  (8, ⟨"ElbowQueueModel", "firstSize", "(I)I"⟩, prog_10_method_75_code, 2, some (FieldType.int), 1, false),
  (8, ⟨"ElbowQueueModel", "sizeOfFirst", "(I)I"⟩, prog_10_method_76_code, 2, some (FieldType.int), 1, false),
  (8, ⟨"ElbowQueueModel", "believerSize", "(I)I"⟩, prog_10_method_77_code, 3, some (FieldType.int), 1, false),
  (8, ⟨"ElbowQueueModel", "size", "(I)I"⟩, prog_10_method_78_code, 2, some (FieldType.int), 1, false),
  (8, ⟨"ElbowQueueModel", "plainMark", "(I)I"⟩, prog_10_method_79_code, 2, some (FieldType.int), 1, false),
  (8, ⟨"ElbowQueueModel", "believerMark", "(I)I"⟩, prog_10_method_80_code, 2, some (FieldType.int), 1, false),
  (8, ⟨"ElbowQueueModel", "mark", "(I)I"⟩, prog_10_method_81_code, 3, some (FieldType.int), 1, false),
  (8, ⟨"ElbowQueueModel", "ask", "(II)I"⟩, prog_10_method_82_code, 3, some (FieldType.int), 2, false),
  (8, ⟨"ElbowQueueModel", "trace", "(I)I"⟩, prog_10_method_83_code, 2, some (FieldType.int), 1, false),
  (8, ⟨"ElbowQueueModel", "rows", "()I"⟩, prog_10_method_84_code, 3, some (FieldType.int), 0, false),
  (8, ⟨"ElbowQueueModel", "count", "(I)I"⟩, prog_10_method_85_code, 2, some (FieldType.int), 1, false),
  (8, ⟨"ElbowQueueModel", "status", "()I"⟩, prog_10_method_86_code, 1, some (FieldType.int), 0, false),
  (9, ⟨"java/lang/Math", "max", "(II)I"⟩, prog_11_method_65_code, 2, some (FieldType.int), 2, true),
  (9, ⟨"java/lang/Math", "min", "(II)I"⟩, prog_11_method_69_code, 2, some (FieldType.int), 2, true)]
def poolF : List (Nat × Nat × Nat) := [(4011, 4, 0), (4014, 4, 1), (4018, 4, 2), (3011, 3, 0), (3015, 3, 1), (3019, 3, 2), (3022, 3, 3), (5009, 5, 0), (6074, 5, 0), (1035, 5, 0), (7262, 5, 0), (5015, 5, 1), (7211, 5, 1), (6107, 5, 1), (5018, 5, 2), (6057, 5, 2), (5021, 5, 3), (6113, 5, 3), (5024, 5, 4), (6035, 5, 4), (3048, 5, 4), (5028, 5, 5), (6041, 5, 5), (3051, 5, 5), (5031, 5, 6), (6048, 5, 6), (3067, 5, 6), (7276, 5, 6), (5034, 5, 7), (6054, 5, 7), (7157, 5, 7), (3064, 5, 7), (6009, 6, 0), (6015, 6, 1), (6019, 6, 2), (6022, 6, 3), (2055, 6, 3), (7178, 6, 3), (6025, 6, 4), (1062, 6, 4), (7208, 6, 4), (6028, 6, 5), (7214, 6, 5), (6031, 6, 6), (7161, 6, 6), (6040, 6, 7), (7196, 6, 7), (6044, 6, 8), (7199, 6, 8), (2108, 6, 8), (6045, 6, 9), (7172, 6, 9), (2093, 6, 9), (6051, 6, 10), (13, 0, 0), (24, 0, 1), (20, 0, 2), (2009, 2, 0), (7254, 2, 0), (2015, 2, 1), (2024, 2, 2), (2027, 2, 3), (2030, 2, 4), (1015, 1, 0), (1019, 1, 1), (1011, 1, 2), (1026, 1, 3), (7010, 7, 0), (7019, 7, 1), (7026, 7, 2), (7030, 7, 3), (7038, 7, 4), (7047, 7, 5), (7056, 7, 6), (7063, 7, 7), (7067, 7, 8), (7071, 7, 9), (7075, 7, 10), (7153, 7, 11), (7135, 7, 12), (7282, 7, 13), (8007, 8, 0), (8013, 8, 1), (8016, 8, 2), (8020, 8, 3), (8129, 8, 4), (8023, 8, 5), (8056, 8, 6), (8026, 8, 7), (8029, 8, 8), (8032, 8, 9), (8035, 8, 10), (8038, 8, 11), (8041, 8, 12), (8083, 8, 13), (8125, 8, 14), (8091, 8, 15), (8097, 8, 16), (8044, 8, 17), (8047, 8, 18), (8050, 8, 19), (8053, 8, 20), (8240, 8, 21)]
def poolM : List (Nat × Nat) := [(7001, 1001), (7009, 44), (4001, 1001), (3003, 1001), (7025, 56), (5003, 1001), (7035, 60), (6003, 1001), (7044, 0), (3, 1001), (17, 60), (7053, 13), (2003, 1001), (2021, 60), (7062, 5), (1003, 1001), (7079, 45), (7083, 46), (7087, 119), (7091, 51), (7095, 120), (7098, 47), (7101, 50), (7105, 52), (7109, 48), (7112, 53), (4021, 1000), (7116, 54), (7119, 117), (7123, 30), (7128, 31), (7131, 34), (3025, 57), (3030, 35), (3040, 39), (3054, 38), (3044, 41), (3074, 42), (3034, 36), (3057, 43), (3060, 58), (3037, 37), (3070, 40), (7140, 33), (7144, 59), (5037, 1000), (7147, 61), (6058, 81), (7150, 2), (7164, 3), (27, 62), (6062, 207), (6068, 1000), (31, 207), (7168, 72), (6086, 73), (6082, 63), (6100, 74), (6089, 75), (6093, 76), (6104, 77), (6110, 78), (6096, 79), (6078, 68), (7175, 118), (7182, 63), (7185, 64), (7189, 66), (7193, 75), (7202, 1), (7205, 4), (7217, 65), (7220, 15), (2042, 62), (2046, 14), (2034, 69), (2038, 72), (7224, 67), (7227, 18), (2066, 16), (2050, 17), (2058, 70), (2062, 71), (7230, 22), (2070, 64), (7234, 19), (7238, 20), (7241, 23), (2074, 82), (2078, 83), (6116, 72), (6119, 80), (7244, 24), (2082, 25), (2097, 68), (2100, 26), (2088, 27), (7248, 28), (2104, 67), (7251, 49), (7257, 21), (7260, 62), (7265, 6), (7268, 8), (1031, 9), (1040, 10), (1047, 206), (1044, 11), (1058, 12), (1067, 63), (7270, 7), (7273, 55), (7279, 32), (8001, 1001), (8067, 125), (8063, 122), (8074, 123), (8078, 124), (8122, 139), (8109, 133), (8094, 131), (8106, 134), (8100, 132), (8115, 138), (8112, 136), (8103, 135), (8119, 137), (8132, 142), (8157, 144), (8164, 154), (8167, 153), (8148, 148), (8135, 146), (8138, 147), (8144, 149), (8151, 151), (8141, 150), (8154, 152), (8171, 143), (8176, 156), (8179, 157), (8184, 159), (8193, 165), (8196, 167), (8199, 168), (8202, 166), (8205, 171), (8208, 175), (8213, 177), (8216, 178), (8223, 182), (8226, 181), (8230, 180), (8233, 185), (8237, 190), (8270, 197), (8255, 145), (8258, 195), (8243, 192), (8249, 194), (8246, 193), (8261, 196), (8252, 200), (8267, 199), (8264, 198), (8273, 203), (7018, 29)]
def poolC : List (Nat × Int) := [(7086, (-1000001)), (7285, (-1000010)), (7127, (-1000003)), (7139, (-1000100)), (7160, (-1000002)), (6077, (-1000000)), (7192, (-1000000)), (2054, (-1000000)), (2092, (-1000001)), (1030, (-1000000)), (8073, (-1000001)), (8060, (-1000010)), (8086, (-1000003)), (8128, (-1000100)), (8161, (-1000002)), (8183, (-1000000))]
def poolL : List (Nat × Int) := [(2086, 10), (8061, 7), (8071, 2), (8081, 255), (8087, 48), (8089, 57), (8162, 20), (8174, 3), (8187, 9), (8189, 5), (8191, 60), (8211, 8), (8219, 16), (8221, 10)]
def poolK : List (Nat × Nat) := [(7007, 4), (4009, 22), (7016, 3), (7023, 5), (7033, 6), (7042, 0), (11, 6), (7051, 2), (2019, 6), (7060, 1)]
def poolS : List (Nat × Nat) := [(1023, 0), (1052, 1), (1055, 2)]
/-! THE LITTLE MACHINE: ints are Int (a step that would leave 32 bits is stuck), an address is a place in a list of shapes, what the cells hold is one function -/
abbrev Vv : Type := Int ⊕ (Int ⊕ Option Nat)
abbrev vI (x : Int) : Vv := .inl x
abbrev vL (x : Int) : Vv := .inr (.inl x)
abbrev vR (r : Option Nat) : Vv := .inr (.inr r)
/-- kind (0..8 a class; 20 int[], 21 boolean[], 22 int[][], 23 Told[], 24 Town[]), length, references -/
abbrev Sh : Type := Nat × Nat × List (Option Nat)
abbrev Mem : Type := Nat → Int → Int
abbrev inR (x : Int) : Prop := -2147483648 ≤ x ∧ x ≤ 2147483647
abbrev inL (x : Int) : Prop := -9223372036854775808 ≤ x ∧ x ≤ 9223372036854775807
def mu (M : Mem) (a : Nat) (i v : Int) : Mem := fun b j => if b = a ∧ j = i then v else M b j
/-- all of one cell 0 -/
def mz (M : Mem) (a : Nat) : Mem := fun b j => if b = a then 0 else M b j
/-- all cells from a on 0 -/
def mzs (M : Mem) (a : Nat) : Mem := fun b j => if a ≤ b then 0 else M b j
def mcp (M : Mem) (a : Nat) (sp : Int) (b : Nat) (dp n : Int) : Mem := fun c j => if c = b ∧ dp ≤ j ∧ j < dp + n then M a (sp + (j - dp)) else M c j
def mOwn (mid : Nat) : Nat := (mT.getD mid (0, ⟨"", "", ""⟩, ⟨#[]⟩, 0, none, 0, false)).1
def mY (mid : Nat) : MethodName := (mT.getD mid (0, ⟨"", "", ""⟩, ⟨#[]⟩, 0, none, 0, false)).2.1
def mB (mid : Nat) : ByteArray := (mT.getD mid (0, ⟨"", "", ""⟩, ⟨#[]⟩, 0, none, 0, false)).2.2.1
def mL (mid : Nat) : Nat := (mT.getD mid (0, ⟨"", "", ""⟩, ⟨#[]⟩, 0, none, 0, false)).2.2.2.1
def mR (mid : Nat) : Option FieldType := (mT.getD mid (0, ⟨"", "", ""⟩, ⟨#[]⟩, 0, none, 0, false)).2.2.2.2.1
def mP (mid : Nat) : Nat := (mT.getD mid (0, ⟨"", "", ""⟩, ⟨#[]⟩, 0, none, 0, false)).2.2.2.2.2.1
def mS (mid : Nat) : Bool := (mT.getD mid (0, ⟨"", "", ""⟩, ⟨#[]⟩, 0, none, 0, false)).2.2.2.2.2.2
def lk {α : Type} : List (Nat × α) → Nat → Option α
  | [], _ => none
  | (k, v) :: r, x => if k = x then some v else lk r x
def sT : Nat → List Int := fun j => match j with
  | 0 => [-1, 0, 1, 1, 0, 4]
  | 1 => [10, 11, 12, 0, 13, 14]
  | _ => [20, 21, 24, 22, 23, 0]
/-- of a class's field: 0 int, 1 a reference, 2 boolean -/
def fT : List (List Nat) := [[1, 0, 0], [1, 1, 1, 0], [1, 1, 1, 1, 1], [1, 0, 0, 0], [1, 1, 1], [1, 1, 1, 1, 0, 0, 0, 0], [1, 1, 1, 1, 1, 1, 0, 0, 0, 0, 0], [1, 1, 1, 1, 1, 1, 1, 1, 1, 1, 1, 2, 0, 0], [1, 1, 1, 1, 0, 1, 0, 1, 1, 1, 1, 1, 1, 0, 0, 0, 0, 1, 1, 1, 1, 0]]
/-- is it final -/
def fF : List (List Bool) := [[true, false, false], [true, true, true, false], [true, true, true, true, true], [true, false, false, false], [true, true, true], [true, true, true, true, false, false, false, false], [true, true, true, true, true, true, false, false, false, false, false], [true, true, true, true, true, true, true, true, true, true, true, false, false, false], [true, true, true, true, false, true, false, true, true, true, true, true, true, false, false, false, false, true, true, true, true, false]]
def fty (ci k : Nat) : Nat := (fT.getD ci []).getD k 9
def ffi (ci k : Nat) : Bool := (fF.getD ci []).getD k true
def fnum (ci : Nat) : Nat := (fT.getD ci []).length
abbrev Lv : Type := List (Option Vv)
abbrev Cfg : Type := Nat × Lv × List Vv × List Sh × Mem
abbrev Act : Type := Cfg ⊕ ((Nat × List Vv × List Vv) ⊕ Option Vv)
def go (pc : Nat) (ls : Lv) (st : List Vv) (S : List Sh) (M : Mem) : Option Act := some (.inl (pc, ls, st, S, M))
def isL (v : Vv) : Bool := match v with
  | .inr (.inl _) => true
  | _ => false
def cat (v : Vv) : Nat := if isL v then 2 else 1
def catS (st : List Vv) : Nat := (st.map cat).sum
def prevL (ls : Lv) (k : Nat) : Bool := match k with
  | 0 => false
  | j + 1 => match ls[j]? with
    | some (some v) => isL v
    | _ => false
def st1 (ls : Lv) (k : Nat) (v : Vv) : Option Lv := if k < ls.length ∧ prevL ls k = false then some (ls.set k (some v)) else none
def st2 (ls : Lv) (k : Nat) (v : Vv) : Option Lv := if k + 1 < ls.length ∧ prevL ls k = false then some ((ls.set k (some v)).set (k + 1) none) else none
def pI (pc : Nat) (ls : Lv) (st : List Vv) (S : List Sh) (M : Mem) (x : Int) : Option Act := if inR x then go pc ls (vI x :: st) S M else none
def pL (pc : Nat) (ls : Lv) (st : List Vv) (S : List Sh) (M : Mem) (x : Int) : Option Act := if inL x then go pc ls (vL x :: st) S M else none
def jmp (pc : Nat) (off : Int) (ls : Lv) (st : List Vv) (S : List Sh) (M : Mem) : Option Act := if 0 ≤ (pc : Int) + off then go ((pc : Int) + off).toNat ls st S M else none
def br (b : Bool) (pc : Nat) (off : Int) (ls : Lv) (st : List Vv) (S : List Sh) (M : Mem) : Option Act := if b then jmp pc off ls st S M else go (pc + 3) ls st S M
def ldI (pc : Nat) (k : Nat) (ls : Lv) (st : List Vv) (S : List Sh) (M : Mem) : Option Act := match ls[k]? with
  | some (some (.inl x)) => go pc ls (vI x :: st) S M
  | _ => none
def ldL (pc : Nat) (k : Nat) (ls : Lv) (st : List Vv) (S : List Sh) (M : Mem) : Option Act := match ls[k]? with
  | some (some (.inr (.inl x))) => go pc ls (vL x :: st) S M
  | _ => none
def ldA (pc : Nat) (k : Nat) (ls : Lv) (st : List Vv) (S : List Sh) (M : Mem) : Option Act := match ls[k]? with
  | some (some (.inr (.inr (some r)))) => go pc ls (vR (some r) :: st) S M
  | _ => none
def stI (pc : Nat) (k : Nat) (ls : Lv) (st : List Vv) (S : List Sh) (M : Mem) : Option Act := match st with
  | .inl x :: rest => (match st1 ls k (vI x) with
    | some ls' => go pc ls' rest S M
    | none => none)
  | _ => none
def stL (pc : Nat) (k : Nat) (ls : Lv) (st : List Vv) (S : List Sh) (M : Mem) : Option Act := match st with
  | .inr (.inl x) :: rest => (match st2 ls k (vL x) with
    | some ls' => go pc ls' rest S M
    | none => none)
  | _ => none
def stA (pc : Nat) (k : Nat) (ls : Lv) (st : List Vv) (S : List Sh) (M : Mem) : Option Act := match st with
  | .inr (.inr (some r)) :: rest => (match st1 ls k (vR (some r)) with
    | some ls' => go pc ls' rest S M
    | none => none)
  | _ => none
def bI (pc : Nat) (ls : Lv) (st : List Vv) (S : List Sh) (M : Mem) (f : Int → Int → Option Int) : Option Act := match st with
  | .inl y :: .inl x :: rest => (match f x y with
    | some z => pI pc ls rest S M z
    | none => none)
  | _ => none
def bL (pc : Nat) (ls : Lv) (st : List Vv) (S : List Sh) (M : Mem) (f : Int → Int → Option Int) : Option Act := match st with
  | .inr (.inl y) :: .inr (.inl x) :: rest => (match f x y with
    | some z => pL pc ls rest S M z
    | none => none)
  | _ => none
def uI (pc : Nat) (ls : Lv) (st : List Vv) (S : List Sh) (M : Mem) (f : Int → Int) : Option Act := match st with
  | .inl x :: rest => pI pc ls rest S M (f x)
  | _ => none
def cI (pc : Nat) (off : Int) (ls : Lv) (st : List Vv) (S : List Sh) (M : Mem) (f : Int → Int → Bool) : Option Act := match st with
  | .inl y :: .inl x :: rest => br (f x y) pc off ls rest S M
  | _ => none
def c0 (pc : Nat) (off : Int) (ls : Lv) (st : List Vv) (S : List Sh) (M : Mem) (f : Int → Bool) : Option Act := match st with
  | .inl x :: rest => br (f x) pc off ls rest S M
  | _ => none
def aGetf (key pc : Nat) (ls : Lv) (st : List Vv) (S : List Sh) (M : Mem) : Option Act := match st, lk poolF key with
  | .inr (.inr (some a)) :: rest, some (ci, k) => (match S[a]? with
    | some (kd, _, rf) => if kd = ci ∧ k < fnum ci then (if fty ci k = 1 then go (pc + 3) ls (vR (rf.getD k none) :: rest) S M else go (pc + 3) ls (vI (M a k) :: rest) S M) else none
    | none => none)
  | _, _ => none
def aPutf (own : Nat) (ini : Bool) (key pc : Nat) (ls : Lv) (st : List Vv) (S : List Sh) (M : Mem) : Option Act := match st, lk poolF key with
  | v :: .inr (.inr (some a)) :: rest, some (ci, k) => (match S[a]? with
    | some (kd, n, rf) => if kd = ci ∧ k < fnum ci ∧ (ffi ci k = false ∨ (ini = true ∧ own = ci)) then (match v with
        | .inl x => if fty ci k = 0 ∨ (fty ci k = 2 ∧ (x = 0 ∨ x = 1)) then go (pc + 3) ls rest S (mu M a k x) else none
        | .inr (.inr (some r)) => if fty ci k = 1 ∧ k < rf.length then go (pc + 3) ls rest (S.set a (kd, n, rf.set k (some r))) M else none
        | _ => none) else none
    | none => none)
  | _, _ => none
def aIald (pc : Nat) (ls : Lv) (st : List Vv) (S : List Sh) (M : Mem) : Option Act := match st with
  | .inl i :: .inr (.inr (some a)) :: rest => if 0 ≤ i then (if 1000000 ≤ a then (if a < 1000003 then (match (sT (a - 1000000))[i.toNat]? with
      | some x => go (pc + 1) ls (vI x :: rest) S M
      | none => none) else none) else (match S[a]? with
    | some (kd, n, _) => if kd = 20 ∧ i < n then go (pc + 1) ls (vI (M a i) :: rest) S M else none
    | none => none)) else none
  | _ => none
def aIast (pc : Nat) (ls : Lv) (st : List Vv) (S : List Sh) (M : Mem) : Option Act := match st with
  | .inl x :: .inl i :: .inr (.inr (some a)) :: rest => (match S[a]? with
    | some (kd, n, _) => if kd = 20 ∧ 0 ≤ i ∧ i < n then go (pc + 1) ls rest S (mu M a i x) else none
    | none => none)
  | _ => none
def aBald (pc : Nat) (ls : Lv) (st : List Vv) (S : List Sh) (M : Mem) : Option Act := match st with
  | .inl i :: .inr (.inr (some a)) :: rest => (match S[a]? with
    | some (kd, n, _) => if kd = 21 ∧ 0 ≤ i ∧ i < n then go (pc + 1) ls (vI (M a i) :: rest) S M else none
    | none => none)
  | _ => none
def aBast (pc : Nat) (ls : Lv) (st : List Vv) (S : List Sh) (M : Mem) : Option Act := match st with
  | .inl x :: .inl i :: .inr (.inr (some a)) :: rest => (match S[a]? with
    | some (kd, n, _) => if kd = 21 ∧ 0 ≤ i ∧ i < n ∧ (x = 0 ∨ x = 1) then go (pc + 1) ls rest S (mu M a i x) else none
    | none => none)
  | _ => none
def aAald (pc : Nat) (ls : Lv) (st : List Vv) (S : List Sh) (M : Mem) : Option Act := match st with
  | .inl i :: .inr (.inr (some a)) :: rest => (match S[a]? with
    | some (kd, n, rf) => if (kd = 22 ∨ kd = 23 ∨ kd = 24) ∧ 0 ≤ i ∧ i < n then go (pc + 1) ls (vR (rf.getD i.toNat none) :: rest) S M else none
    | none => none)
  | _ => none
def aAast (pc : Nat) (ls : Lv) (st : List Vv) (S : List Sh) (M : Mem) : Option Act := match st with
  | .inr (.inr (some v)) :: .inl i :: .inr (.inr (some a)) :: rest => (match S[a]?, S[v]? with
    | some (kd, n, rf), some (kv, _, _) => if ((kd = 23 ∧ kv = 5) ∨ (kd = 24 ∧ kv = 6)) ∧ 0 ≤ i ∧ i < n ∧ i.toNat < rf.length then go (pc + 1) ls rest (S.set a (kd, n, rf.set i.toNat (some v))) M else none
    | _, _ => none)
  | _ => none
def aAlen (pc : Nat) (ls : Lv) (st : List Vv) (S : List Sh) (M : Mem) : Option Act := match st with
  | .inr (.inr (some a)) :: rest => (match S[a]? with
    | some (kd, n, _) => if 20 ≤ kd ∧ kd ≤ 24 ∧ n < 2147483648 then go (pc + 1) ls (vI n :: rest) S M else none
    | none => none)
  | _ => none
def aNewa (kd pc : Nat) (ls : Lv) (st : List Vv) (S : List Sh) (M : Mem) : Option Act := match st with
  | .inl n :: rest => if 0 ≤ n ∧ n ≤ 10000 then go (pc + 2) ls (vR (some S.length) :: rest) (S ++ [(kd, n.toNat, [])]) (mzs M S.length) else none
  | _ => none
def aNewq (key pc : Nat) (ls : Lv) (st : List Vv) (S : List Sh) (M : Mem) : Option Act := match st, lk poolK key with
  | .inl n :: rest, some ci => if 0 ≤ n ∧ n ≤ 10000 ∧ (ci = 5 ∨ ci = 6) then go (pc + 3) ls (vR (some S.length) :: rest) (S ++ [(ci + 18, n.toNat, List.replicate n.toNat none)]) (mzs M S.length) else none
  | _, _ => none
def aNewm (key pc : Nat) (ls : Lv) (st : List Vv) (S : List Sh) (M : Mem) : Option Act := match st, lk poolK key with
  | .inl k :: .inl n :: rest, some ci => if 0 ≤ n ∧ n ≤ 10000 ∧ 0 ≤ k ∧ k ≤ 10000 ∧ ci = 22 then go (pc + 4) ls (vR (some S.length) :: rest) (S ++ ((22, n.toNat, (List.range n.toNat).map (fun i => some (S.length + 1 + i))) :: List.replicate n.toNat (20, k.toNat, []))) (mzs M S.length) else none
  | _, _ => none
def aNew (key pc : Nat) (ls : Lv) (st : List Vv) (S : List Sh) (M : Mem) : Option Act := match lk poolK key with
  | some ci => if ci < 9 then go (pc + 3) ls (vR (some S.length) :: st) (S ++ [(ci, fnum ci, List.replicate (fnum ci) none)]) (mzs M S.length) else none
  | none => none
def aInvV (key : Nat) (st : List Vv) (S : List Sh) : Option Act := match lk poolM key with
  | some mid => if mid < 1000 ∧ mS mid = false ∧ (mY mid).name ≠ "<init>" then (match st.drop (mP mid) with
    | .inr (.inr (some a)) :: rest => (match S[a]? with
      | some (kd, _, _) => if kd = mOwn mid ∧ catS rest ≤ 8 ∧ mP mid ≤ st.length then some (.inr (.inl (mid, vR (some a) :: (st.take (mP mid)).reverse, rest))) else none
      | none => none)
    | _ => none) else none
  | none => none
def aInvS (key pc : Nat) (ls : Lv) (st : List Vv) (S : List Sh) (M : Mem) : Option Act := match lk poolM key with
  | some mid => if mid = 1000 then (match st with
      | .inl n :: .inl dp :: .inr (.inr (some b)) :: .inl sp :: .inr (.inr (some a)) :: rest => (match S[a]?, S[b]? with
        | some (ka, na, _), some (kb, nb, _) => if ka = 20 ∧ kb = 20 ∧ 0 ≤ n ∧ 0 ≤ sp ∧ 0 ≤ dp ∧ sp + n ≤ na ∧ dp + n ≤ nb ∧ catS rest ≤ 8 then go (pc + 3) ls rest S (mcp M a sp b dp n) else none
        | _, _ => none)
      | _ => none)
    else if mid < 1000 ∧ mS mid = true ∧ catS (st.drop (mP mid)) ≤ 8 ∧ mP mid ≤ st.length then some (.inr (.inl (mid, (st.take (mP mid)).reverse, st.drop (mP mid)))) else none
  | none => none
def aInvI (key pc : Nat) (ls : Lv) (st : List Vv) (S : List Sh) (M : Mem) : Option Act := match lk poolM key with
  | some mid => if mid = 1001 then (match st with
      | .inr (.inr (some _)) :: rest => if catS rest ≤ 8 then go (pc + 3) ls rest S M else none
      | _ => none)
    else if mid < 1000 ∧ mS mid = false ∧ (mY mid).name = "<init>" ∧ mP mid ≤ st.length then (match st.drop (mP mid) with
      | .inr (.inr (some a)) :: rest => if catS rest ≤ 8 then some (.inr (.inl (mid, vR (some a) :: (st.take (mP mid)).reverse, rest))) else none
      | _ => none) else none
  | none => none
def aIret (rt : Option FieldType) (st : List Vv) : Option Act := match st with
  | [.inl x] => (match rt with
    | some .int => some (.inr (.inr (some (vI x))))
    | some .boolean => if x = 0 ∨ x = 1 then some (.inr (.inr (some (vI x)))) else none
    | _ => none)
  | _ => none
def aLret (rt : Option FieldType) (st : List Vv) : Option Act := match st with
  | [.inr (.inl x)] => (match rt with
    | some .long => some (.inr (.inr (some (vL x))))
    | _ => none)
  | _ => none
def aAret (rt : Option FieldType) (st : List Vv) : Option Act := match st with
  | [.inr (.inr (some x))] => (match rt with
    | some (.object _) => some (.inr (.inr (some (vR (some x)))))
    | _ => none)
  | _ => none
def aVret (rt : Option FieldType) (st : List Vv) : Option Act := match st, rt with
  | [], none => some (.inr (.inr none))
  | _, _ => none
def aTab (dflt lo hi : Int) (offs : Array Int) (pc : Nat) (ls : Lv) (st : List Vv) (S : List Sh) (M : Mem) : Option Act := match st with
  | .inl x :: rest => if x < lo ∨ hi < x then jmp pc dflt ls rest S M else (match offs[(x - lo).toNat]? with
    | some off => jmp pc off ls rest S M
    | none => none)
  | _ => none
def aLook (dflt : Int) (ps : Array (Int × Int)) (pc : Nat) (ls : Lv) (st : List Vv) (S : List Sh) (M : Mem) : Option Act := match st with
  | .inl x :: rest => if (ps.toList.zip (ps.toList.drop 1)).all (fun (a, next) => a.1 < next.1) = true then jmp pc (Op.lookupswitch.offset ps.toList dflt x) ls rest S M else none
  | _ => none
def aDup (pc : Nat) (ls : Lv) (st : List Vv) (S : List Sh) (M : Mem) : Option Act := match st with
  | v :: rest => if isL v then none else go (pc + 1) ls (v :: v :: rest) S M
  | _ => none
def aDup2 (pc : Nat) (ls : Lv) (st : List Vv) (S : List Sh) (M : Mem) : Option Act := match st with
  | v :: w :: rest => if isL v ∨ isL w then none else go (pc + 1) ls (v :: w :: v :: w :: rest) S M
  | _ => none
def aInc (pc : Nat) (k : Nat) (n : Int) (ls : Lv) (st : List Vv) (S : List Sh) (M : Mem) : Option Act := match ls[k]? with
  | some (some (.inl x)) => if inR n ∧ inR (x + n) then (match st1 ls k (vI (x + n)) with
    | some ls' => go (pc + 3) ls' st S M
    | none => none) else none
  | _ => none
def aLcmp (pc : Nat) (ls : Lv) (st : List Vv) (S : List Sh) (M : Mem) : Option Act := match st with
  | .inr (.inl y) :: .inr (.inl x) :: rest => go (pc + 1) ls (vI (if x < y then -1 else if x = y then 0 else 1) :: rest) S M
  | _ => none
def aI2l (pc : Nat) (ls : Lv) (st : List Vv) (S : List Sh) (M : Mem) : Option Act := match st with
  | .inl x :: rest => go (pc + 1) ls (vL x :: rest) S M
  | _ => none
def aL2i (pc : Nat) (ls : Lv) (st : List Vv) (S : List Sh) (M : Mem) : Option Act := match st with
  | .inr (.inl x) :: rest => pI (pc + 1) ls rest S M x
  | _ => none
def aLdc (key pc len : Nat) (ls : Lv) (st : List Vv) (S : List Sh) (M : Mem) : Option Act := match lk poolC key with
  | some x => pI (pc + len) ls st S M x
  | none => none
def aLdc2 (key pc : Nat) (ls : Lv) (st : List Vv) (S : List Sh) (M : Mem) : Option Act := match lk poolL key with
  | some x => pL (pc + 3) ls st S M x
  | none => none
def aGets (key pc : Nat) (ls : Lv) (st : List Vv) (S : List Sh) (M : Mem) : Option Act := match lk poolS key with
  | some j => if j < 3 then go (pc + 3) ls (vR (some (1000000 + j)) :: st) S M else none
  | none => none
def actI (own : Nat) (ini : Bool) (rt : Option FieldType) (i : Instr) (pc : Nat) (ls : Lv) (st : List Vv) (S : List Sh) (M : Mem) : Option Act := match i with
  | .iconst n => pI (pc + 1) ls st S M n
  | .bipush n => if -128 ≤ n ∧ n ≤ 127 then go (pc + 2) ls (vI n :: st) S M else none
  | .sipush n => if -32768 ≤ n ∧ n ≤ 32767 then go (pc + 3) ls (vI n :: st) S M else none
  | .lconst n => go (pc + 1) ls (vL (n.val : Int) :: st) S M
  | .ldc idx => aLdc (own * 1000 + idx) pc 2 ls st S M
  | .ldc_w idx => aLdc (own * 1000 + idx) pc 3 ls st S M
  | .ldc2_w idx => aLdc2 (own * 1000 + idx) pc ls st S M
  | .iload_n k => ldI (pc + 1) k.val ls st S M
  | .iload k => ldI (pc + 2) k ls st S M
  | .lload_n k => ldL (pc + 1) k.val ls st S M
  | .lload k => ldL (pc + 2) k ls st S M
  | .aload_n k => ldA (pc + 1) k.val ls st S M
  | .aload k => ldA (pc + 2) k ls st S M
  | .istore_n k => stI (pc + 1) k.val ls st S M
  | .istore k => stI (pc + 2) k ls st S M
  | .lstore_n k => stL (pc + 1) k.val ls st S M
  | .lstore k => stL (pc + 2) k ls st S M
  | .astore_n k => stA (pc + 1) k.val ls st S M
  | .astore k => stA (pc + 2) k ls st S M
  | .iinc k n => aInc pc k n ls st S M
  | .iadd => bI (pc + 1) ls st S M (fun x y => some (x + y))
  | .isub => bI (pc + 1) ls st S M (fun x y => some (x - y))
  | .imul => bI (pc + 1) ls st S M (fun x y => some (x * y))
  | .idiv => bI (pc + 1) ls st S M (fun x y => if y = 0 then none else some (x.tdiv y))
  | .irem => bI (pc + 1) ls st S M (fun x y => if y = 0 then none else some (x.tmod y))
  | .iand => bI (pc + 1) ls st S M (fun x y => some (Int32.ofInt x &&& Int32.ofInt y).toInt)
  | .ishl => bI (pc + 1) ls st S M (fun x y => some (Int32.ofInt x <<< (Int32.ofInt y &&& 31)).toInt)
  | .ishr => bI (pc + 1) ls st S M (fun x y => some (Int32.ofInt x >>> (Int32.ofInt y &&& 31)).toInt)
  | .ineg => uI (pc + 1) ls st S M (fun x => -x)
  | .i2b => uI (pc + 1) ls st S M (fun x => (Int32.ofInt x).toInt8.toInt32.toInt)
  | .i2s => uI (pc + 1) ls st S M (fun x => (Int32.ofInt x).toInt16.toInt32.toInt)
  | .i2l => aI2l pc ls st S M
  | .l2i => aL2i pc ls st S M
  | .ladd => bL (pc + 1) ls st S M (fun x y => some (x + y))
  | .lmul => bL (pc + 1) ls st S M (fun x y => some (x * y))
  | .ldiv => bL (pc + 1) ls st S M (fun x y => if y = 0 then none else some (x.tdiv y))
  | .lrem => bL (pc + 1) ls st S M (fun x y => if y = 0 then none else some (x.tmod y))
  | .lcmp => aLcmp pc ls st S M
  | .dup => aDup pc ls st S M
  | .dup2 => aDup2 pc ls st S M
  | .goto off => jmp pc off ls st S M
  | .ifCond .eq off => c0 pc off ls st S M (fun x => decide (x = 0))
  | .ifCond .ne off => c0 pc off ls st S M (fun x => decide (¬ x = 0))
  | .ifCond .lt off => c0 pc off ls st S M (fun x => decide (x < 0))
  | .ifCond .ge off => c0 pc off ls st S M (fun x => decide (0 ≤ x))
  | .ifCond .gt off => c0 pc off ls st S M (fun x => decide (0 < x))
  | .ifCond .le off => c0 pc off ls st S M (fun x => decide (x ≤ 0))
  | .if_icmp .eq off => cI pc off ls st S M (fun x y => decide (x = y))
  | .if_icmp .ne off => cI pc off ls st S M (fun x y => decide (¬ x = y))
  | .if_icmp .lt off => cI pc off ls st S M (fun x y => decide (x < y))
  | .if_icmp .ge off => cI pc off ls st S M (fun x y => decide (y ≤ x))
  | .if_icmp .gt off => cI pc off ls st S M (fun x y => decide (y < x))
  | .if_icmp .le off => cI pc off ls st S M (fun x y => decide (x ≤ y))
  | .tableswitch dflt lo hi offs => aTab dflt lo hi offs pc ls st S M
  | .lookupswitch dflt ps => aLook dflt ps pc ls st S M
  | .getfield idx => aGetf (own * 1000 + idx) pc ls st S M
  | .putfield idx => aPutf own ini (own * 1000 + idx) pc ls st S M
  | .getstatic idx => aGets (own * 1000 + idx) pc ls st S M
  | .iaload => aIald pc ls st S M
  | .iastore => aIast pc ls st S M
  | .baload => aBald pc ls st S M
  | .bastore => aBast pc ls st S M
  | .aaload => aAald pc ls st S M
  | .aastore => aAast pc ls st S M
  | .arraylength => aAlen pc ls st S M
  | .newarray .int => aNewa 20 pc ls st S M
  | .newarray .boolean => aNewa 21 pc ls st S M
  | .anewarray idx => aNewq (own * 1000 + idx) pc ls st S M
  | .multianewarray idx 2 => aNewm (own * 1000 + idx) pc ls st S M
  | .new idx => aNew (own * 1000 + idx) pc ls st S M
  | .invokevirtual idx => aInvV (own * 1000 + idx) st S
  | .invokestatic idx => aInvS (own * 1000 + idx) pc ls st S M
  | .invokespecial idx => aInvI (own * 1000 + idx) pc ls st S M
  | .ireturn => aIret rt st
  | .lreturn => aLret rt st
  | .areturn => aAret rt st
  | .return_ => aVret rt st
  | _ => none
def ilen : Instr → Nat := fun i => match i with
  | .bipush _ | .ldc _ | .iload _ | .lload _ | .aload _ | .istore _ | .lstore _ | .astore _ | .newarray _ => 2
  | .sipush _ | .ldc_w _ | .ldc2_w _ | .iinc _ _ | .goto _ | .ifCond _ _ | .if_icmp _ _ | .getfield _ | .putfield _ | .getstatic _ | .anewarray _ | .new _ | .invokevirtual _ | .invokestatic _ | .invokespecial _ => 3
  | .multianewarray _ _ => 4
  | _ => 1
def isSw : Instr → Bool := fun i => match i with
  | .tableswitch _ _ _ _ | .lookupswitch _ _ => true
  | _ => false
def ins (mid pc : Nat) : Option Instr := match decode (mB mid) pc with
  | .ok (i, len) => if len = ilen i ∨ isSw i = true then some i else none
  | .error _ => none
def act (mid pc : Nat) (ls : Lv) (st : List Vv) (S : List Sh) (M : Mem) : Option Act := match ins mid pc with
  | some i => actI (mOwn mid) (decide ((mY mid).name = "<init>")) (mR mid) i pc ls st S M
  | none => none
def eLoc : List Vv → Lv
  | [] => []
  | v :: r => if isL v then some v :: none :: eLoc r else some v :: eLoc r
def entryL (mid : Nat) (args : List Vv) : Lv := eLoc args ++ List.replicate (mL mid - (eLoc args).length) none
def run : Nat → Nat → Nat → Nat → Lv → List Vv → List Sh → Mem → Option (Option Vv × List Sh × Mem)
  | 0, _, _, _, _, _, _, _ => none
  | n + 1, d, mid, pc, ls, st, S, M => match act mid pc ls st S M with
    | none => none
    | some (.inl (pc', ls', st', S', M')) => run n d mid pc' ls' st' S' M'
    | some (.inr (.inl (mid', args, rest))) => (match d with
      | 0 => none
      | d' + 1 => if (eLoc args).length ≤ mL mid' then (match run n d' mid' 0 (entryL mid' args) [] S M with
        | none => none
        | some (r, S', M') => run n d mid (pc + 3) ls (r.toList ++ rest) S' M') else none)
    | some (.inr (.inr r)) => some (r, S, M)
end
section
def sTold (a : Nat) : List Sh := [(5, 8, [some (a + 1), some (a + 2), some (a + 3), some (a + 4), none, none, none, none]), (20, 28, []), (20, 28, []), (20, 16, []), (20, 16, [])]
def sTown (a t room : Nat) : List Sh := [(6, 11, [some t, some (a + 1), some (a + 2), some (a + 3), some (a + 4), some (a + 5), none, none, none, none, none]), (20, room, []), (20, room, []), (20, room, []), (20, room, []), (20, room, [])]
/-- the class's cells behind its constructor -/
def SS1 : List Sh := [(7, 14, [some 1, some 13, some 15, some 20, some 25, some 31, some 177, some 246, some 248, some 249, some 250, none, none, none]),
  (4, 3, [some 2, some 11, some 12]), (22, 8, [some 3, some 4, some 5, some 6, some 7, some 8, some 9, some 10]), (20, 40, []), (20, 40, []), (20, 40, []), (20, 40, []), (20, 40, []), (20, 40, []), (20, 40, []), (20, 40, []), (20, 8, []), (20, 8, []),
  (3, 4, [some 14, none, none, none]), (20, 160, [])] ++ sTold 15 ++ sTold 20 ++ sTown 25 20 16 ++ [(0, 3, [some 32, none, none]), (24, 24, (List.range 24).map (fun i => some (33 + 6 * i)))] ++ (List.range 24).flatMap (fun i => sTown (33 + 6 * i) 20 16) ++
  [(2, 5, [some 178, some 25, some 179, some 185, some 191]), (20, 16, [])] ++ sTown 179 20 28 ++ sTown 185 20 16 ++ [(24, 9, (List.range 9).map (fun i => some (192 + 6 * i)))] ++ (List.range 9).flatMap (fun i => sTown (192 + 6 * i) 20 16) ++
  [(1, 4, [some 20, some 25, some 247, none]), (20, 16, []), (23, 2, [some 251, some 262]), (24, 2, [some 256, some 267]), (21, 2, [])] ++ sTold 251 ++ sTown 256 251 16 ++ sTold 262 ++ sTown 267 262 16
def SS2 : List Sh := [(8, 22, [some 274, some 275, some 276, some 277, none, some 278, none, some 279, some 280, some 281, some 282, some 283, some 284, none, none, none, none, some 285, some 286, some 287, some 288, none]),
  (20, 232, []), (20, 464, []), (21, 2, []), (20, 3480, []), (20, 232, []), (20, 8, []), (20, 8, []), (21, 8, []), (20, 320, []), (20, 40, []), (20, 160, []), (20, 232, []), (20, 28, []), (20, 28, []), (20, 16, [])]
def SS : List Sh := SS1 ++ SS2
def M0 : Mem := fun a i => if a = 12 then -1 else if (a = 16 ∨ a = 21 ∨ a = 252 ∨ a = 263) ∧ 16 ≤ i then 1 else if (a = 17 ∨ a = 22 ∨ a = 253 ∨ a = 264) ∧ 16 ≤ i then 99 else 0
/-! the same machine, its state worked out at every step: for the kernel -/
def fN {β : Type} (n : Nat) (k : Nat → β) : β := match n with
  | 0 => k 0
  | m + 1 => k (m + 1)
def fZ {β : Type} (x : Int) (k : Int → β) : β := match x with
  | .ofNat n => fN n (fun n => k (.ofNat n))
  | .negSucc n => fN n (fun n => k (.negSucc n))
def fO {β : Type} (r : Option Nat) (k : Option Nat → β) : β := match r with
  | none => k none
  | some a => fN a (fun a => k (some a))
def fV {β : Type} (v : Vv) (k : Vv → β) : β := match v with
  | .inl x => fZ x (fun x => k (.inl x))
  | .inr (.inl x) => fZ x (fun x => k (.inr (.inl x)))
  | .inr (.inr r) => fO r (fun r => k (.inr (.inr r)))
def fOV {β : Type} (o : Option Vv) (k : Option Vv → β) : β := match o with
  | none => k none
  | some v => fV v (fun v => k (some v))
def fLV {β : Type} : List Vv → (List Vv → β) → β
  | [], k => k []
  | x :: xs, k => fV x (fun x => fLV xs (fun xs => k (x :: xs)))
def fLO {β : Type} : List (Option Vv) → (List (Option Vv) → β) → β
  | [], k => k []
  | x :: xs, k => fOV x (fun x => fLO xs (fun xs => k (x :: xs)))
def fLR {β : Type} : List (Option Nat) → (List (Option Nat) → β) → β
  | [], k => k []
  | x :: xs, k => fO x (fun x => fLR xs (fun xs => k (x :: xs)))
def fSh {β : Type} (h : Sh) (k : Sh → β) : β := match h with
  | (a, n, r) => fN a (fun a => fN n (fun n => fLR r (fun r => k (a, n, r))))
def fLS {β : Type} : List Sh → (List Sh → β) → β
  | [], k => k []
  | x :: xs, k => fSh x (fun x => fLS xs (fun xs => k (x :: xs)))
theorem fN_e {β : Type} (n : Nat) (k : Nat → β) : fN n k = k n := by cases n <;> rfl
theorem fZ_e {β : Type} (n : Int) (k : Int → β) : fZ n k = k n := by cases n <;> simp only [fZ, fN_e]
theorem fO_e {β : Type} (n : Option Nat) (k : Option Nat → β) : fO n k = k n := by cases n <;> simp only [fO, fN_e]
theorem fV_e {β : Type} (v : Vv) (k : Vv → β) : fV v k = k v := by
  rcases v with x | x | x <;> simp only [fV, fZ_e, fO_e]
theorem fOV_e {β : Type} (v : Option Vv) (k : Option Vv → β) : fOV v k = k v := by cases v <;> simp only [fOV, fV_e]
theorem fLV_e {β : Type} (l : List Vv) : ∀ (k : List Vv → β), fLV l k = k l := by
  induction l with
  | nil => intro k; rfl
  | cons x xs ih => intro k; simp only [fLV, fV_e, ih]
theorem fLO_e {β : Type} (l : List (Option Vv)) : ∀ (k : List (Option Vv) → β), fLO l k = k l := by
  induction l with
  | nil => intro k; rfl
  | cons x xs ih => intro k; simp only [fLO, fOV_e, ih]
theorem fLR_e {β : Type} (l : List (Option Nat)) : ∀ (k : List (Option Nat) → β), fLR l k = k l := by
  induction l with
  | nil => intro k; rfl
  | cons x xs ih => intro k; simp only [fLR, fO_e, ih]
theorem fSh_e {β : Type} (h : Sh) (k : Sh → β) : fSh h k = k h := by
  obtain ⟨a, n, r⟩ := h
  simp only [fSh, fN_e, fLR_e]
theorem fLS_e {β : Type} (l : List Sh) : ∀ (k : List Sh → β), fLS l k = k l := by
  induction l with
  | nil => intro k; rfl
  | cons x xs ih => intro k; simp only [fLS, fSh_e, ih]
def chS : Option Instr → Bool := fun i => match i with
  | some (.new _) | some (.newarray _) | some (.anewarray _) | some (.multianewarray _ _) | some (.putfield _) | some .aastore => true
  | _ => false
def fS {β : Type} (b : Bool) (S : List Sh) (k : List Sh → β) : β := if b then fLS S k else k S
theorem fS_e {β : Type} (b : Bool) (S : List Sh) (k : List Sh → β) : fS b S k = k S := by cases b <;> simp [fS, fLS_e]
def runF : Nat → Nat → Nat → Nat → Lv → List Vv → List Sh → Mem → Option (Option Vv × List Sh × Mem)
  | 0, _, _, _, _, _, _, _ => none
  | n + 1, d, mid, pc, ls, st, S, M => match act mid pc ls st S M with
    | none => none
    | some (.inl (pc', ls', st', S', M')) => fN pc' (fun pc' => fLO ls' (fun ls' => fLV st' (fun st' => fS (chS (ins mid pc)) S' (fun S' => runF n d mid pc' ls' st' S' M'))))
    | some (.inr (.inl (mid', args, rest))) => (match d with
      | 0 => none
      | d' + 1 => if (eLoc args).length ≤ mL mid' then fN mid' (fun mid' => fLO (entryL mid' args) (fun el => fLV rest (fun rest => (match runF n d' mid' 0 el [] S M with
        | none => none
        | some (r, S', M') => fN (pc + 3) (fun pc' => fLV (r.toList ++ rest) (fun st' => fLS S' (fun S' => runF n d mid pc' ls st' S' M'))))))) else none)
    | some (.inr (.inr r)) => some (r, S, M)
theorem runF_e : ∀ (n d mid pc : Nat) (ls : Lv) (st : List Vv) (S : List Sh) (M : Mem), runF n d mid pc ls st S M = run n d mid pc ls st S M := by
  intro n
  induction n with
  | zero => intros; rfl
  | succ n ih =>
    intro d mid pc ls st S M
    simp only [runF, run, fN_e, fLO_e, fLV_e, fS_e, fLS_e, ih]
    rcases act mid pc ls st S M with _ | ⟨pc', ls', st', S', M'⟩ | ⟨mid', args, rest⟩ | r
    · rfl
    · rfl
    · cases d with
      | zero => rfl
      | succ d =>
        simp only
        rcases run n d mid' 0 (entryL mid' args) [] S M with _ | ⟨r, S', M'⟩ <;> rfl
    · rfl

/-- where one memory is as another, over some cells -/
def sameM (M N : Mem) (L : List (Nat × Nat)) : Bool := L.all (fun q => (List.range q.2).all (fun i => decide (M q.1 (i : Int) = N q.1 (i : Int))))
def okC1 : Bool := match runF 30000 60 84 0 (entryL 84 [vR (some 0)]) [] [(7, 14, List.replicate 14 none)] (fun _ _ => 0) with
  | some (none, S', M') => decide (S' = SS1) && sameM M' M0 [(0, 14), (12, 8), (13, 4), (20, 8), (21, 28), (22, 28), (25, 11), (31, 3), (246, 4), (250, 2)]
  | _ => false
set_option maxRecDepth 100000 in
theorem okC1_t : okC1 = true := by decide +kernel
def okC2 : Bool := match runF 30000 60 121 0 (entryL 121 [vR (some 273)]) [] (SS1 ++ [(8, 22, List.replicate 22 none)]) (fun _ _ => 0) with
  | some (none, S', M') => decide (S' = SS)
  | _ => false
set_option maxRecDepth 100000 in
theorem okC2_t : okC2 = true := by decide +kernel
end
