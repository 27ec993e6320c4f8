section
-- ===== PART A: goes FIRST, ahead of the names: the tables' words, and 'selects' of the private methods out of them =====
/-- a private method of a class that the tables say can be made, by its rows of tables_1 -/
def lw_okq (q : MethodName × Nat) : Prop := (q.1.cls ≠ "java/lang/invoke/MethodHandle" ∧ q.1.cls ≠ "java/lang/invoke/VarHandle") ∧ Cond.instantiable q.1.cls q.2 ∈ tables_1 ∧ Cond.privateMethod q.1 ∈ tables_1 ∧ Cond.instanceMethod q.1 ∈ tables_1
theorem lw_p0 : lw_okq (⟨"ElbowQueue", "found", "(I)I"⟩, 14) := ⟨⟨by decide +kernel, by decide +kernel⟩, List.mem_of_getElem? (i := 13) (by decide +kernel), List.mem_of_getElem? (i := 277) (by decide +kernel), List.mem_of_getElem? (i := 278) (by decide +kernel)⟩
theorem lw_p1 : lw_okq (⟨"ElbowQueue", "fine", "(I)I"⟩, 14) := ⟨⟨by decide +kernel, by decide +kernel⟩, List.mem_of_getElem? (i := 13) (by decide +kernel), List.mem_of_getElem? (i := 286) (by decide +kernel), List.mem_of_getElem? (i := 287) (by decide +kernel)⟩
theorem lw_p2 : lw_okq (⟨"ElbowQueue$Reader", "readHead", "(LElbowQueue$Told;)V"⟩, 4) := ⟨⟨by decide +kernel, by decide +kernel⟩, List.mem_of_getElem? (i := 40) (by decide +kernel), List.mem_of_getElem? (i := 357) (by decide +kernel), List.mem_of_getElem? (i := 358) (by decide +kernel)⟩
theorem lw_p3 : lw_okq (⟨"ElbowQueue$Reader", "sign", "(I)V"⟩, 4) := ⟨⟨by decide +kernel, by decide +kernel⟩, List.mem_of_getElem? (i := 40) (by decide +kernel), List.mem_of_getElem? (i := 361) (by decide +kernel), List.mem_of_getElem? (i := 362) (by decide +kernel)⟩
theorem lw_p4 : lw_okq (⟨"ElbowQueue$Reader", "byteAt", "(I)I"⟩, 4) := ⟨⟨by decide +kernel, by decide +kernel⟩, List.mem_of_getElem? (i := 40) (by decide +kernel), List.mem_of_getElem? (i := 365) (by decide +kernel), List.mem_of_getElem? (i := 366) (by decide +kernel)⟩
theorem lw_p5 : lw_okq (⟨"ElbowQueue$Reader", "number", "(I)I"⟩, 4) := ⟨⟨by decide +kernel, by decide +kernel⟩, List.mem_of_getElem? (i := 40) (by decide +kernel), List.mem_of_getElem? (i := 369) (by decide +kernel), List.mem_of_getElem? (i := 370) (by decide +kernel)⟩
theorem lw_p6 : lw_okq (⟨"ElbowQueue$Reader", "readWaiters", "(LElbowQueue$Told;)V"⟩, 4) := ⟨⟨by decide +kernel, by decide +kernel⟩, List.mem_of_getElem? (i := 40) (by decide +kernel), List.mem_of_getElem? (i := 376) (by decide +kernel), List.mem_of_getElem? (i := 377) (by decide +kernel)⟩
theorem lw_p7 : lw_okq (⟨"ElbowQueue$Reader", "readPassers", "(LElbowQueue$Told;)V"⟩, 4) := ⟨⟨by decide +kernel, by decide +kernel⟩, List.mem_of_getElem? (i := 40) (by decide +kernel), List.mem_of_getElem? (i := 387) (by decide +kernel), List.mem_of_getElem? (i := 388) (by decide +kernel)⟩
theorem lw_p8 : lw_okq (⟨"ElbowQueue$Reader", "sort", "()I"⟩, 4) := ⟨⟨by decide +kernel, by decide +kernel⟩, List.mem_of_getElem? (i := 40) (by decide +kernel), List.mem_of_getElem? (i := 391) (by decide +kernel), List.mem_of_getElem? (i := 392) (by decide +kernel)⟩
theorem lw_p9 : lw_okq (⟨"ElbowQueue$Town", "join", "(I)V"⟩, 11) := ⟨⟨by decide +kernel, by decide +kernel⟩, List.mem_of_getElem? (i := 107) (by decide +kernel), List.mem_of_getElem? (i := 409) (by decide +kernel), List.mem_of_getElem? (i := 410) (by decide +kernel)⟩
theorem lw_p10 : lw_okq (⟨"ElbowQueue$Town", "tellOn", "()V"⟩, 11) := ⟨⟨by decide +kernel, by decide +kernel⟩, List.mem_of_getElem? (i := 107) (by decide +kernel), List.mem_of_getElem? (i := 443) (by decide +kernel), List.mem_of_getElem? (i := 444) (by decide +kernel)⟩
theorem lw_p11 : lw_okq (⟨"ElbowQueue$Town", "takesOn", "(I)Z"⟩, 11) := ⟨⟨by decide +kernel, by decide +kernel⟩, List.mem_of_getElem? (i := 107) (by decide +kernel), List.mem_of_getElem? (i := 451) (by decide +kernel), List.mem_of_getElem? (i := 452) (by decide +kernel)⟩
theorem lw_p12 : lw_okq (⟨"ElbowQueue$Town", "standOn", "()V"⟩, 11) := ⟨⟨by decide +kernel, by decide +kernel⟩, List.mem_of_getElem? (i := 107) (by decide +kernel), List.mem_of_getElem? (i := 459) (by decide +kernel), List.mem_of_getElem? (i := 460) (by decide +kernel)⟩
theorem lw_p13 : lw_okq (⟨"ElbowQueue$Town", "bears", "(I)I"⟩, 11) := ⟨⟨by decide +kernel, by decide +kernel⟩, List.mem_of_getElem? (i := 107) (by decide +kernel), List.mem_of_getElem? (i := 463) (by decide +kernel), List.mem_of_getElem? (i := 464) (by decide +kernel)⟩
theorem lw_p14 : lw_okq (⟨"ElbowQueue$Town", "hoped", "(II)I"⟩, 11) := ⟨⟨by decide +kernel, by decide +kernel⟩, List.mem_of_getElem? (i := 107) (by decide +kernel), List.mem_of_getElem? (i := 467) (by decide +kernel), List.mem_of_getElem? (i := 468) (by decide +kernel)⟩
theorem lw_p15 : lw_okq (⟨"ElbowQueue$Town", "meetPasser", "(Z)V"⟩, 11) := ⟨⟨by decide +kernel, by decide +kernel⟩, List.mem_of_getElem? (i := 107) (by decide +kernel), List.mem_of_getElem? (i := 471) (by decide +kernel), List.mem_of_getElem? (i := 472) (by decide +kernel)⟩
def lw_privs_1 : List (MethodName × Nat) := [(⟨"ElbowQueue", "found", "(I)I"⟩, 14), (⟨"ElbowQueue", "fine", "(I)I"⟩, 14), (⟨"ElbowQueue$Reader", "readHead", "(LElbowQueue$Told;)V"⟩, 4), (⟨"ElbowQueue$Reader", "sign", "(I)V"⟩, 4), (⟨"ElbowQueue$Reader", "byteAt", "(I)I"⟩, 4), (⟨"ElbowQueue$Reader", "number", "(I)I"⟩, 4), (⟨"ElbowQueue$Reader", "readWaiters", "(LElbowQueue$Told;)V"⟩, 4), (⟨"ElbowQueue$Reader", "readPassers", "(LElbowQueue$Told;)V"⟩, 4), (⟨"ElbowQueue$Reader", "sort", "()I"⟩, 4), (⟨"ElbowQueue$Town", "join", "(I)V"⟩, 11), (⟨"ElbowQueue$Town", "tellOn", "()V"⟩, 11), (⟨"ElbowQueue$Town", "takesOn", "(I)Z"⟩, 11), (⟨"ElbowQueue$Town", "standOn", "()V"⟩, 11), (⟨"ElbowQueue$Town", "bears", "(I)I"⟩, 11), (⟨"ElbowQueue$Town", "hoped", "(II)I"⟩, 11), (⟨"ElbowQueue$Town", "meetPasser", "(Z)V"⟩, 11)]
theorem lw_r1 : ∀ q ∈ lw_privs_1, lw_okq q := List.forall_mem_cons.mpr ⟨lw_p0, List.forall_mem_cons.mpr ⟨lw_p1, List.forall_mem_cons.mpr ⟨lw_p2, List.forall_mem_cons.mpr ⟨lw_p3, List.forall_mem_cons.mpr ⟨lw_p4, List.forall_mem_cons.mpr ⟨lw_p5, List.forall_mem_cons.mpr ⟨lw_p6, List.forall_mem_cons.mpr ⟨lw_p7, List.forall_mem_cons.mpr ⟨lw_p8, List.forall_mem_cons.mpr ⟨lw_p9, List.forall_mem_cons.mpr ⟨lw_p10, List.forall_mem_cons.mpr ⟨lw_p11, List.forall_mem_cons.mpr ⟨lw_p12, List.forall_mem_cons.mpr ⟨lw_p13, List.forall_mem_cons.mpr ⟨lw_p14, List.forall_mem_cons.mpr ⟨lw_p15, fun _ h => absurd h List.not_mem_nil⟩⟩⟩⟩⟩⟩⟩⟩⟩⟩⟩⟩⟩⟩⟩⟩
theorem lw_p16 : lw_okq (⟨"ElbowQueue", "isPerson", "(I)Z"⟩, 14) := ⟨⟨by decide +kernel, by decide +kernel⟩, List.mem_of_getElem? (i := 13) (by decide +kernel), List.mem_of_getElem? (i := 483) (by decide +kernel), List.mem_of_getElem? (i := 484) (by decide +kernel)⟩
theorem lw_p17 : lw_okq (⟨"ElbowQueue$Foretold", "firstMinute", "(IIII)I"⟩, 5) := ⟨⟨by decide +kernel, by decide +kernel⟩, List.mem_of_getElem? (i := 177) (by decide +kernel), List.mem_of_getElem? (i := 564) (by decide +kernel), List.mem_of_getElem? (i := 565) (by decide +kernel)⟩
theorem lw_p18 : lw_okq (⟨"ElbowQueue$Foretold", "shows", "(III)Z"⟩, 5) := ⟨⟨by decide +kernel, by decide +kernel⟩, List.mem_of_getElem? (i := 177) (by decide +kernel), List.mem_of_getElem? (i := 568) (by decide +kernel), List.mem_of_getElem? (i := 569) (by decide +kernel)⟩
theorem lw_p19 : lw_okq (⟨"ElbowQueue$Foretold", "fitting", "(IIII)J"⟩, 5) := ⟨⟨by decide +kernel, by decide +kernel⟩, List.mem_of_getElem? (i := 177) (by decide +kernel), List.mem_of_getElem? (i := 635) (by decide +kernel), List.mem_of_getElem? (i := 636) (by decide +kernel)⟩
theorem lw_p20 : lw_okq (⟨"ElbowQueue$Foretold", "goOn", "(IZ)V"⟩, 5) := ⟨⟨by decide +kernel, by decide +kernel⟩, List.mem_of_getElem? (i := 177) (by decide +kernel), List.mem_of_getElem? (i := 640) (by decide +kernel), List.mem_of_getElem? (i := 641) (by decide +kernel)⟩
theorem lw_p21 : lw_okq (⟨"ElbowQueue$Asks", "asked", "(III)I"⟩, 4) := ⟨⟨by decide +kernel, by decide +kernel⟩, List.mem_of_getElem? (i := 202) (by decide +kernel), List.mem_of_getElem? (i := 700) (by decide +kernel), List.mem_of_getElem? (i := 701) (by decide +kernel)⟩
theorem lw_p22 : lw_okq (⟨"ElbowQueue$Asks", "given", "(III)I"⟩, 4) := ⟨⟨by decide +kernel, by decide +kernel⟩, List.mem_of_getElem? (i := 202) (by decide +kernel), List.mem_of_getElem? (i := 714) (by decide +kernel), List.mem_of_getElem? (i := 715) (by decide +kernel)⟩
theorem lw_p23 : lw_okq (⟨"ElbowQueue$Asks", "leave", "(I)V"⟩, 4) := ⟨⟨by decide +kernel, by decide +kernel⟩, List.mem_of_getElem? (i := 202) (by decide +kernel), List.mem_of_getElem? (i := 718) (by decide +kernel), List.mem_of_getElem? (i := 719) (by decide +kernel)⟩
theorem lw_p24 : lw_okq (⟨"ElbowQueueModel", "found", "(I)I"⟩, 22) := ⟨⟨by decide +kernel, by decide +kernel⟩, List.mem_of_getElem? (i := 748) (by decide +kernel), List.mem_of_getElem? (i := 834) (by decide +kernel), List.mem_of_getElem? (i := 835) (by decide +kernel)⟩
theorem lw_p25 : lw_okq (⟨"ElbowQueueModel", "well", "(I)I"⟩, 22) := ⟨⟨by decide +kernel, by decide +kernel⟩, List.mem_of_getElem? (i := 748) (by decide +kernel), List.mem_of_getElem? (i := 839) (by decide +kernel), List.mem_of_getElem? (i := 840) (by decide +kernel)⟩
theorem lw_p26 : lw_okq (⟨"ElbowQueueModel", "readTown", "()I"⟩, 22) := ⟨⟨by decide +kernel, by decide +kernel⟩, List.mem_of_getElem? (i := 748) (by decide +kernel), List.mem_of_getElem? (i := 865) (by decide +kernel), List.mem_of_getElem? (i := 866) (by decide +kernel)⟩
theorem lw_p27 : lw_okq (⟨"ElbowQueueModel", "sign", "(I)I"⟩, 22) := ⟨⟨by decide +kernel, by decide +kernel⟩, List.mem_of_getElem? (i := 748) (by decide +kernel), List.mem_of_getElem? (i := 869) (by decide +kernel), List.mem_of_getElem? (i := 870) (by decide +kernel)⟩
theorem lw_p28 : lw_okq (⟨"ElbowQueueModel", "byteAt", "(I)I"⟩, 22) := ⟨⟨by decide +kernel, by decide +kernel⟩, List.mem_of_getElem? (i := 748) (by decide +kernel), List.mem_of_getElem? (i := 873) (by decide +kernel), List.mem_of_getElem? (i := 874) (by decide +kernel)⟩
theorem lw_p29 : lw_okq (⟨"ElbowQueueModel", "number", "(I)I"⟩, 22) := ⟨⟨by decide +kernel, by decide +kernel⟩, List.mem_of_getElem? (i := 748) (by decide +kernel), List.mem_of_getElem? (i := 877) (by decide +kernel), List.mem_of_getElem? (i := 878) (by decide +kernel)⟩
theorem lw_p30 : lw_okq (⟨"ElbowQueueModel", "readPasser", "()I"⟩, 22) := ⟨⟨by decide +kernel, by decide +kernel⟩, List.mem_of_getElem? (i := 748) (by decide +kernel), List.mem_of_getElem? (i := 886) (by decide +kernel), List.mem_of_getElem? (i := 887) (by decide +kernel)⟩
theorem lw_p31 : lw_okq (⟨"ElbowQueueModel", "readOne", "(I)I"⟩, 22) := ⟨⟨by decide +kernel, by decide +kernel⟩, List.mem_of_getElem? (i := 748) (by decide +kernel), List.mem_of_getElem? (i := 890) (by decide +kernel), List.mem_of_getElem? (i := 891) (by decide +kernel)⟩
def lw_privs_2 : List (MethodName × Nat) := [(⟨"ElbowQueue", "isPerson", "(I)Z"⟩, 14), (⟨"ElbowQueue$Foretold", "firstMinute", "(IIII)I"⟩, 5), (⟨"ElbowQueue$Foretold", "shows", "(III)Z"⟩, 5), (⟨"ElbowQueue$Foretold", "fitting", "(IIII)J"⟩, 5), (⟨"ElbowQueue$Foretold", "goOn", "(IZ)V"⟩, 5), (⟨"ElbowQueue$Asks", "asked", "(III)I"⟩, 4), (⟨"ElbowQueue$Asks", "given", "(III)I"⟩, 4), (⟨"ElbowQueue$Asks", "leave", "(I)V"⟩, 4), (⟨"ElbowQueueModel", "found", "(I)I"⟩, 22), (⟨"ElbowQueueModel", "well", "(I)I"⟩, 22), (⟨"ElbowQueueModel", "readTown", "()I"⟩, 22), (⟨"ElbowQueueModel", "sign", "(I)I"⟩, 22), (⟨"ElbowQueueModel", "byteAt", "(I)I"⟩, 22), (⟨"ElbowQueueModel", "number", "(I)I"⟩, 22), (⟨"ElbowQueueModel", "readPasser", "()I"⟩, 22), (⟨"ElbowQueueModel", "readOne", "(I)I"⟩, 22)]
theorem lw_r2 : ∀ q ∈ lw_privs_2, lw_okq q := List.forall_mem_cons.mpr ⟨lw_p16, List.forall_mem_cons.mpr ⟨lw_p17, List.forall_mem_cons.mpr ⟨lw_p18, List.forall_mem_cons.mpr ⟨lw_p19, List.forall_mem_cons.mpr ⟨lw_p20, List.forall_mem_cons.mpr ⟨lw_p21, List.forall_mem_cons.mpr ⟨lw_p22, List.forall_mem_cons.mpr ⟨lw_p23, List.forall_mem_cons.mpr ⟨lw_p24, List.forall_mem_cons.mpr ⟨lw_p25, List.forall_mem_cons.mpr ⟨lw_p26, List.forall_mem_cons.mpr ⟨lw_p27, List.forall_mem_cons.mpr ⟨lw_p28, List.forall_mem_cons.mpr ⟨lw_p29, List.forall_mem_cons.mpr ⟨lw_p30, List.forall_mem_cons.mpr ⟨lw_p31, fun _ h => absurd h List.not_mem_nil⟩⟩⟩⟩⟩⟩⟩⟩⟩⟩⟩⟩⟩⟩⟩⟩
theorem lw_p32 : lw_okq (⟨"ElbowQueueModel", "readWaiter", "()I"⟩, 22) := ⟨⟨by decide +kernel, by decide +kernel⟩, List.mem_of_getElem? (i := 748) (by decide +kernel), List.mem_of_getElem? (i := 897) (by decide +kernel), List.mem_of_getElem? (i := 898) (by decide +kernel)⟩
theorem lw_p33 : lw_okq (⟨"ElbowQueueModel", "people", "()I"⟩, 22) := ⟨⟨by decide +kernel, by decide +kernel⟩, List.mem_of_getElem? (i := 748) (by decide +kernel), List.mem_of_getElem? (i := 902) (by decide +kernel), List.mem_of_getElem? (i := 903) (by decide +kernel)⟩
theorem lw_p34 : lw_okq (⟨"ElbowQueueModel", "isTown", "()Z"⟩, 22) := ⟨⟨by decide +kernel, by decide +kernel⟩, List.mem_of_getElem? (i := 748) (by decide +kernel), List.mem_of_getElem? (i := 914) (by decide +kernel), List.mem_of_getElem? (i := 915) (by decide +kernel)⟩
theorem lw_p35 : lw_okq (⟨"ElbowQueueModel", "keepAct", "()V"⟩, 22) := ⟨⟨by decide +kernel, by decide +kernel⟩, List.mem_of_getElem? (i := 748) (by decide +kernel), List.mem_of_getElem? (i := 920) (by decide +kernel), List.mem_of_getElem? (i := 921) (by decide +kernel)⟩
theorem lw_p36 : lw_okq (⟨"ElbowQueueModel", "goMinute", "(Z)V"⟩, 22) := ⟨⟨by decide +kernel, by decide +kernel⟩, List.mem_of_getElem? (i := 748) (by decide +kernel), List.mem_of_getElem? (i := 924) (by decide +kernel), List.mem_of_getElem? (i := 925) (by decide +kernel)⟩
theorem lw_p37 : lw_okq (⟨"ElbowQueueModel", "tellOn", "()V"⟩, 22) := ⟨⟨by decide +kernel, by decide +kernel⟩, List.mem_of_getElem? (i := 748) (by decide +kernel), List.mem_of_getElem? (i := 928) (by decide +kernel), List.mem_of_getElem? (i := 929) (by decide +kernel)⟩
theorem lw_p38 : lw_okq (⟨"ElbowQueueModel", "believes", "(I)I"⟩, 22) := ⟨⟨by decide +kernel, by decide +kernel⟩, List.mem_of_getElem? (i := 748) (by decide +kernel), List.mem_of_getElem? (i := 932) (by decide +kernel), List.mem_of_getElem? (i := 933) (by decide +kernel)⟩
theorem lw_p39 : lw_okq (⟨"ElbowQueueModel", "takesOn", "(I)Z"⟩, 22) := ⟨⟨by decide +kernel, by decide +kernel⟩, List.mem_of_getElem? (i := 748) (by decide +kernel), List.mem_of_getElem? (i := 936) (by decide +kernel), List.mem_of_getElem? (i := 937) (by decide +kernel)⟩
theorem lw_p40 : lw_okq (⟨"ElbowQueueModel", "outOf", "(I)V"⟩, 22) := ⟨⟨by decide +kernel, by decide +kernel⟩, List.mem_of_getElem? (i := 748) (by decide +kernel), List.mem_of_getElem? (i := 940) (by decide +kernel), List.mem_of_getElem? (i := 941) (by decide +kernel)⟩
theorem lw_p41 : lw_okq (⟨"ElbowQueueModel", "leave", "()V"⟩, 22) := ⟨⟨by decide +kernel, by decide +kernel⟩, List.mem_of_getElem? (i := 748) (by decide +kernel), List.mem_of_getElem? (i := 944) (by decide +kernel), List.mem_of_getElem? (i := 945) (by decide +kernel)⟩
theorem lw_p42 : lw_okq (⟨"ElbowQueueModel", "bears", "(I)I"⟩, 22) := ⟨⟨by decide +kernel, by decide +kernel⟩, List.mem_of_getElem? (i := 748) (by decide +kernel), List.mem_of_getElem? (i := 948) (by decide +kernel), List.mem_of_getElem? (i := 949) (by decide +kernel)⟩
theorem lw_p43 : lw_okq (⟨"ElbowQueueModel", "join", "(I)V"⟩, 22) := ⟨⟨by decide +kernel, by decide +kernel⟩, List.mem_of_getElem? (i := 748) (by decide +kernel), List.mem_of_getElem? (i := 952) (by decide +kernel), List.mem_of_getElem? (i := 953) (by decide +kernel)⟩
theorem lw_p44 : lw_okq (⟨"ElbowQueueModel", "isPerson", "(I)Z"⟩, 22) := ⟨⟨by decide +kernel, by decide +kernel⟩, List.mem_of_getElem? (i := 748) (by decide +kernel), List.mem_of_getElem? (i := 960) (by decide +kernel), List.mem_of_getElem? (i := 961) (by decide +kernel)⟩
theorem lw_p45 : lw_okq (⟨"ElbowQueueModel", "isInQueue", "(I)Z"⟩, 22) := ⟨⟨by decide +kernel, by decide +kernel⟩, List.mem_of_getElem? (i := 748) (by decide +kernel), List.mem_of_getElem? (i := 965) (by decide +kernel), List.mem_of_getElem? (i := 966) (by decide +kernel)⟩
theorem lw_p46 : lw_okq (⟨"ElbowQueueModel", "tellOne", "(II)V"⟩, 22) := ⟨⟨by decide +kernel, by decide +kernel⟩, List.mem_of_getElem? (i := 748) (by decide +kernel), List.mem_of_getElem? (i := 969) (by decide +kernel), List.mem_of_getElem? (i := 970) (by decide +kernel)⟩
theorem lw_p47 : lw_okq (⟨"ElbowQueueModel", "placeOf", "(I)I"⟩, 22) := ⟨⟨by decide +kernel, by decide +kernel⟩, List.mem_of_getElem? (i := 748) (by decide +kernel), List.mem_of_getElem? (i := 977) (by decide +kernel), List.mem_of_getElem? (i := 978) (by decide +kernel)⟩
def lw_privs_3 : List (MethodName × Nat) := [(⟨"ElbowQueueModel", "readWaiter", "()I"⟩, 22), (⟨"ElbowQueueModel", "people", "()I"⟩, 22), (⟨"ElbowQueueModel", "isTown", "()Z"⟩, 22), (⟨"ElbowQueueModel", "keepAct", "()V"⟩, 22), (⟨"ElbowQueueModel", "goMinute", "(Z)V"⟩, 22), (⟨"ElbowQueueModel", "tellOn", "()V"⟩, 22), (⟨"ElbowQueueModel", "believes", "(I)I"⟩, 22), (⟨"ElbowQueueModel", "takesOn", "(I)Z"⟩, 22), (⟨"ElbowQueueModel", "outOf", "(I)V"⟩, 22), (⟨"ElbowQueueModel", "leave", "()V"⟩, 22), (⟨"ElbowQueueModel", "bears", "(I)I"⟩, 22), (⟨"ElbowQueueModel", "join", "(I)V"⟩, 22), (⟨"ElbowQueueModel", "isPerson", "(I)Z"⟩, 22), (⟨"ElbowQueueModel", "isInQueue", "(I)Z"⟩, 22), (⟨"ElbowQueueModel", "tellOne", "(II)V"⟩, 22), (⟨"ElbowQueueModel", "placeOf", "(I)I"⟩, 22)]
theorem lw_r3 : ∀ q ∈ lw_privs_3, lw_okq q := List.forall_mem_cons.mpr ⟨lw_p32, List.forall_mem_cons.mpr ⟨lw_p33, List.forall_mem_cons.mpr ⟨lw_p34, List.forall_mem_cons.mpr ⟨lw_p35, List.forall_mem_cons.mpr ⟨lw_p36, List.forall_mem_cons.mpr ⟨lw_p37, List.forall_mem_cons.mpr ⟨lw_p38, List.forall_mem_cons.mpr ⟨lw_p39, List.forall_mem_cons.mpr ⟨lw_p40, List.forall_mem_cons.mpr ⟨lw_p41, List.forall_mem_cons.mpr ⟨lw_p42, List.forall_mem_cons.mpr ⟨lw_p43, List.forall_mem_cons.mpr ⟨lw_p44, List.forall_mem_cons.mpr ⟨lw_p45, List.forall_mem_cons.mpr ⟨lw_p46, List.forall_mem_cons.mpr ⟨lw_p47, fun _ h => absurd h List.not_mem_nil⟩⟩⟩⟩⟩⟩⟩⟩⟩⟩⟩⟩⟩⟩⟩⟩
theorem lw_p48 : lw_okq (⟨"ElbowQueueModel", "start", "()V"⟩, 22) := ⟨⟨by decide +kernel, by decide +kernel⟩, List.mem_of_getElem? (i := 748) (by decide +kernel), List.mem_of_getElem? (i := 1005) (by decide +kernel), List.mem_of_getElem? (i := 1006) (by decide +kernel)⟩
theorem lw_p49 : lw_okq (⟨"ElbowQueueModel", "goMinutes", "(I)V"⟩, 22) := ⟨⟨by decide +kernel, by decide +kernel⟩, List.mem_of_getElem? (i := 748) (by decide +kernel), List.mem_of_getElem? (i := 1009) (by decide +kernel), List.mem_of_getElem? (i := 1010) (by decide +kernel)⟩
theorem lw_p50 : lw_okq (⟨"ElbowQueueModel", "howMany", "(I)I"⟩, 22) := ⟨⟨by decide +kernel, by decide +kernel⟩, List.mem_of_getElem? (i := 748) (by decide +kernel), List.mem_of_getElem? (i := 1013) (by decide +kernel), List.mem_of_getElem? (i := 1014) (by decide +kernel)⟩
theorem lw_p51 : lw_okq (⟨"ElbowQueueModel", "back", "()V"⟩, 22) := ⟨⟨by decide +kernel, by decide +kernel⟩, List.mem_of_getElem? (i := 748) (by decide +kernel), List.mem_of_getElem? (i := 1017) (by decide +kernel), List.mem_of_getElem? (i := 1018) (by decide +kernel)⟩
theorem lw_p52 : lw_okq (⟨"ElbowQueueModel", "goLives", "()I"⟩, 22) := ⟨⟨by decide +kernel, by decide +kernel⟩, List.mem_of_getElem? (i := 748) (by decide +kernel), List.mem_of_getElem? (i := 1029) (by decide +kernel), List.mem_of_getElem? (i := 1030) (by decide +kernel)⟩
theorem lw_p53 : lw_okq (⟨"ElbowQueueModel", "allBelieve", "(I)Z"⟩, 22) := ⟨⟨by decide +kernel, by decide +kernel⟩, List.mem_of_getElem? (i := 748) (by decide +kernel), List.mem_of_getElem? (i := 1045) (by decide +kernel), List.mem_of_getElem? (i := 1046) (by decide +kernel)⟩
theorem lw_p54 : lw_okq (⟨"ElbowQueueModel", "joinElbows", "(I)V"⟩, 22) := ⟨⟨by decide +kernel, by decide +kernel⟩, List.mem_of_getElem? (i := 748) (by decide +kernel), List.mem_of_getElem? (i := 1054) (by decide +kernel), List.mem_of_getElem? (i := 1055) (by decide +kernel)⟩
theorem lw_p55 : lw_okq (⟨"ElbowQueueModel", "passersIn", "()I"⟩, 22) := ⟨⟨by decide +kernel, by decide +kernel⟩, List.mem_of_getElem? (i := 748) (by decide +kernel), List.mem_of_getElem? (i := 1058) (by decide +kernel), List.mem_of_getElem? (i := 1059) (by decide +kernel)⟩
theorem lw_p56 : lw_okq (⟨"ElbowQueueModel", "isSeen", "(III)Z"⟩, 22) := ⟨⟨by decide +kernel, by decide +kernel⟩, List.mem_of_getElem? (i := 748) (by decide +kernel), List.mem_of_getElem? (i := 1085) (by decide +kernel), List.mem_of_getElem? (i := 1086) (by decide +kernel)⟩
theorem lw_p57 : lw_okq (⟨"ElbowQueueModel", "size", "(I)I"⟩, 22) := ⟨⟨by decide +kernel, by decide +kernel⟩, List.mem_of_getElem? (i := 748) (by decide +kernel), List.mem_of_getElem? (i := 1112) (by decide +kernel), List.mem_of_getElem? (i := 1113) (by decide +kernel)⟩
theorem lw_p58 : lw_okq (⟨"ElbowQueueModel", "isFirstOne", "(I)Z"⟩, 22) := ⟨⟨by decide +kernel, by decide +kernel⟩, List.mem_of_getElem? (i := 748) (by decide +kernel), List.mem_of_getElem? (i := 1116) (by decide +kernel), List.mem_of_getElem? (i := 1117) (by decide +kernel)⟩
theorem lw_p59 : lw_okq (⟨"ElbowQueueModel", "sizeOfFirst", "(I)I"⟩, 22) := ⟨⟨by decide +kernel, by decide +kernel⟩, List.mem_of_getElem? (i := 748) (by decide +kernel), List.mem_of_getElem? (i := 1120) (by decide +kernel), List.mem_of_getElem? (i := 1121) (by decide +kernel)⟩
theorem lw_p60 : lw_okq (⟨"ElbowQueueModel", "note", "(I)V"⟩, 22) := ⟨⟨by decide +kernel, by decide +kernel⟩, List.mem_of_getElem? (i := 748) (by decide +kernel), List.mem_of_getElem? (i := 1124) (by decide +kernel), List.mem_of_getElem? (i := 1125) (by decide +kernel)⟩
theorem lw_p61 : lw_okq (⟨"ElbowQueueModel", "firstSize", "(I)I"⟩, 22) := ⟨⟨by decide +kernel, by decide +kernel⟩, List.mem_of_getElem? (i := 748) (by decide +kernel), List.mem_of_getElem? (i := 1128) (by decide +kernel), List.mem_of_getElem? (i := 1129) (by decide +kernel)⟩
theorem lw_p62 : lw_okq (⟨"ElbowQueueModel", "plainSize", "(I)I"⟩, 22) := ⟨⟨by decide +kernel, by decide +kernel⟩, List.mem_of_getElem? (i := 748) (by decide +kernel), List.mem_of_getElem? (i := 1132) (by decide +kernel), List.mem_of_getElem? (i := 1133) (by decide +kernel)⟩
theorem lw_p63 : lw_okq (⟨"ElbowQueueModel", "believerSize", "(I)I"⟩, 22) := ⟨⟨by decide +kernel, by decide +kernel⟩, List.mem_of_getElem? (i := 748) (by decide +kernel), List.mem_of_getElem? (i := 1136) (by decide +kernel), List.mem_of_getElem? (i := 1137) (by decide +kernel)⟩
def lw_privs_4 : List (MethodName × Nat) := [(⟨"ElbowQueueModel", "start", "()V"⟩, 22), (⟨"ElbowQueueModel", "goMinutes", "(I)V"⟩, 22), (⟨"ElbowQueueModel", "howMany", "(I)I"⟩, 22), (⟨"ElbowQueueModel", "back", "()V"⟩, 22), (⟨"ElbowQueueModel", "goLives", "()I"⟩, 22), (⟨"ElbowQueueModel", "allBelieve", "(I)Z"⟩, 22), (⟨"ElbowQueueModel", "joinElbows", "(I)V"⟩, 22), (⟨"ElbowQueueModel", "passersIn", "()I"⟩, 22), (⟨"ElbowQueueModel", "isSeen", "(III)Z"⟩, 22), (⟨"ElbowQueueModel", "size", "(I)I"⟩, 22), (⟨"ElbowQueueModel", "isFirstOne", "(I)Z"⟩, 22), (⟨"ElbowQueueModel", "sizeOfFirst", "(I)I"⟩, 22), (⟨"ElbowQueueModel", "note", "(I)V"⟩, 22), (⟨"ElbowQueueModel", "firstSize", "(I)I"⟩, 22), (⟨"ElbowQueueModel", "plainSize", "(I)I"⟩, 22), (⟨"ElbowQueueModel", "believerSize", "(I)I"⟩, 22)]
theorem lw_r4 : ∀ q ∈ lw_privs_4, lw_okq q := List.forall_mem_cons.mpr ⟨lw_p48, List.forall_mem_cons.mpr ⟨lw_p49, List.forall_mem_cons.mpr ⟨lw_p50, List.forall_mem_cons.mpr ⟨lw_p51, List.forall_mem_cons.mpr ⟨lw_p52, List.forall_mem_cons.mpr ⟨lw_p53, List.forall_mem_cons.mpr ⟨lw_p54, List.forall_mem_cons.mpr ⟨lw_p55, List.forall_mem_cons.mpr ⟨lw_p56, List.forall_mem_cons.mpr ⟨lw_p57, List.forall_mem_cons.mpr ⟨lw_p58, List.forall_mem_cons.mpr ⟨lw_p59, List.forall_mem_cons.mpr ⟨lw_p60, List.forall_mem_cons.mpr ⟨lw_p61, List.forall_mem_cons.mpr ⟨lw_p62, List.forall_mem_cons.mpr ⟨lw_p63, fun _ h => absurd h List.not_mem_nil⟩⟩⟩⟩⟩⟩⟩⟩⟩⟩⟩⟩⟩⟩⟩⟩
theorem lw_p64 : lw_okq (⟨"ElbowQueueModel", "mark", "(I)I"⟩, 22) := ⟨⟨by decide +kernel, by decide +kernel⟩, List.mem_of_getElem? (i := 748) (by decide +kernel), List.mem_of_getElem? (i := 1140) (by decide +kernel), List.mem_of_getElem? (i := 1141) (by decide +kernel)⟩
theorem lw_p65 : lw_okq (⟨"ElbowQueueModel", "believerMark", "(I)I"⟩, 22) := ⟨⟨by decide +kernel, by decide +kernel⟩, List.mem_of_getElem? (i := 748) (by decide +kernel), List.mem_of_getElem? (i := 1144) (by decide +kernel), List.mem_of_getElem? (i := 1145) (by decide +kernel)⟩
theorem lw_p66 : lw_okq (⟨"ElbowQueueModel", "plainMark", "(I)I"⟩, 22) := ⟨⟨by decide +kernel, by decide +kernel⟩, List.mem_of_getElem? (i := 748) (by decide +kernel), List.mem_of_getElem? (i := 1148) (by decide +kernel), List.mem_of_getElem? (i := 1149) (by decide +kernel)⟩
theorem lw_p67 : lw_okq (⟨"ElbowQueueModel", "rows", "()I"⟩, 22) := ⟨⟨by decide +kernel, by decide +kernel⟩, List.mem_of_getElem? (i := 748) (by decide +kernel), List.mem_of_getElem? (i := 1160) (by decide +kernel), List.mem_of_getElem? (i := 1161) (by decide +kernel)⟩
def lw_privs_5 : List (MethodName × Nat) := [(⟨"ElbowQueueModel", "mark", "(I)I"⟩, 22), (⟨"ElbowQueueModel", "believerMark", "(I)I"⟩, 22), (⟨"ElbowQueueModel", "plainMark", "(I)I"⟩, 22), (⟨"ElbowQueueModel", "rows", "()I"⟩, 22)]
theorem lw_r5 : ∀ q ∈ lw_privs_5, lw_okq q := List.forall_mem_cons.mpr ⟨lw_p64, List.forall_mem_cons.mpr ⟨lw_p65, List.forall_mem_cons.mpr ⟨lw_p66, List.forall_mem_cons.mpr ⟨lw_p67, fun _ h => absurd h List.not_mem_nil⟩⟩⟩⟩
def lw_privs : List (MethodName × Nat) := lw_privs_1 ++ (lw_privs_2 ++ (lw_privs_3 ++ (lw_privs_4 ++ (lw_privs_5))))
def lw_tbl : List Cond := k2_sels lw_privs ++ tables_1
theorem lw_privs_ok : ∀ q ∈ lw_privs, lw_okq q := by
  show ∀ q ∈ lw_privs_1 ++ (lw_privs_2 ++ (lw_privs_3 ++ (lw_privs_4 ++ (lw_privs_5)))), lw_okq q
  exact List.forall_mem_append.mpr ⟨lw_r1, List.forall_mem_append.mpr ⟨lw_r2, List.forall_mem_append.mpr ⟨lw_r3, List.forall_mem_append.mpr ⟨lw_r4, lw_r5⟩⟩⟩⟩
end
section
def RX0 : String := "ElbowQueue$Acts"
def TX0 : u_T := fun k => match k with
  | 0 => ("ElbowQueue$Acts", "ring", "[LElbowQueue$Town;", true)
  | 1 => ("ElbowQueue$Acts", "end", "I", false)
  | _ => ("ElbowQueue$Acts", "kept", "I", false)
def tyX0 : Nat → FieldType := fun k => match k with
  | 0 => .array (.object "ElbowQueue$Town")
  | 1 => .int
  | _ => .int
abbrev wsX00 : List Cond := u_ws RX0 TX0 3
theorem nmX0 : ∀ a, a < 3 → ∀ b, b < 3 → a ≠ b → (TX0 a).2.1 ≠ (TX0 b).2.1 := by decide +kernel
theorem tyX0_ok : ∀ k, k < 3 → parseFieldDescriptor (TX0 k).2.2.1 = some (tyX0 k) := by decide +kernel
abbrev cX0_init : ByteArray := prog_2_method_1_code
def yX0_init : MethodName := ⟨RX0, "<init>", "(LElbowQueue$Told;)V"⟩
abbrev cX0_kept : ByteArray := prog_2_method_2_code
def yX0_kept : MethodName := ⟨RX0, "kept", "()I"⟩
abbrev cX0_forget : ByteArray := prog_2_method_3_code
def yX0_forget : MethodName := ⟨RX0, "forget", "()V"⟩
abbrev cX0_keep : ByteArray := prog_2_method_4_code
def yX0_keep : MethodName := ⟨RX0, "keep", "(LElbowQueue$Town;)V"⟩
abbrev cX0_giveBack : ByteArray := prog_2_method_5_code
def yX0_giveBack : MethodName := ⟨RX0, "giveBack", "(LElbowQueue$Town;)V"⟩
def RX1 : String := "ElbowQueue$Asks"
def TX1 : u_T := fun k => match k with
  | 0 => ("ElbowQueue$Asks", "told", "LElbowQueue$Told;", true)
  | 1 => ("ElbowQueue$Asks", "town", "LElbowQueue$Town;", true)
  | 2 => ("ElbowQueue$Asks", "traces", "[I", true)
  | _ => ("ElbowQueue$Asks", "length", "I", false)
def tyX1 : Nat → FieldType := fun k => match k with
  | 0 => .object "ElbowQueue$Told"
  | 1 => .object "ElbowQueue$Town"
  | 2 => .array .int
  | _ => .int
abbrev wsX10 : List Cond := u_ws RX1 TX1 4
theorem nmX1 : ∀ a, a < 4 → ∀ b, b < 4 → a ≠ b → (TX1 a).2.1 ≠ (TX1 b).2.1 := by decide +kernel
theorem tyX1_ok : ∀ k, k < 4 → parseFieldDescriptor (TX1 k).2.2.1 = some (tyX1 k) := by decide +kernel
abbrev cX1_init : ByteArray := prog_3_method_1_code
def yX1_init : MethodName := ⟨RX1, "<init>", "(LElbowQueue$Told;LElbowQueue$Town;)V"⟩
abbrev cX1_isA : ByteArray := prog_3_method_2_code
def yX1_isA : MethodName := ⟨RX1, "isA", "(II)Z"⟩
abbrev cX1_traced : ByteArray := prog_3_method_3_code
def yX1_traced : MethodName := ⟨RX1, "traced", "(I)I"⟩
abbrev cX1_begin : ByteArray := prog_3_method_4_code
def yX1_begin : MethodName := ⟨RX1, "begin", "(II)I"⟩
abbrev cX1_asked : ByteArray := prog_3_method_5_code
def yX1_asked : MethodName := ⟨RX1, "asked", "(III)I"⟩
abbrev cX1_bodyOf : ByteArray := prog_3_method_6_code
def yX1_bodyOf : MethodName := ⟨RX1, "bodyOf", "(II)I"⟩
abbrev cX1_given : ByteArray := prog_3_method_7_code
def yX1_given : MethodName := ⟨RX1, "given", "(III)I"⟩
abbrev cX1_leave : ByteArray := prog_3_method_8_code
def yX1_leave : MethodName := ⟨RX1, "leave", "(I)V"⟩
def RX2 : String := "ElbowQueue$Foretold"
def TX2 : u_T := fun k => match k with
  | 0 => ("ElbowQueue$Foretold", "wanted", "[I", true)
  | 1 => ("ElbowQueue$Foretold", "now", "LElbowQueue$Town;", true)
  | 2 => ("ElbowQueue$Foretold", "then", "LElbowQueue$Town;", true)
  | 3 => ("ElbowQueue$Foretold", "till", "LElbowQueue$Town;", true)
  | _ => ("ElbowQueue$Foretold", "path", "[LElbowQueue$Town;", true)
def tyX2 : Nat → FieldType := fun k => match k with
  | 0 => .array .int
  | 1 => .object "ElbowQueue$Town"
  | 2 => .object "ElbowQueue$Town"
  | 3 => .object "ElbowQueue$Town"
  | _ => .array (.object "ElbowQueue$Town")
abbrev wsX20 : List Cond := u_ws RX2 TX2 5
theorem nmX2 : ∀ a, a < 5 → ∀ b, b < 5 → a ≠ b → (TX2 a).2.1 ≠ (TX2 b).2.1 := by decide +kernel
theorem tyX2_ok : ∀ k, k < 5 → parseFieldDescriptor (TX2 k).2.2.1 = some (tyX2 k) := by decide +kernel
abbrev cX2_init : ByteArray := prog_4_method_1_code
def yX2_init : MethodName := ⟨RX2, "<init>", "(LElbowQueue$Told;LElbowQueue$Town;)V"⟩
abbrev cX2_letGoBy : ByteArray := prog_4_method_2_code
def yX2_letGoBy : MethodName := ⟨RX2, "letGoBy", "(LElbowQueue$Town;I)V"⟩
abbrev cX2_behind : ByteArray := prog_4_method_3_code
def yX2_behind : MethodName := ⟨RX2, "behind", "(I)LElbowQueue$Town;"⟩
abbrev cX2_firstMinute : ByteArray := prog_4_method_4_code
def yX2_firstMinute : MethodName := ⟨RX2, "firstMinute", "(IIII)I"⟩
abbrev cX2_shows : ByteArray := prog_4_method_5_code
def yX2_shows : MethodName := ⟨RX2, "shows", "(III)Z"⟩
abbrev cX2_life : ByteArray := prog_4_method_6_code
def yX2_life : MethodName := ⟨RX2, "life", "()I"⟩
abbrev cX2_whenIs : ByteArray := prog_4_method_7_code
def yX2_whenIs : MethodName := ⟨RX2, "whenIs", "(II)I"⟩
abbrev cX2_whenAllBelieve : ByteArray := prog_4_method_8_code
def yX2_whenAllBelieve : MethodName := ⟨RX2, "whenAllBelieve", "(I)I"⟩
abbrev cX2_whenAreJust : ByteArray := prog_4_method_9_code
def yX2_whenAreJust : MethodName := ⟨RX2, "whenAreJust", "(I)I"⟩
abbrev cX2_bestWord : ByteArray := prog_4_method_10_code
def yX2_bestWord : MethodName := ⟨RX2, "bestWord", "(IZ)I"⟩
abbrev cX2_fewestElbows : ByteArray := prog_4_method_11_code
def yX2_fewestElbows : MethodName := ⟨RX2, "fewestElbows", "(I)I"⟩
abbrev cX2_odds : ByteArray := prog_4_method_12_code
def yX2_odds : MethodName := ⟨RX2, "odds", "(IIIZ)I"⟩
abbrev cX2_fitting : ByteArray := prog_4_method_13_code
def yX2_fitting : MethodName := ⟨RX2, "fitting", "(IIII)J"⟩
abbrev cX2_goOn : ByteArray := prog_4_method_14_code
def yX2_goOn : MethodName := ⟨RX2, "goOn", "(IZ)V"⟩
abbrev cX2_greatestDivisor : ByteArray := prog_4_method_15_code
def yX2_greatestDivisor : MethodName := ⟨RX2, "greatestDivisor", "(JJ)J"⟩
abbrev cX2_bestOpening : ByteArray := prog_4_method_16_code
def yX2_bestOpening : MethodName := ⟨RX2, "bestOpening", "(IZ)I"⟩
def RX3 : String := "ElbowQueue$Reader"
def TX3 : u_T := fun k => match k with
  | 0 => ("ElbowQueue$Reader", "tape", "[I", true)
  | 1 => ("ElbowQueue$Reader", "length", "I", false)
  | 2 => ("ElbowQueue$Reader", "at", "I", false)
  | _ => ("ElbowQueue$Reader", "faulty", "I", false)
def tyX3 : Nat → FieldType := fun k => match k with
  | 0 => .array .int
  | 1 => .int
  | 2 => .int
  | _ => .int
abbrev wsX30 : List Cond := u_ws RX3 TX3 4
theorem nmX3 : ∀ a, a < 4 → ∀ b, b < 4 → a ≠ b → (TX3 a).2.1 ≠ (TX3 b).2.1 := by decide +kernel
theorem tyX3_ok : ∀ k, k < 4 → parseFieldDescriptor (TX3 k).2.2.1 = some (tyX3 k) := by decide +kernel
abbrev cX3_init : ByteArray := prog_5_method_1_code
def yX3_init : MethodName := ⟨RX3, "<init>", "()V"⟩
abbrev cX3_isFull : ByteArray := prog_5_method_2_code
def yX3_isFull : MethodName := ⟨RX3, "isFull", "()Z"⟩
abbrev cX3_take : ByteArray := prog_5_method_3_code
def yX3_take : MethodName := ⟨RX3, "take", "(I)I"⟩
abbrev cX3_length : ByteArray := prog_5_method_4_code
def yX3_length : MethodName := ⟨RX3, "length", "()I"⟩
abbrev cX3_at : ByteArray := prog_5_method_5_code
def yX3_at : MethodName := ⟨RX3, "at", "()I"⟩
abbrev cX3_read : ByteArray := prog_5_method_6_code
def yX3_read : MethodName := ⟨RX3, "read", "(LElbowQueue$Told;)I"⟩
abbrev cX3_readHead : ByteArray := prog_5_method_7_code
def yX3_readHead : MethodName := ⟨RX3, "readHead", "(LElbowQueue$Told;)V"⟩
abbrev cX3_readWaiters : ByteArray := prog_5_method_8_code
def yX3_readWaiters : MethodName := ⟨RX3, "readWaiters", "(LElbowQueue$Told;)V"⟩
abbrev cX3_readPassers : ByteArray := prog_5_method_9_code
def yX3_readPassers : MethodName := ⟨RX3, "readPassers", "(LElbowQueue$Told;)V"⟩
abbrev cX3_byteAt : ByteArray := prog_5_method_10_code
def yX3_byteAt : MethodName := ⟨RX3, "byteAt", "(I)I"⟩
abbrev cX3_sign : ByteArray := prog_5_method_11_code
def yX3_sign : MethodName := ⟨RX3, "sign", "(I)V"⟩
abbrev cX3_sort : ByteArray := prog_5_method_12_code
def yX3_sort : MethodName := ⟨RX3, "sort", "()I"⟩
abbrev cX3_number : ByteArray := prog_5_method_13_code
def yX3_number : MethodName := ⟨RX3, "number", "(I)I"⟩
abbrev cX3_isFigure : ByteArray := prog_5_method_14_code
def yX3_isFigure : MethodName := ⟨RX3, "isFigure", "(I)Z"⟩
abbrev cX3_kindOf : ByteArray := prog_5_method_15_code
def yX3_kindOf : MethodName := ⟨RX3, "kindOf", "(I)I"⟩
def RX4 : String := "ElbowQueue$Rows"
def TX4 : u_T := fun k => match k with
  | 0 => ("ElbowQueue$Rows", "items", "[[I", true)
  | 1 => ("ElbowQueue$Rows", "lanes", "[I", true)
  | _ => ("ElbowQueue$Rows", "sizes", "[I", true)
def tyX4 : Nat → FieldType := fun k => match k with
  | 0 => .array (.array .int)
  | 1 => .array .int
  | _ => .array .int
abbrev wsX40 : List Cond := u_ws RX4 TX4 3
theorem nmX4 : ∀ a, a < 3 → ∀ b, b < 3 → a ≠ b → (TX4 a).2.1 ≠ (TX4 b).2.1 := by decide +kernel
theorem tyX4_ok : ∀ k, k < 3 → parseFieldDescriptor (TX4 k).2.2.1 = some (tyX4 k) := by decide +kernel
abbrev cX4_init : ByteArray := prog_6_method_1_code
def yX4_init : MethodName := ⟨RX4, "<init>", "()V"⟩
abbrev cX4_isNumber : ByteArray := prog_6_method_2_code
def yX4_isNumber : MethodName := ⟨RX4, "isNumber", "(I)Z"⟩
abbrev cX4_isLane : ByteArray := prog_6_method_3_code
def yX4_isLane : MethodName := ⟨RX4, "isLane", "(I)Z"⟩
abbrev cX4_isMissing : ByteArray := prog_6_method_4_code
def yX4_isMissing : MethodName := ⟨RX4, "isMissing", "(I)Z"⟩
abbrev cX4_laneOf : ByteArray := prog_6_method_5_code
def yX4_laneOf : MethodName := ⟨RX4, "laneOf", "(I)I"⟩
abbrev cX4_item : ByteArray := prog_6_method_6_code
def yX4_item : MethodName := ⟨RX4, "item", "(II)I"⟩
abbrev cX4_spans : ByteArray := prog_6_method_7_code
def yX4_spans : MethodName := ⟨RX4, "spans", "(III)Z"⟩
abbrev cX4_lay : ByteArray := prog_6_method_8_code
def yX4_lay : MethodName := ⟨RX4, "lay", "(III)V"⟩
abbrev cX4_put : ByteArray := prog_6_method_9_code
def yX4_put : MethodName := ⟨RX4, "put", "(III)I"⟩
abbrev cX4_bring : ByteArray := prog_6_method_10_code
def yX4_bring : MethodName := ⟨RX4, "bring", "(IIIII)V"⟩
abbrev cX4_takeAway : ByteArray := prog_6_method_11_code
def yX4_takeAway : MethodName := ⟨RX4, "takeAway", "(I)I"⟩
abbrev cX4_present : ByteArray := prog_6_method_12_code
def yX4_present : MethodName := ⟨RX4, "present", "()I"⟩
def RX5 : String := "ElbowQueue$Told"
def TX5 : u_T := fun k => match k with
  | 0 => ("ElbowQueue$Told", "kinds", "[I", true)
  | 1 => ("ElbowQueue$Told", "patience", "[I", true)
  | 2 => ("ElbowQueue$Told", "belief", "[I", true)
  | 3 => ("ElbowQueue$Told", "need", "[I", true)
  | 4 => ("ElbowQueue$Told", "cause", "I", false)
  | 5 => ("ElbowQueue$Told", "serves", "I", false)
  | 6 => ("ElbowQueue$Told", "waiters", "I", false)
  | _ => ("ElbowQueue$Told", "people", "I", false)
def tyX5 : Nat → FieldType := fun k => match k with
  | 0 => .array .int
  | 1 => .array .int
  | 2 => .array .int
  | 3 => .array .int
  | 4 => .int
  | 5 => .int
  | 6 => .int
  | _ => .int
abbrev wsX50 : List Cond := u_ws RX5 TX5 8
theorem nmX5 : ∀ a, a < 8 → ∀ b, b < 8 → a ≠ b → (TX5 a).2.1 ≠ (TX5 b).2.1 := by decide +kernel
theorem tyX5_ok : ∀ k, k < 8 → parseFieldDescriptor (TX5 k).2.2.1 = some (tyX5 k) := by decide +kernel
abbrev cX5_init : ByteArray := prog_7_method_1_code
def yX5_init : MethodName := ⟨RX5, "<init>", "()V"⟩
abbrev cX5_clear : ByteArray := prog_7_method_2_code
def yX5_clear : MethodName := ⟨RX5, "clear", "()V"⟩
abbrev cX5_add : ByteArray := prog_7_method_3_code
def yX5_add : MethodName := ⟨RX5, "add", "(IIII)V"⟩
abbrev cX5_become : ByteArray := prog_7_method_4_code
def yX5_become : MethodName := ⟨RX5, "become", "(LElbowQueue$Told;)V"⟩
def RX6 : String := "ElbowQueue$Town"
def TX6 : u_T := fun k => match k with
  | 0 => ("ElbowQueue$Town", "told", "LElbowQueue$Told;", true)
  | 1 => ("ElbowQueue$Town", "queue", "[I", true)
  | 2 => ("ElbowQueue$Town", "belief", "[I", true)
  | 3 => ("ElbowQueue$Town", "where", "[I", true)
  | 4 => ("ElbowQueue$Town", "stood", "[I", true)
  | 5 => ("ElbowQueue$Town", "origin", "[I", true)
  | 6 => ("ElbowQueue$Town", "minute", "I", false)
  | 7 => ("ElbowQueue$Town", "cause", "I", false)
  | 8 => ("ElbowQueue$Town", "serves", "I", false)
  | 9 => ("ElbowQueue$Town", "size", "I", false)
  | _ => ("ElbowQueue$Town", "next", "I", false)
def tyX6 : Nat → FieldType := fun k => match k with
  | 0 => .object "ElbowQueue$Told"
  | 1 => .array .int
  | 2 => .array .int
  | 3 => .array .int
  | 4 => .array .int
  | 5 => .array .int
  | 6 => .int
  | 7 => .int
  | 8 => .int
  | 9 => .int
  | _ => .int
abbrev wsX60 : List Cond := u_ws RX6 TX6 11
theorem nmX6 : ∀ a, a < 11 → ∀ b, b < 11 → a ≠ b → (TX6 a).2.1 ≠ (TX6 b).2.1 := by decide +kernel
theorem tyX6_ok : ∀ k, k < 11 → parseFieldDescriptor (TX6 k).2.2.1 = some (tyX6 k) := by decide +kernel
abbrev cX6_init : ByteArray := prog_8_method_1_code
def yX6_init : MethodName := ⟨RX6, "<init>", "(LElbowQueue$Told;I)V"⟩
abbrev cX6_begin : ByteArray := prog_8_method_2_code
def yX6_begin : MethodName := ⟨RX6, "begin", "()V"⟩
abbrev cX6_become : ByteArray := prog_8_method_3_code
def yX6_become : MethodName := ⟨RX6, "become", "(LElbowQueue$Town;)V"⟩
abbrev cX6_believes : ByteArray := prog_8_method_4_code
def yX6_believes : MethodName := ⟨RX6, "believes", "(I)I"⟩
abbrev cX6_hears : ByteArray := prog_8_method_5_code
def yX6_hears : MethodName := ⟨RX6, "hears", "(II)V"⟩
abbrev cX6_whoIsAt : ByteArray := prog_8_method_6_code
def yX6_whoIsAt : MethodName := ⟨RX6, "whoIsAt", "(I)I"⟩
abbrev cX6_placeOf : ByteArray := prog_8_method_7_code
def yX6_placeOf : MethodName := ⟨RX6, "placeOf", "(I)I"⟩
abbrev cX6_howMany : ByteArray := prog_8_method_8_code
def yX6_howMany : MethodName := ⟨RX6, "howMany", "(I)I"⟩
abbrev cX6_hasPasserToCome : ByteArray := prog_8_method_9_code
def yX6_hasPasserToCome : MethodName := ⟨RX6, "hasPasserToCome", "()Z"⟩
abbrev cX6_isOver : ByteArray := prog_8_method_10_code
def yX6_isOver : MethodName := ⟨RX6, "isOver", "()Z"⟩
abbrev cX6_allBelieve : ByteArray := prog_8_method_11_code
def yX6_allBelieve : MethodName := ⟨RX6, "allBelieve", "(I)Z"⟩
abbrev cX6_hasJust : ByteArray := prog_8_method_12_code
def yX6_hasJust : MethodName := ⟨RX6, "hasJust", "([II)Z"⟩
abbrev cX6_minuteGoesBy : ByteArray := prog_8_method_13_code
def yX6_minuteGoesBy : MethodName := ⟨RX6, "minuteGoesBy", "(Z)V"⟩
abbrev cX6_tellOn : ByteArray := prog_8_method_14_code
def yX6_tellOn : MethodName := ⟨RX6, "tellOn", "()V"⟩
abbrev cX6_takesOn : ByteArray := prog_8_method_15_code
def yX6_takesOn : MethodName := ⟨RX6, "takesOn", "(I)Z"⟩
abbrev cX6_takeOut : ByteArray := prog_8_method_16_code
def yX6_takeOut : MethodName := ⟨RX6, "takeOut", "(II)V"⟩
abbrev cX6_standOn : ByteArray := prog_8_method_17_code
def yX6_standOn : MethodName := ⟨RX6, "standOn", "()V"⟩
abbrev cX6_bears : ByteArray := prog_8_method_18_code
def yX6_bears : MethodName := ⟨RX6, "bears", "(I)I"⟩
abbrev cX6_hoped : ByteArray := prog_8_method_19_code
def yX6_hoped : MethodName := ⟨RX6, "hoped", "(II)I"⟩
abbrev cX6_meetPasser : ByteArray := prog_8_method_20_code
def yX6_meetPasser : MethodName := ⟨RX6, "meetPasser", "(Z)V"⟩
abbrev cX6_isWaiting : ByteArray := prog_8_method_21_code
def yX6_isWaiting : MethodName := ⟨RX6, "isWaiting", "(I)Z"⟩
abbrev cX6_join : ByteArray := prog_8_method_22_code
def yX6_join : MethodName := ⟨RX6, "join", "(I)V"⟩
abbrev cX6_joinElbows : ByteArray := prog_8_method_23_code
def yX6_joinElbows : MethodName := ⟨RX6, "joinElbows", "(I)V"⟩
abbrev cX6_joinersToCome : ByteArray := prog_8_method_24_code
def yX6_joinersToCome : MethodName := ⟨RX6, "joinersToCome", "()I"⟩
def RX7 : String := "ElbowQueue"
def TX7 : u_T := fun k => match k with
  | 0 => ("ElbowQueue", "rows", "LElbowQueue$Rows;", true)
  | 1 => ("ElbowQueue", "reader", "LElbowQueue$Reader;", true)
  | 2 => ("ElbowQueue", "draft", "LElbowQueue$Told;", true)
  | 3 => ("ElbowQueue", "told", "LElbowQueue$Told;", true)
  | 4 => ("ElbowQueue", "town", "LElbowQueue$Town;", true)
  | 5 => ("ElbowQueue", "acts", "LElbowQueue$Acts;", true)
  | 6 => ("ElbowQueue", "foretold", "LElbowQueue$Foretold;", true)
  | 7 => ("ElbowQueue", "asks", "LElbowQueue$Asks;", true)
  | 8 => ("ElbowQueue", "imagesTold", "[LElbowQueue$Told;", true)
  | 9 => ("ElbowQueue", "imagesTown", "[LElbowQueue$Town;", true)
  | 10 => ("ElbowQueue", "imageKept", "[Z", true)
  | 11 => ("ElbowQueue", "hasTown", "Z", false)
  | 12 => ("ElbowQueue", "latestFault", "I", false)
  | _ => ("ElbowQueue", "latestFinding", "I", false)
def tyX7 : Nat → FieldType := fun k => match k with
  | 0 => .object "ElbowQueue$Rows"
  | 1 => .object "ElbowQueue$Reader"
  | 2 => .object "ElbowQueue$Told"
  | 3 => .object "ElbowQueue$Told"
  | 4 => .object "ElbowQueue$Town"
  | 5 => .object "ElbowQueue$Acts"
  | 6 => .object "ElbowQueue$Foretold"
  | 7 => .object "ElbowQueue$Asks"
  | 8 => .array (.object "ElbowQueue$Told")
  | 9 => .array (.object "ElbowQueue$Town")
  | 10 => .array .boolean
  | 11 => .boolean
  | 12 => .int
  | _ => .int
abbrev wsX70 : List Cond := u_ws RX7 TX7 14
theorem nmX7 : ∀ a, a < 14 → ∀ b, b < 14 → a ≠ b → (TX7 a).2.1 ≠ (TX7 b).2.1 := by decide +kernel
theorem tyX7_ok : ∀ k, k < 14 → parseFieldDescriptor (TX7 k).2.2.1 = some (tyX7 k) := by decide +kernel
abbrev cX7_init : ByteArray := prog_1_method_1_code
def yX7_init : MethodName := ⟨RX7, "<init>", "()V"⟩
abbrev cX7_row : ByteArray := prog_1_method_2_code
def yX7_row : MethodName := ⟨RX7, "row", "(III)I"⟩
abbrev cX7_set : ByteArray := prog_1_method_3_code
def yX7_set : MethodName := ⟨RX7, "set", "(III)I"⟩
abbrev cX7_copy : ByteArray := prog_1_method_4_code
def yX7_copy : MethodName := ⟨RX7, "copy", "(IIIII)I"⟩
abbrev cX7_drop : ByteArray := prog_1_method_5_code
def yX7_drop : MethodName := ⟨RX7, "drop", "(I)I"⟩
abbrev cX7_feed : ByteArray := prog_1_method_6_code
def yX7_feed : MethodName := ⟨RX7, "feed", "(I)I"⟩
abbrev cX7_town : ByteArray := prog_1_method_7_code
def yX7_town : MethodName := ⟨RX7, "town", "()I"⟩
abbrev cX7_fault : ByteArray := prog_1_method_8_code
def yX7_fault : MethodName := ⟨RX7, "fault", "()I"⟩
abbrev cX7_minutes : ByteArray := prog_1_method_9_code
def yX7_minutes : MethodName := ⟨RX7, "minutes", "(I)I"⟩
abbrev cX7_say : ByteArray := prog_1_method_10_code
def yX7_say : MethodName := ⟨RX7, "say", "(II)I"⟩
abbrev cX7_go : ByteArray := prog_1_method_11_code
def yX7_go : MethodName := ⟨RX7, "go", "(I)I"⟩
abbrev cX7_hatch : ByteArray := prog_1_method_12_code
def yX7_hatch : MethodName := ⟨RX7, "hatch", "(II)I"⟩
abbrev cX7_undo : ByteArray := prog_1_method_13_code
def yX7_undo : MethodName := ⟨RX7, "undo", "()I"⟩
abbrev cX7_person : ByteArray := prog_1_method_14_code
def yX7_person : MethodName := ⟨RX7, "person", "(II)I"⟩
abbrev cX7_place : ByteArray := prog_1_method_15_code
def yX7_place : MethodName := ⟨RX7, "place", "(I)I"⟩
abbrev cX7_ahead : ByteArray := prog_1_method_16_code
def yX7_ahead : MethodName := ⟨RX7, "ahead", "(II)I"⟩
abbrev cX7_order : ByteArray := prog_1_method_17_code
def yX7_order : MethodName := ⟨RX7, "order", "(II)I"⟩
abbrev cX7_lives : ByteArray := prog_1_method_18_code
def yX7_lives : MethodName := ⟨RX7, "lives", "()I"⟩
abbrev cX7_words : ByteArray := prog_1_method_19_code
def yX7_words : MethodName := ⟨RX7, "words", "(II)I"⟩
abbrev cX7_served : ByteArray := prog_1_method_20_code
def yX7_served : MethodName := ⟨RX7, "served", "(II)I"⟩
abbrev cX7_spread : ByteArray := prog_1_method_21_code
def yX7_spread : MethodName := ⟨RX7, "spread", "(I)I"⟩
abbrev cX7_elbows : ByteArray := prog_1_method_22_code
def yX7_elbows : MethodName := ⟨RX7, "elbows", "(I)I"⟩
abbrev cX7_grows : ByteArray := prog_1_method_23_code
def yX7_grows : MethodName := ⟨RX7, "grows", "(IIII)I"⟩
abbrev cX7_opens : ByteArray := prog_1_method_24_code
def yX7_opens : MethodName := ⟨RX7, "opens", "(II)I"⟩
abbrev cX7_seen : ByteArray := prog_1_method_25_code
def yX7_seen : MethodName := ⟨RX7, "seen", "(III)I"⟩
abbrev cX7_image : ByteArray := prog_1_method_26_code
def yX7_image : MethodName := ⟨RX7, "image", "(I)I"⟩
abbrev cX7_restore : ByteArray := prog_1_method_27_code
def yX7_restore : MethodName := ⟨RX7, "restore", "(I)I"⟩
abbrev cX7_kind : ByteArray := prog_1_method_28_code
def yX7_kind : MethodName := ⟨RX7, "kind", "(I)I"⟩
abbrev cX7_as : ByteArray := prog_1_method_29_code
def yX7_as : MethodName := ⟨RX7, "as", "(II)I"⟩
abbrev cX7_ask : ByteArray := prog_1_method_30_code
def yX7_ask : MethodName := ⟨RX7, "ask", "(II)I"⟩
abbrev cX7_trace : ByteArray := prog_1_method_31_code
def yX7_trace : MethodName := ⟨RX7, "trace", "(I)I"⟩
abbrev cX7_count : ByteArray := prog_1_method_32_code
def yX7_count : MethodName := ⟨RX7, "count", "(I)I"⟩
abbrev cX7_status : ByteArray := prog_1_method_33_code
def yX7_status : MethodName := ⟨RX7, "status", "()I"⟩
abbrev cX7_within : ByteArray := prog_1_method_34_code
def yX7_within : MethodName := ⟨RX7, "within", "(II)Z"⟩
abbrev cX7_isPerson : ByteArray := prog_1_method_35_code
def yX7_isPerson : MethodName := ⟨RX7, "isPerson", "(I)Z"⟩
abbrev cX7_found : ByteArray := prog_1_method_36_code
def yX7_found : MethodName := ⟨RX7, "found", "(I)I"⟩
abbrev cX7_fine : ByteArray := prog_1_method_37_code
def yX7_fine : MethodName := ⟨RX7, "fine", "(I)I"⟩
def RX8 : String := "ElbowQueueModel"
def TX8 : u_T := fun k => match k with
  | 0 => ("ElbowQueueModel", "now", "[I", true)
  | 1 => ("ElbowQueueModel", "kept", "[I", true)
  | 2 => ("ElbowQueueModel", "isKept", "[Z", true)
  | 3 => ("ElbowQueueModel", "acts", "[I", true)
  | 4 => ("ElbowQueueModel", "manyActs", "I", false)
  | 5 => ("ElbowQueueModel", "was", "[I", true)
  | 6 => ("ElbowQueueModel", "status", "I", false)
  | 7 => ("ElbowQueueModel", "lanes", "[I", true)
  | 8 => ("ElbowQueueModel", "longs", "[I", true)
  | 9 => ("ElbowQueueModel", "isThere", "[Z", true)
  | 10 => ("ElbowQueueModel", "items", "[I", true)
  | 11 => ("ElbowQueueModel", "copied", "[I", true)
  | 12 => ("ElbowQueueModel", "tape", "[I", true)
  | 13 => ("ElbowQueueModel", "tapeLong", "I", false)
  | 14 => ("ElbowQueueModel", "fault", "I", false)
  | 15 => ("ElbowQueueModel", "at", "I", false)
  | 16 => ("ElbowQueueModel", "value", "I", false)
  | 17 => ("ElbowQueueModel", "next", "[I", true)
  | 18 => ("ElbowQueueModel", "told", "[I", true)
  | 19 => ("ElbowQueueModel", "from", "[I", true)
  | 20 => ("ElbowQueueModel", "traces", "[I", true)
  | _ => ("ElbowQueueModel", "traced", "I", false)
def tyX8 : Nat → FieldType := fun k => match k with
  | 0 => .array .int
  | 1 => .array .int
  | 2 => .array .boolean
  | 3 => .array .int
  | 4 => .int
  | 5 => .array .int
  | 6 => .int
  | 7 => .array .int
  | 8 => .array .int
  | 9 => .array .boolean
  | 10 => .array .int
  | 11 => .array .int
  | 12 => .array .int
  | 13 => .int
  | 14 => .int
  | 15 => .int
  | 16 => .int
  | 17 => .array .int
  | 18 => .array .int
  | 19 => .array .int
  | 20 => .array .int
  | _ => .int
abbrev wsX80 : List Cond := u_ws RX8 TX8 22
theorem nmX8 : ∀ a, a < 22 → ∀ b, b < 22 → a ≠ b → (TX8 a).2.1 ≠ (TX8 b).2.1 := by decide +kernel
theorem tyX8_ok : ∀ k, k < 22 → parseFieldDescriptor (TX8 k).2.2.1 = some (tyX8 k) := by decide +kernel
abbrev cX8_init : ByteArray := prog_10_method_1_code
def yX8_init : MethodName := ⟨RX8, "<init>", "()V"⟩
abbrev cX8_in : ByteArray := prog_10_method_3_code
def yX8_in : MethodName := ⟨RX8, "in", "(JJJ)Z"⟩
abbrev cX8_found : ByteArray := prog_10_method_4_code
def yX8_found : MethodName := ⟨RX8, "found", "(I)I"⟩
abbrev cX8_well : ByteArray := prog_10_method_5_code
def yX8_well : MethodName := ⟨RX8, "well", "(I)I"⟩
abbrev cX8_isRow : ByteArray := prog_10_method_6_code
def yX8_isRow : MethodName := ⟨RX8, "isRow", "(I)Z"⟩
abbrev cX8_row : ByteArray := prog_10_method_7_code
def yX8_row : MethodName := ⟨RX8, "row", "(III)I"⟩
abbrev cX8_set : ByteArray := prog_10_method_8_code
def yX8_set : MethodName := ⟨RX8, "set", "(III)I"⟩
abbrev cX8_copy : ByteArray := prog_10_method_9_code
def yX8_copy : MethodName := ⟨RX8, "copy", "(IIIII)I"⟩
abbrev cX8_drop : ByteArray := prog_10_method_10_code
def yX8_drop : MethodName := ⟨RX8, "drop", "(I)I"⟩
abbrev cX8_feed : ByteArray := prog_10_method_11_code
def yX8_feed : MethodName := ⟨RX8, "feed", "(I)I"⟩
abbrev cX8_byteAt : ByteArray := prog_10_method_12_code
def yX8_byteAt : MethodName := ⟨RX8, "byteAt", "(I)I"⟩
abbrev cX8_isFigure : ByteArray := prog_10_method_13_code
def yX8_isFigure : MethodName := ⟨RX8, "isFigure", "(I)Z"⟩
abbrev cX8_sign : ByteArray := prog_10_method_14_code
def yX8_sign : MethodName := ⟨RX8, "sign", "(I)I"⟩
abbrev cX8_number : ByteArray := prog_10_method_15_code
def yX8_number : MethodName := ⟨RX8, "number", "(I)I"⟩
abbrev cX8_sortOf : ByteArray := prog_10_method_16_code
def yX8_sortOf : MethodName := ⟨RX8, "sortOf", "(I)I"⟩
abbrev cX8_readOne : ByteArray := prog_10_method_17_code
def yX8_readOne : MethodName := ⟨RX8, "readOne", "(I)I"⟩
abbrev cX8_readWaiter : ByteArray := prog_10_method_18_code
def yX8_readWaiter : MethodName := ⟨RX8, "readWaiter", "()I"⟩
abbrev cX8_readPasser : ByteArray := prog_10_method_19_code
def yX8_readPasser : MethodName := ⟨RX8, "readPasser", "()I"⟩
abbrev cX8_readTown : ByteArray := prog_10_method_20_code
def yX8_readTown : MethodName := ⟨RX8, "readTown", "()I"⟩
abbrev cX8_town : ByteArray := prog_10_method_21_code
def yX8_town : MethodName := ⟨RX8, "town", "()I"⟩
abbrev cX8_fault : ByteArray := prog_10_method_22_code
def yX8_fault : MethodName := ⟨RX8, "fault", "()I"⟩
abbrev cX8_people : ByteArray := prog_10_method_23_code
def yX8_people : MethodName := ⟨RX8, "people", "()I"⟩
abbrev cX8_isPerson : ByteArray := prog_10_method_24_code
def yX8_isPerson : MethodName := ⟨RX8, "isPerson", "(I)Z"⟩
abbrev cX8_isTown : ByteArray := prog_10_method_25_code
def yX8_isTown : MethodName := ⟨RX8, "isTown", "()Z"⟩
abbrev cX8_isFirstOne : ByteArray := prog_10_method_26_code
def yX8_isFirstOne : MethodName := ⟨RX8, "isFirstOne", "(I)Z"⟩
abbrev cX8_believes : ByteArray := prog_10_method_27_code
def yX8_believes : MethodName := ⟨RX8, "believes", "(I)I"⟩
abbrev cX8_takesOn : ByteArray := prog_10_method_28_code
def yX8_takesOn : MethodName := ⟨RX8, "takesOn", "(I)Z"⟩
abbrev cX8_tellOn : ByteArray := prog_10_method_29_code
def yX8_tellOn : MethodName := ⟨RX8, "tellOn", "()V"⟩
abbrev cX8_outOf : ByteArray := prog_10_method_30_code
def yX8_outOf : MethodName := ⟨RX8, "outOf", "(I)V"⟩
abbrev cX8_bears : ByteArray := prog_10_method_31_code
def yX8_bears : MethodName := ⟨RX8, "bears", "(I)I"⟩
abbrev cX8_leave : ByteArray := prog_10_method_32_code
def yX8_leave : MethodName := ⟨RX8, "leave", "()V"⟩
abbrev cX8_join : ByteArray := prog_10_method_33_code
def yX8_join : MethodName := ⟨RX8, "join", "(I)V"⟩
abbrev cX8_goMinute : ByteArray := prog_10_method_34_code
def yX8_goMinute : MethodName := ⟨RX8, "goMinute", "(Z)V"⟩
abbrev cX8_keepAct : ByteArray := prog_10_method_35_code
def yX8_keepAct : MethodName := ⟨RX8, "keepAct", "()V"⟩
abbrev cX8_minutes : ByteArray := prog_10_method_36_code
def yX8_minutes : MethodName := ⟨RX8, "minutes", "(I)I"⟩
abbrev cX8_isInQueue : ByteArray := prog_10_method_37_code
def yX8_isInQueue : MethodName := ⟨RX8, "isInQueue", "(I)Z"⟩
abbrev cX8_tellOne : ByteArray := prog_10_method_38_code
def yX8_tellOne : MethodName := ⟨RX8, "tellOne", "(II)V"⟩
abbrev cX8_say : ByteArray := prog_10_method_39_code
def yX8_say : MethodName := ⟨RX8, "say", "(II)I"⟩
abbrev cX8_placeOf : ByteArray := prog_10_method_40_code
def yX8_placeOf : MethodName := ⟨RX8, "placeOf", "(I)I"⟩
abbrev cX8_go : ByteArray := prog_10_method_41_code
def yX8_go : MethodName := ⟨RX8, "go", "(I)I"⟩
abbrev cX8_hatch : ByteArray := prog_10_method_42_code
def yX8_hatch : MethodName := ⟨RX8, "hatch", "(II)I"⟩
abbrev cX8_undo : ByteArray := prog_10_method_43_code
def yX8_undo : MethodName := ⟨RX8, "undo", "()I"⟩
abbrev cX8_person : ByteArray := prog_10_method_44_code
def yX8_person : MethodName := ⟨RX8, "person", "(II)I"⟩
abbrev cX8_place : ByteArray := prog_10_method_45_code
def yX8_place : MethodName := ⟨RX8, "place", "(I)I"⟩
abbrev cX8_start : ByteArray := prog_10_method_46_code
def yX8_start : MethodName := ⟨RX8, "start", "()V"⟩
abbrev cX8_back : ByteArray := prog_10_method_47_code
def yX8_back : MethodName := ⟨RX8, "back", "()V"⟩
abbrev cX8_goMinutes : ByteArray := prog_10_method_48_code
def yX8_goMinutes : MethodName := ⟨RX8, "goMinutes", "(I)V"⟩
abbrev cX8_howMany : ByteArray := prog_10_method_49_code
def yX8_howMany : MethodName := ⟨RX8, "howMany", "(I)I"⟩
abbrev cX8_ahead : ByteArray := prog_10_method_50_code
def yX8_ahead : MethodName := ⟨RX8, "ahead", "(II)I"⟩
abbrev cX8_order : ByteArray := prog_10_method_51_code
def yX8_order : MethodName := ⟨RX8, "order", "(II)I"⟩
abbrev cX8_goLives : ByteArray := prog_10_method_52_code
def yX8_goLives : MethodName := ⟨RX8, "goLives", "()I"⟩
abbrev cX8_lives : ByteArray := prog_10_method_53_code
def yX8_lives : MethodName := ⟨RX8, "lives", "()I"⟩
abbrev cX8_words : ByteArray := prog_10_method_54_code
def yX8_words : MethodName := ⟨RX8, "words", "(II)I"⟩
abbrev cX8_served : ByteArray := prog_10_method_55_code
def yX8_served : MethodName := ⟨RX8, "served", "(II)I"⟩
abbrev cX8_allBelieve : ByteArray := prog_10_method_56_code
def yX8_allBelieve : MethodName := ⟨RX8, "allBelieve", "(I)Z"⟩
abbrev cX8_spread : ByteArray := prog_10_method_57_code
def yX8_spread : MethodName := ⟨RX8, "spread", "(I)I"⟩
abbrev cX8_joinElbows : ByteArray := prog_10_method_58_code
def yX8_joinElbows : MethodName := ⟨RX8, "joinElbows", "(I)V"⟩
abbrev cX8_passersIn : ByteArray := prog_10_method_59_code
def yX8_passersIn : MethodName := ⟨RX8, "passersIn", "()I"⟩
abbrev cX8_elbows : ByteArray := prog_10_method_60_code
def yX8_elbows : MethodName := ⟨RX8, "elbows", "(I)I"⟩
abbrev cX8_common : ByteArray := prog_10_method_61_code
def yX8_common : MethodName := ⟨RX8, "common", "(II)I"⟩
abbrev cX8_power : ByteArray := prog_10_method_62_code
def yX8_power : MethodName := ⟨RX8, "power", "(II)I"⟩
abbrev cX8_bits : ByteArray := prog_10_method_63_code
def yX8_bits : MethodName := ⟨RX8, "bits", "(I)I"⟩
abbrev cX8_grows : ByteArray := prog_10_method_64_code
def yX8_grows : MethodName := ⟨RX8, "grows", "(IIII)I"⟩
abbrev cX8_opens : ByteArray := prog_10_method_65_code
def yX8_opens : MethodName := ⟨RX8, "opens", "(II)I"⟩
abbrev cX8_isSeen : ByteArray := prog_10_method_66_code
def yX8_isSeen : MethodName := ⟨RX8, "isSeen", "(III)Z"⟩
abbrev cX8_seen : ByteArray := prog_10_method_67_code
def yX8_seen : MethodName := ⟨RX8, "seen", "(III)I"⟩
abbrev cX8_image : ByteArray := prog_10_method_68_code
def yX8_image : MethodName := ⟨RX8, "image", "(I)I"⟩
abbrev cX8_restore : ByteArray := prog_10_method_69_code
def yX8_restore : MethodName := ⟨RX8, "restore", "(I)I"⟩
abbrev cX8_kind : ByteArray := prog_10_method_70_code
def yX8_kind : MethodName := ⟨RX8, "kind", "(I)I"⟩
abbrev cX8_above : ByteArray := prog_10_method_71_code
def yX8_above : MethodName := ⟨RX8, "above", "(I)I"⟩
abbrev cX8_as : ByteArray := prog_10_method_72_code
def yX8_as : MethodName := ⟨RX8, "as", "(II)I"⟩
abbrev cX8_note : ByteArray := prog_10_method_73_code
def yX8_note : MethodName := ⟨RX8, "note", "(I)V"⟩
abbrev cX8_plainSize : ByteArray := prog_10_method_74_code
def yX8_plainSize : MethodName := ⟨RX8, "plainSize", "(I)I"⟩
abbrev cX8_firstSize : ByteArray := prog_10_method_75_code
def yX8_firstSize : MethodName := ⟨RX8, "firstSize", "(I)I"⟩
abbrev cX8_sizeOfFirst : ByteArray := prog_10_method_76_code
def yX8_sizeOfFirst : MethodName := ⟨RX8, "sizeOfFirst", "(I)I"⟩
abbrev cX8_believerSize : ByteArray := prog_10_method_77_code
def yX8_believerSize : MethodName := ⟨RX8, "believerSize", "(I)I"⟩
abbrev cX8_size : ByteArray := prog_10_method_78_code
def yX8_size : MethodName := ⟨RX8, "size", "(I)I"⟩
abbrev cX8_plainMark : ByteArray := prog_10_method_79_code
def yX8_plainMark : MethodName := ⟨RX8, "plainMark", "(I)I"⟩
abbrev cX8_believerMark : ByteArray := prog_10_method_80_code
def yX8_believerMark : MethodName := ⟨RX8, "believerMark", "(I)I"⟩
abbrev cX8_mark : ByteArray := prog_10_method_81_code
def yX8_mark : MethodName := ⟨RX8, "mark", "(I)I"⟩
abbrev cX8_ask : ByteArray := prog_10_method_82_code
def yX8_ask : MethodName := ⟨RX8, "ask", "(II)I"⟩
abbrev cX8_trace : ByteArray := prog_10_method_83_code
def yX8_trace : MethodName := ⟨RX8, "trace", "(I)I"⟩
abbrev cX8_rows : ByteArray := prog_10_method_84_code
def yX8_rows : MethodName := ⟨RX8, "rows", "()I"⟩
abbrev cX8_count : ByteArray := prog_10_method_85_code
def yX8_count : MethodName := ⟨RX8, "count", "(I)I"⟩
abbrev cX8_status : ByteArray := prog_10_method_86_code
def yX8_status : MethodName := ⟨RX8, "status", "()I"⟩
def RJ9 : String := "java/lang/Math"
def TJ9 : u_T := fun k => match k with
  | _ => ("", "", "", false)
def tyJ9 : Nat → FieldType := fun k => match k with
  | _ => .int
abbrev wsJ90 : List Cond := u_ws RJ9 TJ9 0
theorem nmJ9 : ∀ a, a < 0 → ∀ b, b < 0 → a ≠ b → (TJ9 a).2.1 ≠ (TJ9 b).2.1 := by decide +kernel
theorem tyJ9_ok : ∀ k, k < 0 → parseFieldDescriptor (TJ9 k).2.2.1 = some (tyJ9 k) := by decide +kernel
abbrev cJ9_max_7cf53 : ByteArray := prog_11_method_65_code
def yJ9_max_7cf53 : MethodName := ⟨RJ9, "max", "(II)I"⟩
abbrev cJ9_min_7cf53 : ByteArray := prog_11_method_69_code
def yJ9_min_7cf53 : MethodName := ⟨RJ9, "min", "(II)I"⟩
def RJ10 : String := "java/lang/System"
def TJ10 : u_T := fun k => match k with
  | _ => ("", "", "", false)
def tyJ10 : Nat → FieldType := fun k => match k with
  | _ => .int
abbrev wsJ100 : List Cond := u_ws RJ10 TJ10 0
theorem nmJ10 : ∀ a, a < 0 → ∀ b, b < 0 → a ≠ b → (TJ10 a).2.1 ≠ (TJ10 b).2.1 := by decide +kernel
theorem tyJ10_ok : ∀ k, k < 0 → parseFieldDescriptor (TJ10 k).2.2.1 = some (tyJ10 k) := by decide +kernel
end
section
/-- the classes by number; 9: Math -/
def cN : Nat → String := fun k => match k with
  | 0 => RX0
  | 1 => RX1
  | 2 => RX2
  | 3 => RX3
  | 4 => RX4
  | 5 => RX5
  | 6 => RX6
  | 7 => RX7
  | 8 => RX8
  | _ => "java/lang/Math"
abbrev vwCl : List vw_C := [(RX0, TX0, 3), (RX1, TX1, 4), (RX2, TX2, 5), (RX3, TX3, 4), (RX4, TX4, 3), (RX5, TX5, 8), (RX6, TX6, 11), (RX7, TX7, 14), (RX8, TX8, 22)]
def mT : List (Nat × MethodName × ByteArray × Nat × Option FieldType × Nat × Bool) := [
  (0, ⟨"ElbowQueue$Acts", "<init>", "(LElbowQueue$Told;)V"⟩, prog_2_method_1_code, 3, (none : Option FieldType), 1, false),
  (0, ⟨"ElbowQueue$Acts", "kept", "()I"⟩, prog_2_method_2_code, 1, some (FieldType.int), 0, false),
  (0, ⟨"ElbowQueue$Acts", "forget", "()V"⟩, prog_2_method_3_code, 1, (none : Option FieldType), 0, false),
  (0, ⟨"ElbowQueue$Acts", "keep", "(LElbowQueue$Town;)V"⟩, prog_2_method_4_code, 2, (none : Option FieldType), 1, false),
  (0, ⟨"ElbowQueue$Acts", "giveBack", "(LElbowQueue$Town;)V"⟩, prog_2_method_5_code, 2, (none : Option FieldType), 1, false),
  (1, ⟨"ElbowQueue$Asks", "<init>", "(LElbowQueue$Told;LElbowQueue$Town;)V"⟩, prog_3_method_1_code, 3, (none : Option FieldType), 2, false),
  (1, ⟨"ElbowQueue$Asks", "isA", "(II)Z"⟩, prog_3_method_2_code, 4, some (FieldType.boolean), 2, true),
  (1, ⟨"ElbowQueue$Asks", "traced", "(I)I"⟩, prog_3_method_3_code, 2, some (FieldType.int), 1, false),
  (1, ⟨"ElbowQueue$Asks", "begin", "(II)I"⟩, prog_3_method_4_code, 3, some (FieldType.int), 2, false),
  (1, ⟨"ElbowQueue$Asks", "asked", "(III)I"⟩, prog_3_method_5_code, 6, some (FieldType.int), 3, false),
  (1, ⟨"ElbowQueue$Asks", "bodyOf", "(II)I"⟩, prog_3_method_6_code, 3, some (FieldType.int), 2, true),
  (1, ⟨"ElbowQueue$Asks", "given", "(III)I"⟩, prog_3_method_7_code, 4, some (FieldType.int), 3, false),
  (1, ⟨"ElbowQueue$Asks", "leave", "(I)V"⟩, prog_3_method_8_code, 2, (none : Option FieldType), 1, false),
  (2, ⟨"ElbowQueue$Foretold", "<init>", "(LElbowQueue$Told;LElbowQueue$Town;)V"⟩, prog_4_method_1_code, 4, (none : Option FieldType), 2, false),
  (2, ⟨"ElbowQueue$Foretold", "letGoBy", "(LElbowQueue$Town;I)V"⟩, prog_4_method_2_code, 3, (none : Option FieldType), 2, true),
  (2, ⟨"ElbowQueue$Foretold", "behind", "(I)LElbowQueue$Town;"⟩, prog_4_method_3_code, 2, some (FieldType.object "ElbowQueue$Town"), 1, false),
  (2, ⟨"ElbowQueue$Foretold", "firstMinute", "(IIII)I"⟩, prog_4_method_4_code, 6, some (FieldType.int), 4, false),
  (2, ⟨"ElbowQueue$Foretold", "shows", "(III)Z"⟩, prog_4_method_5_code, 4, some (FieldType.boolean), 3, false),
  (2, ⟨"ElbowQueue$Foretold", "life", "()I"⟩, prog_4_method_6_code, 1, some (FieldType.int), 0, false),
  (2, ⟨"ElbowQueue$Foretold", "whenIs", "(II)I"⟩, prog_4_method_7_code, 3, some (FieldType.int), 2, false),
  (2, ⟨"ElbowQueue$Foretold", "whenAllBelieve", "(I)I"⟩, prog_4_method_8_code, 2, some (FieldType.int), 1, false),
  (2, ⟨"ElbowQueue$Foretold", "whenAreJust", "(I)I"⟩, prog_4_method_9_code, 2, some (FieldType.int), 1, false),
  (2, ⟨"ElbowQueue$Foretold", "bestWord", "(IZ)I"⟩, prog_4_method_10_code, 7, some (FieldType.int), 2, false),
  (2, ⟨"ElbowQueue$Foretold", "fewestElbows", "(I)I"⟩, prog_4_method_11_code, 3, some (FieldType.int), 1, false),
  (2, ⟨"ElbowQueue$Foretold", "odds", "(IIIZ)I"⟩, prog_4_method_12_code, 11, some (FieldType.int), 4, false),
  (2, ⟨"ElbowQueue$Foretold", "fitting", "(IIII)J"⟩, prog_4_method_13_code, 9, some (FieldType.long), 4, false),
  (2, ⟨"ElbowQueue$Foretold", "goOn", "(IZ)V"⟩, prog_4_method_14_code, 4, (none : Option FieldType), 2, false),
  (2, ⟨"ElbowQueue$Foretold", "greatestDivisor", "(JJ)J"⟩, prog_4_method_15_code, 11, some (FieldType.long), 2, true),
  (2, ⟨"ElbowQueue$Foretold", "bestOpening", "(IZ)I"⟩, prog_4_method_16_code, 8, some (FieldType.int), 2, false),
  (3, ⟨"ElbowQueue$Reader", "<init>", "()V"⟩, prog_5_method_1_code, 1, (none : Option FieldType), 0, false),
  (3, ⟨"ElbowQueue$Reader", "isFull", "()Z"⟩, prog_5_method_2_code, 1, some (FieldType.boolean), 0, false),
  (3, ⟨"ElbowQueue$Reader", "take", "(I)I"⟩, prog_5_method_3_code, 2, some (FieldType.int), 1, false),
  (3, ⟨"ElbowQueue$Reader", "length", "()I"⟩, prog_5_method_4_code, 1, some (FieldType.int), 0, false),
  (3, ⟨"ElbowQueue$Reader", "at", "()I"⟩, prog_5_method_5_code, 1, some (FieldType.int), 0, false),
  (3, ⟨"ElbowQueue$Reader", "read", "(LElbowQueue$Told;)I"⟩, prog_5_method_6_code, 2, some (FieldType.int), 1, false),
  (3, ⟨"ElbowQueue$Reader", "readHead", "(LElbowQueue$Told;)V"⟩, prog_5_method_7_code, 2, (none : Option FieldType), 1, false),
  (3, ⟨"ElbowQueue$Reader", "readWaiters", "(LElbowQueue$Told;)V"⟩, prog_5_method_8_code, 6, (none : Option FieldType), 1, false),
  (3, ⟨"ElbowQueue$Reader", "readPassers", "(LElbowQueue$Told;)V"⟩, prog_5_method_9_code, 7, (none : Option FieldType), 1, false),
  (3, ⟨"ElbowQueue$Reader", "byteAt", "(I)I"⟩, prog_5_method_10_code, 2, some (FieldType.int), 1, false),
  (3, ⟨"ElbowQueue$Reader", "sign", "(I)V"⟩, prog_5_method_11_code, 2, (none : Option FieldType), 1, false),
  (3, ⟨"ElbowQueue$Reader", "sort", "()I"⟩, prog_5_method_12_code, 2, some (FieldType.int), 0, false),
  (3, ⟨"ElbowQueue$Reader", "number", "(I)I"⟩, prog_5_method_13_code, 4, some (FieldType.int), 1, false),
  (3, ⟨"ElbowQueue$Reader", "isFigure", "(I)Z"⟩, prog_5_method_14_code, 1, some (FieldType.boolean), 1, true),
  (3, ⟨"ElbowQueue$Reader", "kindOf", "(I)I"⟩, prog_5_method_15_code, 1, some (FieldType.int), 1, true),
  (4, ⟨"ElbowQueue$Rows", "<init>", "()V"⟩, prog_6_method_1_code, 2, (none : Option FieldType), 0, false),
  (4, ⟨"ElbowQueue$Rows", "isNumber", "(I)Z"⟩, prog_6_method_2_code, 1, some (FieldType.boolean), 1, true),
  (4, ⟨"ElbowQueue$Rows", "isLane", "(I)Z"⟩, prog_6_method_3_code, 1, some (FieldType.boolean), 1, true),
  (4, ⟨"ElbowQueue$Rows", "isMissing", "(I)Z"⟩, prog_6_method_4_code, 2, some (FieldType.boolean), 1, false),
  (4, ⟨"ElbowQueue$Rows", "laneOf", "(I)I"⟩, prog_6_method_5_code, 2, some (FieldType.int), 1, false),
  (4, ⟨"ElbowQueue$Rows", "item", "(II)I"⟩, prog_6_method_6_code, 3, some (FieldType.int), 2, false),
  (4, ⟨"ElbowQueue$Rows", "spans", "(III)Z"⟩, prog_6_method_7_code, 4, some (FieldType.boolean), 3, false),
  (4, ⟨"ElbowQueue$Rows", "lay", "(III)V"⟩, prog_6_method_8_code, 5, (none : Option FieldType), 3, false),
  (4, ⟨"ElbowQueue$Rows", "put", "(III)I"⟩, prog_6_method_9_code, 5, some (FieldType.int), 3, false),
  (4, ⟨"ElbowQueue$Rows", "bring", "(IIIII)V"⟩, prog_6_method_10_code, 6, (none : Option FieldType), 5, false),
  (4, ⟨"ElbowQueue$Rows", "takeAway", "(I)I"⟩, prog_6_method_11_code, 3, some (FieldType.int), 1, false),
  (4, ⟨"ElbowQueue$Rows", "present", "()I"⟩, prog_6_method_12_code, 3, some (FieldType.int), 0, false),
  (5, ⟨"ElbowQueue$Told", "<init>", "()V"⟩, prog_7_method_1_code, 2, (none : Option FieldType), 0, false),
  (5, ⟨"ElbowQueue$Told", "clear", "()V"⟩, prog_7_method_2_code, 1, (none : Option FieldType), 0, false),
  (5, ⟨"ElbowQueue$Told", "add", "(IIII)V"⟩, prog_7_method_3_code, 5, (none : Option FieldType), 4, false),
  (5, ⟨"ElbowQueue$Told", "become", "(LElbowQueue$Told;)V"⟩, prog_7_method_4_code, 2, (none : Option FieldType), 1, false),
  (6, ⟨"ElbowQueue$Town", "<init>", "(LElbowQueue$Told;I)V"⟩, prog_8_method_1_code, 3, (none : Option FieldType), 2, false),
  (6, ⟨"ElbowQueue$Town", "begin", "()V"⟩, prog_8_method_2_code, 2, (none : Option FieldType), 0, false),
  (6, ⟨"ElbowQueue$Town", "become", "(LElbowQueue$Town;)V"⟩, prog_8_method_3_code, 3, (none : Option FieldType), 1, false),
  (6, ⟨"ElbowQueue$Town", "believes", "(I)I"⟩, prog_8_method_4_code, 2, some (FieldType.int), 1, false),
  (6, ⟨"ElbowQueue$Town", "hears", "(II)V"⟩, prog_8_method_5_code, 3, (none : Option FieldType), 2, false),
  (6, ⟨"ElbowQueue$Town", "whoIsAt", "(I)I"⟩, prog_8_method_6_code, 2, some (FieldType.int), 1, false),
  (6, ⟨"ElbowQueue$Town", "placeOf", "(I)I"⟩, prog_8_method_7_code, 3, some (FieldType.int), 1, false),
  (6, ⟨"ElbowQueue$Town", "howMany", "(I)I"⟩, prog_8_method_8_code, 4, some (FieldType.int), 1, false),
  (6, ⟨"ElbowQueue$Town", "hasPasserToCome", "()Z"⟩, prog_8_method_9_code, 1, some (FieldType.boolean), 0, false),
  (6, ⟨"ElbowQueue$Town", "isOver", "()Z"⟩, prog_8_method_10_code, 1, some (FieldType.boolean), 0, false),
  (6, ⟨"ElbowQueue$Town", "allBelieve", "(I)Z"⟩, prog_8_method_11_code, 3, some (FieldType.boolean), 1, false),
  (6, ⟨"ElbowQueue$Town", "hasJust", "([II)Z"⟩, prog_8_method_12_code, 4, some (FieldType.boolean), 2, false),
  (6, ⟨"ElbowQueue$Town", "minuteGoesBy", "(Z)V"⟩, prog_8_method_13_code, 2, (none : Option FieldType), 1, false),
  (6, ⟨"ElbowQueue$Town", "tellOn", "()V"⟩, prog_8_method_14_code, 4, (none : Option FieldType), 0, false),
  (6, ⟨"ElbowQueue$Town", "takesOn", "(I)Z"⟩, prog_8_method_15_code, 3, some (FieldType.boolean), 1, false),
  (6, ⟨"ElbowQueue$Town", "takeOut", "(II)V"⟩, prog_8_method_16_code, 4, (none : Option FieldType), 2, false),
  (6, ⟨"ElbowQueue$Town", "standOn", "()V"⟩, prog_8_method_17_code, 6, (none : Option FieldType), 0, false),
  (6, ⟨"ElbowQueue$Town", "bears", "(I)I"⟩, prog_8_method_18_code, 3, some (FieldType.int), 1, false),
  (6, ⟨"ElbowQueue$Town", "hoped", "(II)I"⟩, prog_8_method_19_code, 3, some (FieldType.int), 2, false),
  (6, ⟨"ElbowQueue$Town", "meetPasser", "(Z)V"⟩, prog_8_method_20_code, 3, (none : Option FieldType), 1, false),
  (6, ⟨"ElbowQueue$Town", "isWaiting", "(I)Z"⟩, prog_8_method_21_code, 2, some (FieldType.boolean), 1, false),
  (6, ⟨"ElbowQueue$Town", "join", "(I)V"⟩, prog_8_method_22_code, 2, (none : Option FieldType), 1, false),
  (6, ⟨"ElbowQueue$Town", "joinElbows", "(I)V"⟩, prog_8_method_23_code, 3, (none : Option FieldType), 1, false),
  (6, ⟨"ElbowQueue$Town", "joinersToCome", "()I"⟩, prog_8_method_24_code, 4, some (FieldType.int), 0, false),
  (7, ⟨"ElbowQueue", "<init>", "()V"⟩, prog_1_method_1_code, 2, (none : Option FieldType), 0, false),
  (7, ⟨"ElbowQueue", "row", "(III)I"⟩, prog_1_method_2_code, 4, some (FieldType.int), 3, false),
  (7, ⟨"ElbowQueue", "set", "(III)I"⟩, prog_1_method_3_code, 4, some (FieldType.int), 3, false),
  (7, ⟨"ElbowQueue", "copy", "(IIIII)I"⟩, prog_1_method_4_code, 6, some (FieldType.int), 5, false),
  (7, ⟨"ElbowQueue", "drop", "(I)I"⟩, prog_1_method_5_code, 2, some (FieldType.int), 1, false),
  (7, ⟨"ElbowQueue", "feed", "(I)I"⟩, prog_1_method_6_code, 2, some (FieldType.int), 1, false),
  (7, ⟨"ElbowQueue", "town", "()I"⟩, prog_1_method_7_code, 2, some (FieldType.int), 0, false),
  (7, ⟨"ElbowQueue", "fault", "()I"⟩, prog_1_method_8_code, 1, some (FieldType.int), 0, false),
  (7, ⟨"ElbowQueue", "minutes", "(I)I"⟩, prog_1_method_9_code, 3, some (FieldType.int), 1, false),
  (7, ⟨"ElbowQueue", "say", "(II)I"⟩, prog_1_method_10_code, 4, some (FieldType.int), 2, false),
  (7, ⟨"ElbowQueue", "go", "(I)I"⟩, prog_1_method_11_code, 3, some (FieldType.int), 1, false),
  (7, ⟨"ElbowQueue", "hatch", "(II)I"⟩, prog_1_method_12_code, 4, some (FieldType.int), 2, false),
  (7, ⟨"ElbowQueue", "undo", "()I"⟩, prog_1_method_13_code, 1, some (FieldType.int), 0, false),
  (7, ⟨"ElbowQueue", "person", "(II)I"⟩, prog_1_method_14_code, 3, some (FieldType.int), 2, false),
  (7, ⟨"ElbowQueue", "place", "(I)I"⟩, prog_1_method_15_code, 2, some (FieldType.int), 1, false),
  (7, ⟨"ElbowQueue", "ahead", "(II)I"⟩, prog_1_method_16_code, 3, some (FieldType.int), 2, false),
  (7, ⟨"ElbowQueue", "order", "(II)I"⟩, prog_1_method_17_code, 3, some (FieldType.int), 2, false),
  (7, ⟨"ElbowQueue", "lives", "()I"⟩, prog_1_method_18_code, 1, some (FieldType.int), 0, false),
  (7, ⟨"ElbowQueue", "words", "(II)I"⟩, prog_1_method_19_code, 4, some (FieldType.int), 2, false),
  (7, ⟨"ElbowQueue", "served", "(II)I"⟩, prog_1_method_20_code, 3, some (FieldType.int), 2, false),
  (7, ⟨"ElbowQueue", "spread", "(I)I"⟩, prog_1_method_21_code, 2, some (FieldType.int), 1, false),
  (7, ⟨"ElbowQueue", "elbows", "(I)I"⟩, prog_1_method_22_code, 2, some (FieldType.int), 1, false),
  (7, ⟨"ElbowQueue", "grows", "(IIII)I"⟩, prog_1_method_23_code, 5, some (FieldType.int), 4, false),
  (7, ⟨"ElbowQueue", "opens", "(II)I"⟩, prog_1_method_24_code, 3, some (FieldType.int), 2, false),
  (7, ⟨"ElbowQueue", "seen", "(III)I"⟩, prog_1_method_25_code, 6, some (FieldType.int), 3, false),
  (7, ⟨"ElbowQueue", "image", "(I)I"⟩, prog_1_method_26_code, 2, some (FieldType.int), 1, false),
  (7, ⟨"ElbowQueue", "restore", "(I)I"⟩, prog_1_method_27_code, 2, some (FieldType.int), 1, false),
  (7, ⟨"ElbowQueue", "kind", "(I)I"⟩, prog_1_method_28_code, 2, some (FieldType.int), 1, false),
  (7, ⟨"ElbowQueue", "as", "(II)I"⟩, prog_1_method_29_code, 3, some (FieldType.int), 2, false),
  (7, ⟨"ElbowQueue", "ask", "(II)I"⟩, prog_1_method_30_code, 3, some (FieldType.int), 2, false),
  (7, ⟨"ElbowQueue", "trace", "(I)I"⟩, prog_1_method_31_code, 2, some (FieldType.int), 1, false),
  (7, ⟨"ElbowQueue", "count", "(I)I"⟩, prog_1_method_32_code, 2, some (FieldType.int), 1, false),
  (7, ⟨"ElbowQueue", "status", "()I"⟩, prog_1_method_33_code, 1, some (FieldType.int), 0, false),
  (7, ⟨"ElbowQueue", "within", "(II)Z"⟩, prog_1_method_34_code, 2, some (FieldType.boolean), 2, true),
  (7, ⟨"ElbowQueue", "isPerson", "(I)Z"⟩, prog_1_method_35_code, 2, some (FieldType.boolean), 1, false),
  (7, ⟨"ElbowQueue", "found", "(I)I"⟩, prog_1_method_36_code, 2, some (FieldType.int), 1, false),
  (7, ⟨"ElbowQueue", "fine", "(I)I"⟩, prog_1_method_37_code, 2, some (FieldType.int), 1, false),
  (8, ⟨"ElbowQueueModel", "<init>", "()V"⟩, prog_10_method_1_code, 1, (none : Option FieldType), 0, false),
  (8, ⟨"ElbowQueueModel", "in", "(JJJ)Z"⟩, prog_10_method_3_code, 6, some (FieldType.boolean), 3, true),
  (8, ⟨"ElbowQueueModel", "found", "(I)I"⟩, prog_10_method_4_code, 2, some (FieldType.int), 1, false),
  (8, ⟨"ElbowQueueModel", "well", "(I)I"⟩, prog_10_method_5_code, 2, some (FieldType.int), 1, false),
  (8, ⟨"ElbowQueueModel", "isRow", "(I)Z"⟩, prog_10_method_6_code, 1, some (FieldType.boolean), 1, true),
  (8, ⟨"ElbowQueueModel", "row", "(III)I"⟩, prog_10_method_7_code, 5, some (FieldType.int), 3, false),
  (8, ⟨"ElbowQueueModel", "set", "(III)I"⟩, prog_10_method_8_code, 5, some (FieldType.int), 3, false),
  (8, ⟨"ElbowQueueModel", "copy", "(IIIII)I"⟩, prog_10_method_9_code, 7, some (FieldType.int), 5, false),
  (8, ⟨"ElbowQueueModel", "drop", "(I)I"⟩, prog_10_method_10_code, 2, some (FieldType.int), 1, false),
  (8, ⟨"ElbowQueueModel", "feed", "(I)I"⟩, prog_10_method_11_code, 2, some (FieldType.int), 1, false),
  (8, ⟨"ElbowQueueModel", "byteAt", "(I)I"⟩, prog_10_method_12_code, 2, some (FieldType.int), 1, false),
  (8, ⟨"ElbowQueueModel", "isFigure", "(I)Z"⟩, prog_10_method_13_code, 1, some (FieldType.boolean), 1, true),
  (8, ⟨"ElbowQueueModel", "sign", "(I)I"⟩, prog_10_method_14_code, 3, some (FieldType.int), 1, false),
  (8, ⟨"ElbowQueueModel", "number", "(I)I"⟩, prog_10_method_15_code, 4, some (FieldType.int), 1, false),
  (8, ⟨"ElbowQueueModel", "sortOf", "(I)I"⟩, prog_10_method_16_code, 1, some (FieldType.int), 1, true),
  (8, ⟨"ElbowQueueModel", "readOne", "(I)I"⟩, prog_10_method_17_code, 3, some (FieldType.int), 1, false),
  (8, ⟨"ElbowQueueModel", "readWaiter", "()I"⟩, prog_10_method_18_code, 3, some (FieldType.int), 0, false),
  (8, ⟨"ElbowQueueModel", "readPasser", "()I"⟩, prog_10_method_19_code, 3, some (FieldType.int), 0, false),
  (8, ⟨"ElbowQueueModel", "readTown", "()I"⟩, prog_10_method_20_code, 3, some (FieldType.int), 0, false),
  (8, ⟨"ElbowQueueModel", "town", "()I"⟩, prog_10_method_21_code, 3, some (FieldType.int), 0, false),
  (8, ⟨"ElbowQueueModel", "fault", "()I"⟩, prog_10_method_22_code, 1, some (FieldType.int), 0, false),
  (8, ⟨"ElbowQueueModel", "people", "()I"⟩, prog_10_method_23_code, 1, some (FieldType.int), 0, false),
  (8, ⟨"ElbowQueueModel", "isPerson", "(I)Z"⟩, prog_10_method_24_code, 2, some (FieldType.boolean), 1, false),
  (8, ⟨"ElbowQueueModel", "isTown", "()Z"⟩, prog_10_method_25_code, 1, some (FieldType.boolean), 0, false),
  (8, ⟨"ElbowQueueModel", "isFirstOne", "(I)Z"⟩, prog_10_method_26_code, 2, some (FieldType.boolean), 1, false),
  (8, ⟨"ElbowQueueModel", "believes", "(I)I"⟩, prog_10_method_27_code, 2, some (FieldType.int), 1, false),
  (8, ⟨"ElbowQueueModel", "takesOn", "(I)Z"⟩, prog_10_method_28_code, 3, some (FieldType.boolean), 1, false),
  (8, ⟨"ElbowQueueModel", "tellOn", "()V"⟩, prog_10_method_29_code, 3, (none : Option FieldType), 0, false),
  (8, ⟨"ElbowQueueModel", "outOf", "(I)V"⟩, prog_10_method_30_code, 3, (none : Option FieldType), 1, false),
  (8, ⟨"ElbowQueueModel", "bears", "(I)I"⟩, prog_10_method_31_code, 5, some (FieldType.int), 1, false),
  (8, ⟨"ElbowQueueModel", "leave", "()V"⟩, prog_10_method_32_code, 5, (none : Option FieldType), 0, false),
  (8, ⟨"ElbowQueueModel", "join", "(I)V"⟩, prog_10_method_33_code, 2, (none : Option FieldType), 1, false),
  (8, ⟨"ElbowQueueModel", "goMinute", "(Z)V"⟩, prog_10_method_34_code, 3, (none : Option FieldType), 1, false),
  (8, ⟨"ElbowQueueModel", "keepAct", "()V"⟩, prog_10_method_35_code, 2, (none : Option FieldType), 0, false),
  (8, ⟨"ElbowQueueModel", "minutes", "(I)I"⟩, prog_10_method_36_code, 3, some (FieldType.int), 1, false),
  (8, ⟨"ElbowQueueModel", "isInQueue", "(I)Z"⟩, prog_10_method_37_code, 2, some (FieldType.boolean), 1, false),
  (8, ⟨"ElbowQueueModel", "tellOne", "(II)V"⟩, prog_10_method_38_code, 3, (none : Option FieldType), 2, false),
  (8, ⟨"ElbowQueueModel", "say", "(II)I"⟩, prog_10_method_39_code, 4, some (FieldType.int), 2, false),
  (8, ⟨"ElbowQueueModel", "placeOf", "(I)I"⟩, prog_10_method_40_code, 4, some (FieldType.int), 1, false),
  (8, ⟨"ElbowQueueModel", "go", "(I)I"⟩, prog_10_method_41_code, 2, some (FieldType.int), 1, false),
  (8, ⟨"ElbowQueueModel", "hatch", "(II)I"⟩, prog_10_method_42_code, 4, some (FieldType.int), 2, false),
  (8, ⟨"ElbowQueueModel", "undo", "()I"⟩, prog_10_method_43_code, 2, some (FieldType.int), 0, false),
  (8, ⟨"ElbowQueueModel", "person", "(II)I"⟩, prog_10_method_44_code, 3, some (FieldType.int), 2, false),
  (8, ⟨"ElbowQueueModel", "place", "(I)I"⟩, prog_10_method_45_code, 2, some (FieldType.int), 1, false),
  (8, ⟨"ElbowQueueModel", "start", "()V"⟩, prog_10_method_46_code, 2, (none : Option FieldType), 0, false),
  (8, ⟨"ElbowQueueModel", "back", "()V"⟩, prog_10_method_47_code, 2, (none : Option FieldType), 0, false),
  (8, ⟨"ElbowQueueModel", "goMinutes", "(I)V"⟩, prog_10_method_48_code, 3, (none : Option FieldType), 1, false),
  (8, ⟨"ElbowQueueModel", "howMany", "(I)I"⟩, prog_10_method_49_code, 4, some (FieldType.int), 1, false),
  (8, ⟨"ElbowQueueModel", "ahead", "(II)I"⟩, prog_10_method_50_code, 4, some (FieldType.int), 2, false),
  (8, ⟨"ElbowQueueModel", "order", "(II)I"⟩, prog_10_method_51_code, 4, some (FieldType.int), 2, false),
  (8, ⟨"ElbowQueueModel", "goLives", "()I"⟩, prog_10_method_52_code, 2, some (FieldType.int), 0, false),
  (8, ⟨"ElbowQueueModel", "lives", "()I"⟩, prog_10_method_53_code, 2, some (FieldType.int), 0, false),
  (8, ⟨"ElbowQueueModel", "words", "(II)I"⟩, prog_10_method_54_code, 8, some (FieldType.int), 2, false),
  (8, ⟨"ElbowQueueModel", "served", "(II)I"⟩, prog_10_method_55_code, 6, some (FieldType.int), 2, false),
  (8, ⟨"ElbowQueueModel", "allBelieve", "(I)Z"⟩, prog_10_method_56_code, 4, some (FieldType.boolean), 1, false),
  (8, ⟨"ElbowQueueModel", "spread", "(I)I"⟩, prog_10_method_57_code, 4, some (FieldType.int), 1, false),
  (8, ⟨"ElbowQueueModel", "joinElbows", "(I)V"⟩, prog_10_method_58_code, 4, (none : Option FieldType), 1, false),
  (8, ⟨"ElbowQueueModel", "passersIn", "()I"⟩, prog_10_method_59_code, 3, some (FieldType.int), 0, false),
  (8, ⟨"ElbowQueueModel", "elbows", "(I)I"⟩, prog_10_method_60_code, 4, some (FieldType.int), 1, false),
  (8, ⟨"ElbowQueueModel", "common", "(II)I"⟩, prog_10_method_61_code, 5, some (FieldType.int), 2, true),
  (8, ⟨"ElbowQueueModel", "power", "(II)I"⟩, prog_10_method_62_code, 4, some (FieldType.int), 2, true),
  (8, ⟨"ElbowQueueModel", "bits", "(I)I"⟩, prog_10_method_63_code, 3, some (FieldType.int), 1, true),
  (8, ⟨"ElbowQueueModel", "grows", "(IIII)I"⟩, prog_10_method_64_code, 10, some (FieldType.int), 4, false),
  (8, ⟨"ElbowQueueModel", "opens", "(II)I"⟩, prog_10_method_65_code, 8, some (FieldType.int), 2, false),
  (8, ⟨"ElbowQueueModel", "isSeen", "(III)Z"⟩, prog_10_method_66_code, 6, some (FieldType.boolean), 3, false),
  (8, ⟨"ElbowQueueModel", "seen", "(III)I"⟩, prog_10_method_67_code, 7, some (FieldType.int), 3, false),
  (8, ⟨"ElbowQueueModel", "image", "(I)I"⟩, prog_10_method_68_code, 3, some (FieldType.int), 1, false),
  (8, ⟨"ElbowQueueModel", "restore", "(I)I"⟩, prog_10_method_69_code, 3, some (FieldType.int), 1, false),
  (8, ⟨"ElbowQueueModel", "kind", "(I)I"⟩, prog_10_method_70_code, 2, some (FieldType.int), 1, false),
  (8, ⟨"ElbowQueueModel", "above", "(I)I"⟩, prog_10_method_71_code, 1, some (FieldType.int), 1, true),
  (8, ⟨"ElbowQueueModel", "as", "(II)I"⟩, prog_10_method_72_code, 4, some (FieldType.int), 2, false),
  (8, ⟨"ElbowQueueModel", "note", "(I)V"⟩, prog_10_method_73_code, 2, (none : Option FieldType), 1, false),
  (8, ⟨"ElbowQueueModel", "plainSize", "(I)I"⟩, prog_10_method_74_code, 2, some (FieldType.int), 1, false),
  (8, ⟨"ElbowQueueModel", "firstSize", "(I)I"⟩, prog_10_method_75_code, 2, some (FieldType.int), 1, false),
  (8, ⟨"ElbowQueueModel", "sizeOfFirst", "(I)I"⟩, prog_10_method_76_code, 2, some (FieldType.int), 1, false),
  (8, ⟨"ElbowQueueModel", "believerSize", "(I)I"⟩, prog_10_method_77_code, 3, some (FieldType.int), 1, false),
  (8, ⟨"ElbowQueueModel", "size", "(I)I"⟩, prog_10_method_78_code, 2, some (FieldType.int), 1, false),
  (8, ⟨"ElbowQueueModel", "plainMark", "(I)I"⟩, prog_10_method_79_code, 2, some (FieldType.int), 1, false),
  (8, ⟨"ElbowQueueModel", "believerMark", "(I)I"⟩, prog_10_method_80_code, 2, some (FieldType.int), 1, false),
  (8, ⟨"ElbowQueueModel", "mark", "(I)I"⟩, prog_10_method_81_code, 3, some (FieldType.int), 1, false),
  (8, ⟨"ElbowQueueModel", "ask", "(II)I"⟩, prog_10_method_82_code, 3, some (FieldType.int), 2, false),
  (8, ⟨"ElbowQueueModel", "trace", "(I)I"⟩, prog_10_method_83_code, 2, some (FieldType.int), 1, false),
  (8, ⟨"ElbowQueueModel", "rows", "()I"⟩, prog_10_method_84_code, 3, some (FieldType.int), 0, false),
  (8, ⟨"ElbowQueueModel", "count", "(I)I"⟩, prog_10_method_85_code, 2, some (FieldType.int), 1, false),
  (8, ⟨"ElbowQueueModel", "status", "()I"⟩, prog_10_method_86_code, 1, some (FieldType.int), 0, false)]
def poolF : List (Nat × Nat × Nat) := [(4011, 4, 0), (4014, 4, 1), (4018, 4, 2), (3011, 3, 0), (3015, 3, 1), (3019, 3, 2), (3022, 3, 3), (5009, 5, 0), (6074, 5, 0), (1035, 5, 0), (7262, 5, 0), (5015, 5, 1), (7211, 5, 1), (6107, 5, 1), (5018, 5, 2), (6057, 5, 2), (5021, 5, 3), (6113, 5, 3), (5024, 5, 4), (6035, 5, 4), (3048, 5, 4), (5028, 5, 5), (6041, 5, 5), (3051, 5, 5), (5031, 5, 6), (6048, 5, 6), (3067, 5, 6), (7276, 5, 6), (5034, 5, 7), (6054, 5, 7), (7157, 5, 7), (3064, 5, 7), (6009, 6, 0), (6015, 6, 1), (6019, 6, 2), (6022, 6, 3), (2055, 6, 3), (7178, 6, 3), (6025, 6, 4), (1062, 6, 4), (7208, 6, 4), (6028, 6, 5), (7214, 6, 5), (6031, 6, 6), (7161, 6, 6), (6040, 6, 7), (7196, 6, 7), (6044, 6, 8), (7199, 6, 8), (2108, 6, 8), (6045, 6, 9), (7172, 6, 9), (2093, 6, 9), (6051, 6, 10), (13, 0, 0), (24, 0, 1), (20, 0, 2), (2009, 2, 0), (7254, 2, 0), (2015, 2, 1), (2024, 2, 2), (2027, 2, 3), (2030, 2, 4), (1015, 1, 0), (1019, 1, 1), (1011, 1, 2), (1026, 1, 3), (7010, 7, 0), (7019, 7, 1), (7026, 7, 2), (7030, 7, 3), (7038, 7, 4), (7047, 7, 5), (7056, 7, 6), (7063, 7, 7), (7067, 7, 8), (7071, 7, 9), (7075, 7, 10), (7153, 7, 11), (7135, 7, 12), (7282, 7, 13), (8007, 8, 0), (8013, 8, 1), (8016, 8, 2), (8020, 8, 3), (8129, 8, 4), (8023, 8, 5), (8056, 8, 6), (8026, 8, 7), (8029, 8, 8), (8032, 8, 9), (8035, 8, 10), (8038, 8, 11), (8041, 8, 12), (8083, 8, 13), (8125, 8, 14), (8091, 8, 15), (8097, 8, 16), (8044, 8, 17), (8047, 8, 18), (8050, 8, 19), (8053, 8, 20), (8240, 8, 21)]
def poolM : List (Nat × Nat) := [(7001, 1001), (7009, 44), (4001, 1001), (3003, 1001), (7025, 56), (5003, 1001), (7035, 60), (6003, 1001), (7044, 0), (3, 1001), (17, 60), (7053, 13), (2003, 1001), (2021, 60), (7062, 5), (1003, 1001), (7079, 45), (7083, 46), (7087, 119), (7091, 51), (7095, 120), (7098, 47), (7101, 50), (7105, 52), (7109, 48), (7112, 53), (4021, 1000), (7116, 54), (7119, 117), (7123, 30), (7128, 31), (7131, 34), (3025, 57), (3030, 35), (3040, 39), (3054, 38), (3044, 41), (3074, 42), (3034, 36), (3057, 43), (3060, 58), (3037, 37), (3070, 40), (7140, 33), (7144, 59), (5037, 1000), (7147, 61), (6058, 81), (7150, 2), (7164, 3), (27, 62), (6062, 1003), (6068, 1000), (31, 1003), (7168, 72), (6086, 73), (6082, 63), (6100, 74), (6089, 75), (6093, 76), (6104, 77), (6110, 78), (6096, 79), (6078, 68), (7175, 118), (7182, 63), (7185, 64), (7189, 66), (7193, 75), (7202, 1), (7205, 4), (7217, 65), (7220, 15), (2042, 62), (2046, 14), (2034, 69), (2038, 72), (7224, 67), (7227, 18), (2066, 16), (2050, 17), (2058, 70), (2062, 71), (7230, 22), (2070, 64), (7234, 19), (7238, 20), (7241, 23), (2074, 82), (2078, 83), (6116, 72), (6119, 80), (7244, 24), (2082, 25), (2097, 68), (2100, 26), (2088, 27), (7248, 28), (2104, 67), (7251, 49), (7257, 21), (7260, 62), (7265, 6), (7268, 8), (1031, 9), (1040, 10), (1047, 1002), (1044, 11), (1058, 12), (1067, 63), (7270, 7), (7273, 55), (7279, 32), (8001, 1001), (8067, 125), (8063, 122), (8074, 123), (8078, 124), (8122, 139), (8109, 133), (8094, 131), (8106, 134), (8100, 132), (8115, 138), (8112, 136), (8103, 135), (8119, 137), (8132, 142), (8157, 144), (8164, 154), (8167, 153), (8148, 148), (8135, 146), (8138, 147), (8144, 149), (8151, 151), (8141, 150), (8154, 152), (8171, 143), (8176, 156), (8179, 157), (8184, 159), (8193, 165), (8196, 167), (8199, 168), (8202, 166), (8205, 171), (8208, 175), (8213, 177), (8216, 178), (8223, 182), (8226, 181), (8230, 180), (8233, 185), (8237, 190), (8270, 197), (8255, 145), (8258, 195), (8243, 192), (8249, 194), (8246, 193), (8261, 196), (8252, 200), (8267, 199), (8264, 198), (8273, 203), (7018, 29)]
def poolC : List (Nat × Int) := [(7086, (-1000001)), (7285, (-1000010)), (7127, (-1000003)), (7139, (-1000100)), (7160, (-1000002)), (6077, (-1000000)), (7192, (-1000000)), (2054, (-1000000)), (2092, (-1000001)), (1030, (-1000000)), (8073, (-1000001)), (8060, (-1000010)), (8086, (-1000003)), (8128, (-1000100)), (8161, (-1000002)), (8183, (-1000000))]
def poolL : List (Nat × Int) := [(2086, 10), (8061, 7), (8071, 2), (8081, 255), (8087, 48), (8089, 57), (8162, 20), (8174, 3), (8187, 9), (8189, 5), (8191, 60), (8211, 8), (8219, 16), (8221, 10)]
def poolK : List (Nat × Nat) := [(7007, 4), (4009, 22), (7016, 3), (7023, 5), (7033, 6), (7042, 0), (11, 6), (7051, 2), (2019, 6), (7060, 1)]
def poolS : List (Nat × Nat) := [(1023, 0), (1052, 1), (1055, 2)]
/-! THE LITTLE MACHINE: ints are Int (a step that would leave 32 bits is stuck), an address is a place in a list of shapes, what the cells hold is one function -/
abbrev Vv : Type := Int ⊕ (Int ⊕ Option Nat)
abbrev vI (x : Int) : Vv := .inl x
abbrev vL (x : Int) : Vv := .inr (.inl x)
abbrev vR (r : Option Nat) : Vv := .inr (.inr r)
/-- kind (0..8 a class; 20 int[], 21 boolean[], 22 int[][], 23 Told[], 24 Town[]), length, references -/
abbrev Sh : Type := Nat × Nat × List (Option Nat)
abbrev Mem : Type := Nat → Int → Int
abbrev inR (x : Int) : Prop := -2147483648 ≤ x ∧ x ≤ 2147483647
abbrev inL (x : Int) : Prop := -9223372036854775808 ≤ x ∧ x ≤ 9223372036854775807
def mu (M : Mem) (a : Nat) (i v : Int) : Mem := fun b j => if b = a ∧ j = i then v else M b j
/-- all of one cell 0 -/
def mz (M : Mem) (a : Nat) : Mem := fun b j => if b = a then 0 else M b j
/-- all cells from a on 0 -/
def mzs (M : Mem) (a : Nat) : Mem := fun b j => if a ≤ b then 0 else M b j
def mcp (M : Mem) (a : Nat) (sp : Int) (b : Nat) (dp n : Int) : Mem := fun c j => if c = b ∧ dp ≤ j ∧ j < dp + n then M a (sp + (j - dp)) else M c j
def mOwn (mid : Nat) : Nat := (mT.getD mid (0, ⟨"", "", ""⟩, ⟨#[]⟩, 0, none, 0, false)).1
def mY (mid : Nat) : MethodName := (mT.getD mid (0, ⟨"", "", ""⟩, ⟨#[]⟩, 0, none, 0, false)).2.1
def mB (mid : Nat) : ByteArray := (mT.getD mid (0, ⟨"", "", ""⟩, ⟨#[]⟩, 0, none, 0, false)).2.2.1
def mL (mid : Nat) : Nat := (mT.getD mid (0, ⟨"", "", ""⟩, ⟨#[]⟩, 0, none, 0, false)).2.2.2.1
def mR (mid : Nat) : Option FieldType := (mT.getD mid (0, ⟨"", "", ""⟩, ⟨#[]⟩, 0, none, 0, false)).2.2.2.2.1
def mP (mid : Nat) : Nat := (mT.getD mid (0, ⟨"", "", ""⟩, ⟨#[]⟩, 0, none, 0, false)).2.2.2.2.2.1
def mS (mid : Nat) : Bool := (mT.getD mid (0, ⟨"", "", ""⟩, ⟨#[]⟩, 0, none, 0, false)).2.2.2.2.2.2
def lk {α : Type} : List (Nat × α) → Nat → Option α
  | [], _ => none
  | (k, v) :: r, x => if k = x then some v else lk r x
def sT : Nat → List Int := fun j => match j with
  | 0 => [-1, 0, 1, 1, 0, 4]
  | 1 => [10, 11, 12, 0, 13, 14]
  | _ => [20, 21, 24, 22, 23, 0]
/-- of a class's field: 0 int, 1 a reference, 2 boolean -/
def fT : List (List Nat) := [[1, 0, 0], [1, 1, 1, 0], [1, 1, 1, 1, 1], [1, 0, 0, 0], [1, 1, 1], [1, 1, 1, 1, 0, 0, 0, 0], [1, 1, 1, 1, 1, 1, 0, 0, 0, 0, 0], [1, 1, 1, 1, 1, 1, 1, 1, 1, 1, 1, 2, 0, 0], [1, 1, 1, 1, 0, 1, 0, 1, 1, 1, 1, 1, 1, 0, 0, 0, 0, 1, 1, 1, 1, 0]]
/-- is it final -/
def fF : List (List Bool) := [[true, false, false], [true, true, true, false], [true, true, true, true, true], [true, false, false, false], [true, true, true], [true, true, true, true, false, false, false, false], [true, true, true, true, true, true, false, false, false, false, false], [true, true, true, true, true, true, true, true, true, true, true, false, false, false], [true, true, true, true, false, true, false, true, true, true, true, true, true, false, false, false, false, true, true, true, true, false]]
def fty (ci k : Nat) : Nat := (fT.getD ci []).getD k 9
def ffi (ci k : Nat) : Bool := (fF.getD ci []).getD k true
def fnum (ci : Nat) : Nat := (fT.getD ci []).length
abbrev Lv : Type := List (Option Vv)
abbrev Cfg : Type := Nat × Lv × List Vv × List Sh × Mem
abbrev Act : Type := Cfg ⊕ ((Nat × List Vv × List Vv) ⊕ Option Vv)
def go (pc : Nat) (ls : Lv) (st : List Vv) (S : List Sh) (M : Mem) : Option Act := some (.inl (pc, ls, st, S, M))
def isL (v : Vv) : Bool := match v with
  | .inr (.inl _) => true
  | _ => false
def cat (v : Vv) : Nat := if isL v then 2 else 1
def catS (st : List Vv) : Nat := (st.map cat).sum
def prevL (ls : Lv) (k : Nat) : Bool := match k with
  | 0 => false
  | j + 1 => match ls[j]? with
    | some (some v) => isL v
    | _ => false
def st1 (ls : Lv) (k : Nat) (v : Vv) : Option Lv := if k < ls.length ∧ prevL ls k = false then some (ls.set k (some v)) else none
def st2 (ls : Lv) (k : Nat) (v : Vv) : Option Lv := if k + 1 < ls.length ∧ prevL ls k = false then some ((ls.set k (some v)).set (k + 1) none) else none
def pI (pc : Nat) (ls : Lv) (st : List Vv) (S : List Sh) (M : Mem) (x : Int) : Option Act := if inR x then go pc ls (vI x :: st) S M else none
def pL (pc : Nat) (ls : Lv) (st : List Vv) (S : List Sh) (M : Mem) (x : Int) : Option Act := if inL x then go pc ls (vL x :: st) S M else none
def jmp (pc : Nat) (off : Int) (ls : Lv) (st : List Vv) (S : List Sh) (M : Mem) : Option Act := if 0 ≤ (pc : Int) + off then go ((pc : Int) + off).toNat ls st S M else none
def br (b : Bool) (pc : Nat) (off : Int) (ls : Lv) (st : List Vv) (S : List Sh) (M : Mem) : Option Act := if 0 ≤ (pc : Int) + off then (if b then go ((pc : Int) + off).toNat ls st S M else go (pc + 3) ls st S M) else none
def ldI (pc : Nat) (k : Nat) (ls : Lv) (st : List Vv) (S : List Sh) (M : Mem) : Option Act := match ls[k]? with
  | some (some (.inl x)) => go pc ls (vI x :: st) S M
  | _ => none
def ldL (pc : Nat) (k : Nat) (ls : Lv) (st : List Vv) (S : List Sh) (M : Mem) : Option Act := match ls[k]? with
  | some (some (.inr (.inl x))) => go pc ls (vL x :: st) S M
  | _ => none
def ldA (pc : Nat) (k : Nat) (ls : Lv) (st : List Vv) (S : List Sh) (M : Mem) : Option Act := match ls[k]? with
  | some (some (.inr (.inr (some r)))) => go pc ls (vR (some r) :: st) S M
  | _ => none
def stI (pc : Nat) (k : Nat) (ls : Lv) (st : List Vv) (S : List Sh) (M : Mem) : Option Act := match st with
  | .inl x :: rest => (match st1 ls k (vI x) with
    | some ls' => go pc ls' rest S M
    | none => none)
  | _ => none
def stL (pc : Nat) (k : Nat) (ls : Lv) (st : List Vv) (S : List Sh) (M : Mem) : Option Act := match st with
  | .inr (.inl x) :: rest => (match st2 ls k (vL x) with
    | some ls' => go pc ls' rest S M
    | none => none)
  | _ => none
def stA (pc : Nat) (k : Nat) (ls : Lv) (st : List Vv) (S : List Sh) (M : Mem) : Option Act := match st with
  | .inr (.inr (some r)) :: rest => (match st1 ls k (vR (some r)) with
    | some ls' => go pc ls' rest S M
    | none => none)
  | _ => none
def bI (pc : Nat) (ls : Lv) (st : List Vv) (S : List Sh) (M : Mem) (f : Int → Int → Option Int) : Option Act := match st with
  | .inl y :: .inl x :: rest => (match f x y with
    | some z => pI pc ls rest S M z
    | none => none)
  | _ => none
def bL (pc : Nat) (ls : Lv) (st : List Vv) (S : List Sh) (M : Mem) (f : Int → Int → Option Int) : Option Act := match st with
  | .inr (.inl y) :: .inr (.inl x) :: rest => (match f x y with
    | some z => pL pc ls rest S M z
    | none => none)
  | _ => none
def uI (pc : Nat) (ls : Lv) (st : List Vv) (S : List Sh) (M : Mem) (f : Int → Int) : Option Act := match st with
  | .inl x :: rest => pI pc ls rest S M (f x)
  | _ => none
def cI (pc : Nat) (off : Int) (ls : Lv) (st : List Vv) (S : List Sh) (M : Mem) (f : Int → Int → Bool) : Option Act := match st with
  | .inl y :: .inl x :: rest => br (f x y) pc off ls rest S M
  | _ => none
def c0 (pc : Nat) (off : Int) (ls : Lv) (st : List Vv) (S : List Sh) (M : Mem) (f : Int → Bool) : Option Act := match st with
  | .inl x :: rest => br (f x) pc off ls rest S M
  | _ => none
def aGetf (key pc : Nat) (ls : Lv) (st : List Vv) (S : List Sh) (M : Mem) : Option Act := match st, lk poolF key with
  | .inr (.inr (some a)) :: rest, some (ci, k) => (match S[a]? with
    | some (kd, _, rf) => if kd = ci ∧ k < fnum ci then (if fty ci k = 1 then go (pc + 3) ls (vR (rf.getD k none) :: rest) S M else go (pc + 3) ls (vI (M a k) :: rest) S M) else none
    | none => none)
  | _, _ => none
def aPutf (own : Nat) (ini : Bool) (key pc : Nat) (ls : Lv) (st : List Vv) (S : List Sh) (M : Mem) : Option Act := match st, lk poolF key with
  | v :: .inr (.inr (some a)) :: rest, some (ci, k) => (match S[a]? with
    | some (kd, n, rf) => if kd = ci ∧ k < fnum ci ∧ (ffi ci k = false ∨ (ini = true ∧ own = ci)) then (match v with
        | .inl x => if fty ci k = 0 ∨ (fty ci k = 2 ∧ (x = 0 ∨ x = 1)) then go (pc + 3) ls rest S (mu M a k x) else none
        | .inr (.inr (some r)) => if fty ci k = 1 ∧ k < rf.length then go (pc + 3) ls rest (S.set a (kd, n, rf.set k (some r))) M else none
        | _ => none) else none
    | none => none)
  | _, _ => none
def aIald (pc : Nat) (ls : Lv) (st : List Vv) (S : List Sh) (M : Mem) : Option Act := match st with
  | .inl i :: .inr (.inr (some a)) :: rest => if 0 ≤ i then (if 1000000 ≤ a then (if a < 1000003 then (match (sT (a - 1000000))[i.toNat]? with
      | some x => go (pc + 1) ls (vI x :: rest) S M
      | none => none) else none) else (match S[a]? with
    | some (kd, n, _) => if kd = 20 ∧ i < n then go (pc + 1) ls (vI (M a i) :: rest) S M else none
    | none => none)) else none
  | _ => none
def aIast (pc : Nat) (ls : Lv) (st : List Vv) (S : List Sh) (M : Mem) : Option Act := match st with
  | .inl x :: .inl i :: .inr (.inr (some a)) :: rest => (match S[a]? with
    | some (kd, n, _) => if kd = 20 ∧ 0 ≤ i ∧ i < n then go (pc + 1) ls rest S (mu M a i x) else none
    | none => none)
  | _ => none
def aBald (pc : Nat) (ls : Lv) (st : List Vv) (S : List Sh) (M : Mem) : Option Act := match st with
  | .inl i :: .inr (.inr (some a)) :: rest => (match S[a]? with
    | some (kd, n, _) => if kd = 21 ∧ 0 ≤ i ∧ i < n then go (pc + 1) ls (vI (M a i) :: rest) S M else none
    | none => none)
  | _ => none
def aBast (pc : Nat) (ls : Lv) (st : List Vv) (S : List Sh) (M : Mem) : Option Act := match st with
  | .inl x :: .inl i :: .inr (.inr (some a)) :: rest => (match S[a]? with
    | some (kd, n, _) => if kd = 21 ∧ 0 ≤ i ∧ i < n ∧ (x = 0 ∨ x = 1) then go (pc + 1) ls rest S (mu M a i x) else none
    | none => none)
  | _ => none
def aAald (pc : Nat) (ls : Lv) (st : List Vv) (S : List Sh) (M : Mem) : Option Act := match st with
  | .inl i :: .inr (.inr (some a)) :: rest => (match S[a]? with
    | some (kd, n, rf) => if (kd = 22 ∨ kd = 23 ∨ kd = 24) ∧ 0 ≤ i ∧ i < n then go (pc + 1) ls (vR (rf.getD i.toNat none) :: rest) S M else none
    | none => none)
  | _ => none
def aAast (pc : Nat) (ls : Lv) (st : List Vv) (S : List Sh) (M : Mem) : Option Act := match st with
  | .inr (.inr (some v)) :: .inl i :: .inr (.inr (some a)) :: rest => (match S[a]?, S[v]? with
    | some (kd, n, rf), some (kv, _, _) => if ((kd = 23 ∧ kv = 5) ∨ (kd = 24 ∧ kv = 6)) ∧ 0 ≤ i ∧ i < n ∧ i.toNat < rf.length then go (pc + 1) ls rest (S.set a (kd, n, rf.set i.toNat (some v))) M else none
    | _, _ => none)
  | _ => none
def aAlen (pc : Nat) (ls : Lv) (st : List Vv) (S : List Sh) (M : Mem) : Option Act := match st with
  | .inr (.inr (some a)) :: rest => (match S[a]? with
    | some (kd, n, _) => if 20 ≤ kd ∧ kd ≤ 24 ∧ n < 2147483648 then go (pc + 1) ls (vI n :: rest) S M else none
    | none => none)
  | _ => none
def aNewa (kd pc : Nat) (ls : Lv) (st : List Vv) (S : List Sh) (M : Mem) : Option Act := match st with
  | .inl n :: rest => if 0 ≤ n ∧ n ≤ 10000 ∧ S.length < 1000000 then go (pc + 2) ls (vR (some S.length) :: rest) (S ++ [(kd, n.toNat, [])]) (mzs M S.length) else none
  | _ => none
def aNewq (key pc : Nat) (ls : Lv) (st : List Vv) (S : List Sh) (M : Mem) : Option Act := match st, lk poolK key with
  | .inl n :: rest, some ci => if 0 ≤ n ∧ n ≤ 10000 ∧ (ci = 5 ∨ ci = 6) ∧ S.length < 1000000 then go (pc + 3) ls (vR (some S.length) :: rest) (S ++ [(ci + 18, n.toNat, List.replicate n.toNat none)]) (mzs M S.length) else none
  | _, _ => none
def aNewm (key pc : Nat) (ls : Lv) (st : List Vv) (S : List Sh) (M : Mem) : Option Act := match st, lk poolK key with
  | .inl k :: .inl n :: rest, some ci => if 0 ≤ n ∧ n ≤ 10000 ∧ 0 ≤ k ∧ k ≤ 10000 ∧ ci = 22 ∧ S.length + n.toNat < 1000000 then go (pc + 4) ls (vR (some S.length) :: rest) (S ++ ((22, n.toNat, (List.range n.toNat).map (fun i => some (S.length + 1 + i))) :: List.replicate n.toNat (20, k.toNat, []))) (mzs M S.length) else none
  | _, _ => none
def aNew (key pc : Nat) (ls : Lv) (st : List Vv) (S : List Sh) (M : Mem) : Option Act := match lk poolK key with
  | some ci => if ci < 9 ∧ S.length < 1000000 then go (pc + 3) ls (vR (some S.length) :: st) (S ++ [(ci, fnum ci, List.replicate (fnum ci) none)]) (mzs M S.length) else none
  | none => none
def aInvV (key : Nat) (st : List Vv) (S : List Sh) : Option Act := match lk poolM key with
  | some mid => if mid < 1000 ∧ mS mid = false ∧ (mY mid).name ≠ "<init>" then (match st.drop (mP mid) with
    | .inr (.inr (some a)) :: rest => (match S[a]? with
      | some (kd, _, _) => if kd = mOwn mid ∧ catS rest ≤ 8 ∧ mP mid ≤ st.length then some (.inr (.inl (mid, vR (some a) :: (st.take (mP mid)).reverse, rest))) else none
      | none => none)
    | _ => none) else none
  | none => none
def aInvS (key pc : Nat) (ls : Lv) (st : List Vv) (S : List Sh) (M : Mem) : Option Act := match lk poolM key with
  | some mid => if mid = 1000 then (match st with
      | .inl n :: .inl dp :: .inr (.inr (some b)) :: .inl sp :: .inr (.inr (some a)) :: rest => (match S[a]?, S[b]? with
        | some (ka, na, _), some (kb, nb, _) => if ka = 20 ∧ kb = 20 ∧ 0 ≤ n ∧ 0 ≤ sp ∧ 0 ≤ dp ∧ sp + n ≤ na ∧ dp + n ≤ nb ∧ catS rest ≤ 8 then go (pc + 3) ls rest S (mcp M a sp b dp n) else none
        | _, _ => none)
      | _ => none)
    else if mid = 1002 then (match st with
      | .inl y :: .inl x :: rest => if catS rest ≤ 8 then go (pc + 3) ls (vI (if x < y then y else x) :: rest) S M else none
      | _ => none)
    else if mid = 1003 then (match st with
      | .inl y :: .inl x :: rest => if catS rest ≤ 8 then go (pc + 3) ls (vI (if y < x then y else x) :: rest) S M else none
      | _ => none)
    else if mid < 1000 ∧ mS mid = true ∧ catS (st.drop (mP mid)) ≤ 8 ∧ mP mid ≤ st.length then some (.inr (.inl (mid, (st.take (mP mid)).reverse, st.drop (mP mid)))) else none
  | none => none
def aInvI (key pc : Nat) (ls : Lv) (st : List Vv) (S : List Sh) (M : Mem) : Option Act := match lk poolM key with
  | some mid => if mid = 1001 then (match st with
      | .inr (.inr (some _)) :: rest => if catS rest ≤ 8 then go (pc + 3) ls rest S M else none
      | _ => none)
    else if mid < 1000 ∧ mS mid = false ∧ (mY mid).name = "<init>" ∧ mP mid ≤ st.length then (match st.drop (mP mid) with
      | .inr (.inr (some a)) :: rest => if catS rest ≤ 8 then some (.inr (.inl (mid, vR (some a) :: (st.take (mP mid)).reverse, rest))) else none
      | _ => none) else none
  | none => none
def aIret (rt : Option FieldType) (st : List Vv) : Option Act := match st with
  | [.inl x] => (match rt with
    | some .int => some (.inr (.inr (some (vI x))))
    | some .boolean => if x = 0 ∨ x = 1 then some (.inr (.inr (some (vI x)))) else none
    | _ => none)
  | _ => none
def aLret (rt : Option FieldType) (st : List Vv) : Option Act := match st with
  | [.inr (.inl x)] => (match rt with
    | some .long => some (.inr (.inr (some (vL x))))
    | _ => none)
  | _ => none
def aAret (rt : Option FieldType) (st : List Vv) : Option Act := match st with
  | [.inr (.inr (some x))] => (match rt with
    | some (.object _) => some (.inr (.inr (some (vR (some x)))))
    | _ => none)
  | _ => none
def aVret (rt : Option FieldType) (st : List Vv) : Option Act := match st, rt with
  | [], none => some (.inr (.inr none))
  | _, _ => none
def aTab (dflt lo hi : Int) (offs : Array Int) (pc : Nat) (ls : Lv) (st : List Vv) (S : List Sh) (M : Mem) : Option Act := match st with
  | .inl x :: rest => if x < lo ∨ hi < x then jmp pc dflt ls rest S M else (match offs[(x - lo).toNat]? with
    | some off => jmp pc off ls rest S M
    | none => none)
  | _ => none
def aLook (dflt : Int) (ps : Array (Int × Int)) (pc : Nat) (ls : Lv) (st : List Vv) (S : List Sh) (M : Mem) : Option Act := match st with
  | .inl x :: rest => if (ps.toList.zip (ps.toList.drop 1)).all (fun (a, next) => a.1 < next.1) = true then jmp pc (Op.lookupswitch.offset ps.toList dflt x) ls rest S M else none
  | _ => none
def aDup (pc : Nat) (ls : Lv) (st : List Vv) (S : List Sh) (M : Mem) : Option Act := match st with
  | v :: rest => if isL v then none else go (pc + 1) ls (v :: v :: rest) S M
  | _ => none
def aDup2 (pc : Nat) (ls : Lv) (st : List Vv) (S : List Sh) (M : Mem) : Option Act := match st with
  | v :: w :: rest => if isL v ∨ isL w then none else go (pc + 1) ls (v :: w :: v :: w :: rest) S M
  | _ => none
def aInc (pc : Nat) (k : Nat) (n : Int) (ls : Lv) (st : List Vv) (S : List Sh) (M : Mem) : Option Act := match ls[k]? with
  | some (some (.inl x)) => if inR n ∧ inR (x + n) then (match st1 ls k (vI (x + n)) with
    | some ls' => go (pc + 3) ls' st S M
    | none => none) else none
  | _ => none
def aLcmp (pc : Nat) (ls : Lv) (st : List Vv) (S : List Sh) (M : Mem) : Option Act := match st with
  | .inr (.inl y) :: .inr (.inl x) :: rest => go (pc + 1) ls (vI (if x < y then -1 else if x = y then 0 else 1) :: rest) S M
  | _ => none
def aI2l (pc : Nat) (ls : Lv) (st : List Vv) (S : List Sh) (M : Mem) : Option Act := match st with
  | .inl x :: rest => go (pc + 1) ls (vL x :: rest) S M
  | _ => none
def aL2i (pc : Nat) (ls : Lv) (st : List Vv) (S : List Sh) (M : Mem) : Option Act := match st with
  | .inr (.inl x) :: rest => pI (pc + 1) ls rest S M x
  | _ => none
def aLdc (key pc len : Nat) (ls : Lv) (st : List Vv) (S : List Sh) (M : Mem) : Option Act := match lk poolC key with
  | some x => pI (pc + len) ls st S M x
  | none => none
def aLdc2 (key pc : Nat) (ls : Lv) (st : List Vv) (S : List Sh) (M : Mem) : Option Act := match lk poolL key with
  | some x => pL (pc + 3) ls st S M x
  | none => none
def aGets (key pc : Nat) (ls : Lv) (st : List Vv) (S : List Sh) (M : Mem) : Option Act := match lk poolS key with
  | some j => if j < 3 then go (pc + 3) ls (vR (some (1000000 + j)) :: st) S M else none
  | none => none
def actI (own : Nat) (ini : Bool) (rt : Option FieldType) (i : Instr) (pc : Nat) (ls : Lv) (st : List Vv) (S : List Sh) (M : Mem) : Option Act := match i with
  | .iconst n => pI (pc + 1) ls st S M n
  | .bipush n => if -128 ≤ n ∧ n ≤ 127 then go (pc + 2) ls (vI n :: st) S M else none
  | .sipush n => if -32768 ≤ n ∧ n ≤ 32767 then go (pc + 3) ls (vI n :: st) S M else none
  | .lconst n => go (pc + 1) ls (vL (n.val : Int) :: st) S M
  | .ldc idx => aLdc (own * 1000 + idx) pc 2 ls st S M
  | .ldc_w idx => aLdc (own * 1000 + idx) pc 3 ls st S M
  | .ldc2_w idx => aLdc2 (own * 1000 + idx) pc ls st S M
  | .iload_n k => ldI (pc + 1) k.val ls st S M
  | .iload k => ldI (pc + 2) k ls st S M
  | .lload_n k => ldL (pc + 1) k.val ls st S M
  | .lload k => ldL (pc + 2) k ls st S M
  | .aload_n k => ldA (pc + 1) k.val ls st S M
  | .aload k => ldA (pc + 2) k ls st S M
  | .istore_n k => stI (pc + 1) k.val ls st S M
  | .istore k => stI (pc + 2) k ls st S M
  | .lstore_n k => stL (pc + 1) k.val ls st S M
  | .lstore k => stL (pc + 2) k ls st S M
  | .astore_n k => stA (pc + 1) k.val ls st S M
  | .astore k => stA (pc + 2) k ls st S M
  | .iinc k n => aInc pc k n ls st S M
  | .iadd => bI (pc + 1) ls st S M (fun x y => some (x + y))
  | .isub => bI (pc + 1) ls st S M (fun x y => some (x - y))
  | .imul => bI (pc + 1) ls st S M (fun x y => some (x * y))
  | .idiv => bI (pc + 1) ls st S M (fun x y => if y = 0 then none else some (x.tdiv y))
  | .irem => bI (pc + 1) ls st S M (fun x y => if y = 0 then none else some (x.tmod y))
  | .iand => bI (pc + 1) ls st S M (fun x y => some (Int32.ofInt x &&& Int32.ofInt y).toInt)
  | .ishl => bI (pc + 1) ls st S M (fun x y => some (Int32.ofInt x <<< (Int32.ofInt y &&& 31)).toInt)
  | .ishr => bI (pc + 1) ls st S M (fun x y => some (Int32.ofInt x >>> (Int32.ofInt y &&& 31)).toInt)
  | .ineg => uI (pc + 1) ls st S M (fun x => -x)
  | .i2b => uI (pc + 1) ls st S M (fun x => (Int32.ofInt x).toInt8.toInt32.toInt)
  | .i2s => uI (pc + 1) ls st S M (fun x => (Int32.ofInt x).toInt16.toInt32.toInt)
  | .i2l => aI2l pc ls st S M
  | .l2i => aL2i pc ls st S M
  | .ladd => bL (pc + 1) ls st S M (fun x y => some (x + y))
  | .lmul => bL (pc + 1) ls st S M (fun x y => some (x * y))
  | .ldiv => bL (pc + 1) ls st S M (fun x y => if y = 0 then none else some (x.tdiv y))
  | .lrem => bL (pc + 1) ls st S M (fun x y => if y = 0 then none else some (x.tmod y))
  | .lcmp => aLcmp pc ls st S M
  | .dup => aDup pc ls st S M
  | .dup2 => aDup2 pc ls st S M
  | .goto off => jmp pc off ls st S M
  | .ifCond .eq off => c0 pc off ls st S M (fun x => decide (x = 0))
  | .ifCond .ne off => c0 pc off ls st S M (fun x => decide (¬ x = 0))
  | .ifCond .lt off => c0 pc off ls st S M (fun x => decide (x < 0))
  | .ifCond .ge off => c0 pc off ls st S M (fun x => decide (0 ≤ x))
  | .ifCond .gt off => c0 pc off ls st S M (fun x => decide (0 < x))
  | .ifCond .le off => c0 pc off ls st S M (fun x => decide (x ≤ 0))
  | .if_icmp .eq off => cI pc off ls st S M (fun x y => decide (x = y))
  | .if_icmp .ne off => cI pc off ls st S M (fun x y => decide (¬ x = y))
  | .if_icmp .lt off => cI pc off ls st S M (fun x y => decide (x < y))
  | .if_icmp .ge off => cI pc off ls st S M (fun x y => decide (y ≤ x))
  | .if_icmp .gt off => cI pc off ls st S M (fun x y => decide (y < x))
  | .if_icmp .le off => cI pc off ls st S M (fun x y => decide (x ≤ y))
  | .tableswitch dflt lo hi offs => aTab dflt lo hi offs pc ls st S M
  | .lookupswitch dflt ps => aLook dflt ps pc ls st S M
  | .getfield idx => aGetf (own * 1000 + idx) pc ls st S M
  | .putfield idx => aPutf own ini (own * 1000 + idx) pc ls st S M
  | .getstatic idx => aGets (own * 1000 + idx) pc ls st S M
  | .iaload => aIald pc ls st S M
  | .iastore => aIast pc ls st S M
  | .baload => aBald pc ls st S M
  | .bastore => aBast pc ls st S M
  | .aaload => aAald pc ls st S M
  | .aastore => aAast pc ls st S M
  | .arraylength => aAlen pc ls st S M
  | .newarray .int => aNewa 20 pc ls st S M
  | .newarray .boolean => aNewa 21 pc ls st S M
  | .anewarray idx => aNewq (own * 1000 + idx) pc ls st S M
  | .multianewarray idx 2 => aNewm (own * 1000 + idx) pc ls st S M
  | .new idx => aNew (own * 1000 + idx) pc ls st S M
  | .invokevirtual idx => aInvV (own * 1000 + idx) st S
  | .invokestatic idx => aInvS (own * 1000 + idx) pc ls st S M
  | .invokespecial idx => aInvI (own * 1000 + idx) pc ls st S M
  | .ireturn => aIret rt st
  | .lreturn => aLret rt st
  | .areturn => aAret rt st
  | .return_ => aVret rt st
  | _ => none
def ilen : Instr → Nat := fun i => match i with
  | .bipush _ | .ldc _ | .iload _ | .lload _ | .aload _ | .istore _ | .lstore _ | .astore _ | .newarray _ => 2
  | .sipush _ | .ldc_w _ | .ldc2_w _ | .iinc _ _ | .goto _ | .ifCond _ _ | .if_icmp _ _ | .getfield _ | .putfield _ | .getstatic _ | .anewarray _ | .new _ | .invokevirtual _ | .invokestatic _ | .invokespecial _ => 3
  | .multianewarray _ _ => 4
  | _ => 1
def isSw : Instr → Bool := fun i => match i with
  | .tableswitch _ _ _ _ | .lookupswitch _ _ => true
  | _ => false
def pidx : Instr → Nat := fun i => match i with
  | .ldc k | .ldc_w k | .ldc2_w k | .getfield k | .putfield k | .getstatic k | .anewarray k | .new k | .invokevirtual k | .invokestatic k | .invokespecial k => k
  | .multianewarray k _ => k
  | _ => 0
def ins (mid pc : Nat) : Option Instr := match decode (mB mid) pc with
  | .ok (i, len) => if (len = ilen i ∨ isSw i = true) ∧ pidx i < 1000 then some i else none
  | .error _ => none
def act (mid pc : Nat) (ls : Lv) (st : List Vv) (S : List Sh) (M : Mem) : Option Act := match ins mid pc with
  | some i => actI (mOwn mid) (decide ((mY mid).name = "<init>")) (mR mid) i pc ls st S M
  | none => none
def eLoc : List Vv → Lv
  | [] => []
  | v :: r => if isL v then some v :: none :: eLoc r else some v :: eLoc r
def entryL (mid : Nat) (args : List Vv) : Lv := eLoc args ++ List.replicate (mL mid - (eLoc args).length) none
def run : Nat → Nat → Nat → Nat → Lv → List Vv → List Sh → Mem → Option (Option Vv × List Sh × Mem)
  | 0, _, _, _, _, _, _, _ => none
  | n + 1, d, mid, pc, ls, st, S, M => match act mid pc ls st S M with
    | none => none
    | some (.inl (pc', ls', st', S', M')) => run n d mid pc' ls' st' S' M'
    | some (.inr (.inl (mid', args, rest))) => (match d with
      | 0 => none
      | d' + 1 => if (eLoc args).length ≤ mL mid' then (match run n d' mid' 0 (entryL mid' args) [] S M with
        | none => none
        | some (r, S', M') => run n d mid (pc + 3) ls (r.toList ++ rest) S' M') else none)
    | some (.inr (.inr r)) => some (r, S, M)
end
section
/-! numbers -/
theorem i32_of {x : Int} (h : inR x) : (Int32.ofInt x).toInt = x := Int32.toInt_ofInt_of_le (by have := h.1; omega) (by have := h.2; omega)
theorem i64_of {x : Int} (h : inL x) : (Int64.ofInt x).toInt = x := Int64.toInt_ofInt_of_le (by have := h.1; omega) (by have := h.2; omega)
theorem i32_eq {x y : Int} (hx : inR x) (hy : inR y) : Int32.ofInt x = Int32.ofInt y ↔ x = y := ⟨fun h => by have h2 := congrArg Int32.toInt h; rwa [i32_of hx, i32_of hy] at h2, fun h => by rw [h]⟩
theorem i32_lt {x y : Int} (hx : inR x) (hy : inR y) : Int32.ofInt x < Int32.ofInt y ↔ x < y := by rw [Int32.lt_iff_toInt_lt, i32_of hx, i32_of hy]
theorem i32_le {x y : Int} (hx : inR x) (hy : inR y) : Int32.ofInt x ≤ Int32.ofInt y ↔ x ≤ y := by rw [Int32.le_iff_toInt_le, i32_of hx, i32_of hy]
theorem i64_eq {x y : Int} (hx : inL x) (hy : inL y) : Int64.ofInt x = Int64.ofInt y ↔ x = y := ⟨fun h => by have h2 := congrArg Int64.toInt h; rwa [i64_of hx, i64_of hy] at h2, fun h => by rw [h]⟩
theorem i64_lt {x y : Int} (hx : inL x) (hy : inL y) : Int64.ofInt x < Int64.ofInt y ↔ x < y := by rw [Int64.lt_iff_toInt_lt, i64_of hx, i64_of hy]
theorem inR_0 : inR 0 := by decide
theorem inL_0 : inL 0 := by decide
theorem i32_0 : Int32.ofInt 0 = 0 := rfl
theorem i64_0 : Int64.ofInt 0 = 0 := rfl
theorem inR_toInt (x : Int32) : inR x.toInt := ⟨by have := Int32.le_toInt x; omega, by have := Int32.toInt_lt x; omega⟩
theorem inL_R {x : Int} (h : inR x) : inL x := ⟨by have := h.1; omega, by have := h.2; omega⟩
theorem i32_clamp {x : Int} (h : inR x) : (Int32.ofInt x).toNatClampNeg = x.toNat := Int32.toNatClampNeg_ofInt_of_le (by have := h.1; omega) (by have := h.2; omega)
theorem i32_neg {x : Int} (h : inR x) (h0 : 0 ≤ x) : ¬ Int32.ofInt x < 0 := by
  rw [← i32_0, i32_lt h inR_0]; omega
theorem i32_in {x : Int} {n : Nat} (h : inR x) (h0 : 0 ≤ x) (h1 : x < n) : vp_in (Int32.ofInt x) n := by
  intro q
  rcases q with q | q
  · exact i32_neg h h0 q
  · rw [i32_clamp h] at q; omega
theorem i32_div {x y : Int} (hx : inR x) (hy : inR y) : Int32.ofInt x / Int32.ofInt y = Int32.ofInt (x.tdiv y) := (Int32.ofInt_tdiv (by have := hx.1; show (-2147483648 : Int) ≤ x; omega) (by have := hx.2; show x ≤ (2147483647 : Int); omega) (by have := hy.1; show (-2147483648 : Int) ≤ y; omega) (by have := hy.2; show y ≤ (2147483647 : Int); omega)).symm
theorem i64_div {x y : Int} (hx : inL x) (hy : inL y) : Int64.ofInt x / Int64.ofInt y = Int64.ofInt (x.tdiv y) := (Int64.ofInt_tdiv (by have := hx.1; show (-9223372036854775808 : Int) ≤ x; omega) (by have := hx.2; show x ≤ (9223372036854775807 : Int); omega) (by have := hy.1; show (-9223372036854775808 : Int) ≤ y; omega) (by have := hy.2; show y ≤ (9223372036854775807 : Int); omega)).symm
theorem i32_rem {x y : Int} (hx : inR x) (hy : inR y) : Int32.ofInt x - Int32.ofInt x / Int32.ofInt y * Int32.ofInt y = Int32.ofInt (x.tmod y) := by
  rw [i32_div hx hy, ← Int32.ofInt_mul, ← Int32.ofInt_sub]
  congr 1
  have h := Int.tdiv_mul_add_tmod x y
  omega
theorem i64_rem {x y : Int} (hx : inL x) (hy : inL y) : Int64.ofInt x - Int64.ofInt x / Int64.ofInt y * Int64.ofInt y = Int64.ofInt (x.tmod y) := by
  rw [i64_div hx hy, ← Int64.ofInt_mul, ← Int64.ofInt_sub]
  congr 1
  have h := Int.tdiv_mul_add_tmod x y
  omega
/-! values, worlds -/
def ph (base : Nat) (tt : Nat → Nat) (a : Nat) : Nat := if 1000000 ≤ a then tt (a - 1000000) else base + a
def rv (f : Nat → Nat) : Vv → Value
  | .inl x => .int (Int32.ofInt x)
  | .inr (.inl x) => .long (Int64.ofInt x)
  | .inr (.inr r) => va_rf (r.map f)
def okV : Vv → Prop
  | .inl x => inR x
  | .inr (.inl x) => inL x
  | .inr (.inr _) => True
theorem rv_cat {f : Nat → Nat} (v : Vv) : (rv f v).category = cat v := by
  rcases v with x | x | x
  · rfl
  · rfl
  · cases x <;> rfl
def slotV (f : Nat → Nat) (M : Mem) (a ci : Nat) (rf : List (Option Nat)) (k : Nat) : Value := if fty ci k = 1 then va_rf ((rf.getD k none).map f) else .int (Int32.ofInt (M a (k : Int)))
def cellE (f : Nat → Nat) (cA : Nat → ClassId) (M : Mem) (a : Nat) (h : Sh) : va_E :=
  if h.1 < 9 then .inr (h.1, (List.range (fnum h.1)).map (slotV f M a h.1 h.2.2))
  else if h.1 ≤ 21 then .inl (cA h.1, h.2.1, .inl (fun i => Int32.ofInt (M a (i : Int))))
  else .inl (cA h.1, h.2.1, .inr (.inr (.inr (.inr (fun i => (h.2.2.getD i none).map f)))))
def world (base : Nat) (f : Nat → Nat) (cA : Nat → ClassId) (S : List Sh) (M : Mem) : va_W := S.mapIdx (fun a h => (base + a, cellE f cA M a h))
theorem world_at {base : Nat} {f : Nat → Nat} {cA : Nat → ClassId} {S : List Sh} {M : Mem} {a : Nat} {h : Sh} (hs : S[a]? = some h) : (world base f cA S M)[a]? = some (base + a, cellE f cA M a h) := by
  simp [world, List.getElem?_mapIdx, hs]
theorem cellE_congr {f : Nat → Nat} {cA : Nat → ClassId} {M N : Mem} {a : Nat} {h : Sh} (e : ∀ i, M a i = N a i) : cellE f cA M a h = cellE f cA N a h := by
  have h1 : slotV f M a h.1 h.2.2 = slotV f N a h.1 h.2.2 := by funext k; simp only [slotV, e]
  simp only [cellE, h1, e]
theorem world_set {base : Nat} {f : Nat → Nat} {cA : Nat → ClassId} {S S' : List Sh} {M N : Mem} {a : Nat} {h : Sh} {E : va_E} (ha : S'[a]? = some h) (hE : E = cellE f cA N a h) (ho : ∀ b, b ≠ a → S'[b]? = S[b]?) (hM : ∀ b, b ≠ a → ∀ i, N b i = M b i) (hlt : a < S.length) : (world base f cA S M).set a (base + a, E) = world base f cA S' N := by
  apply List.ext_getElem?
  intro b
  by_cases e : b = a
  · subst e
    rw [List.getElem?_set_self (by simpa [world] using hlt), world_at ha, hE]
  · rw [List.getElem?_set_ne (fun q => e q.symm)]
    simp only [world, List.getElem?_mapIdx, ho b e]
    cases S[b]? with
    | none => rfl
    | some h' => simp only [Option.map_some]; rw [cellE_congr (fun i => hM b e i)]
theorem world_app {base : Nat} {f : Nat → Nat} {cA : Nat → ClassId} {S : List Sh} {M N : Mem} {h : Sh} {E : va_E} (hE : E = cellE f cA N S.length h) (hM : ∀ b, b < S.length → ∀ i, N b i = M b i) : world base f cA S M ++ [(base + S.length, E)] = world base f cA (S ++ [h]) N := by
  apply List.ext_getElem?
  intro b
  have hl : (world base f cA S M).length = S.length := by simp [world]
  by_cases e : b < S.length
  · rw [List.getElem?_append_left (by rw [hl]; exact e)]
    simp only [world, List.getElem?_mapIdx, List.getElem?_append_left e]
    cases S[b]? with
    | none => rfl
    | some h' => simp only [Option.map_some]; rw [cellE_congr (fun i => hM b e i)]
  · rw [List.getElem?_append_right (by rw [hl]; omega), hl]
    by_cases e2 : b = S.length
    · subst e2
      rw [world_at (h := h) (by simp)]
      simp [hE]
    · have h1 : ¬ b - S.length < 1 := by omega
      rw [List.getElem?_eq_none (by simp; omega)]
      symm
      apply List.getElem?_eq_none
      simp [world]
      omega
theorem world_D {base : Nat} {f : Nat → Nat} {cA : Nat → ClassId} {S : List Sh} {M : Mem} : va_D (fun q => base ≤ q) (world base f cA S M) := by
  refine ⟨fun i j p q hi hj hpq => ?_, fun k q hk => ?_⟩
  · simp only [world, List.getElem?_mapIdx, Option.map_eq_some_iff] at hi hj
    obtain ⟨x, -, rfl⟩ := hi
    obtain ⟨y, -, rfl⟩ := hj
    simp only at hpq
    omega
  · simp only [world, List.getElem?_mapIdx, Option.map_eq_some_iff] at hk
    obtain ⟨x, -, rfl⟩ := hk
    exact Nat.le_add_right _ _
def tot (S : List Sh) : Nat := (S.map (fun h => h.2.1)).sum
/-! locals -/
def LR (f : Nat → Nat) (nL : Nat) (mls : Lv) (ls : Array Slot) : Prop := mls.length = nL ∧ ls.size = nL ∧ lv_wf ls ∧ ∀ (i : Nat) (v : Vv), mls[i]? = some (some v) → okV v ∧ ls[i]? = some (.val (rv f v))
def lvOf (f : Nat → Nat) (mls : Lv) : List (Nat × Value) := (List.range mls.length).filterMap (fun i => match mls[i]? with
  | some (some v) => some (i, rv f v)
  | _ => none)
theorem mem_lvOf {f : Nat → Nat} {mls : Lv} {q : Nat × Value} : q ∈ lvOf f mls ↔ ∃ v, mls[q.1]? = some (some v) ∧ q.2 = rv f v := by
  simp only [lvOf, List.mem_filterMap, List.mem_range]
  constructor
  · rintro ⟨i, hi, h⟩
    split at h
    · next v hv =>
      cases h
      exact ⟨v, hv, rfl⟩
    · cases h
  · rintro ⟨v, h, e⟩
    refine ⟨q.1, (List.getElem?_eq_some_iff.mp h).1, ?_⟩
    rw [h]
    simp only [← e]
theorem LR.has {f : Nat → Nat} {nL : Nat} {mls : Lv} {ls : Array Slot} (h : LR f nL mls ls) : lv_has ls nL (lvOf f mls) := by
  refine ⟨h.2.1, h.2.2.1, fun q hq => ?_⟩
  obtain ⟨v, h1, h2⟩ := mem_lvOf.mp hq
  rw [h2]
  exact (h.2.2.2 _ _ h1).2
theorem prevL_ne {mls : Lv} {k j : Nat} {v : Vv} (h : prevL mls k = false) (hj : mls[j]? = some (some v)) (e : j + 1 = k) : isL v = false := by
  subst e
  simp only [prevL, hj] at h
  exact h
theorem LRst1 {f : Nat → Nat} {nL k : Nat} {mls mls' : Lv} {ls ls' : Array Slot} {v : Vv} (h : LR f nL mls ls) (h1 : st1 mls k v = some mls') (hv : okV v)
    (h' : lv_has ls' nL ((k, rv f v) :: (lvOf f mls).filter (fun q => !(q.1 == k) && !(q.1 + 1 == k && q.2.category == 2)))) : LR f nL mls' ls' := by
  unfold st1 at h1
  split at h1
  · next hc =>
    cases h1
    refine ⟨by rw [List.length_set]; exact h.1, h'.1, h'.2.1, fun i w hi => ?_⟩
    by_cases e : i = k
    · subst e
      rw [List.getElem?_set_self hc.1] at hi
      cases hi
      exact ⟨hv, h'.2.2 _ List.mem_cons_self⟩
    · rw [List.getElem?_set_ne (fun q => e q.symm)] at hi
      refine ⟨(h.2.2.2 i w hi).1, h'.2.2 (i, rv f w) (List.mem_cons_of_mem _ (List.mem_filter.mpr ⟨mem_lvOf.mpr ⟨w, hi, rfl⟩, ?_⟩))⟩
      have h2 : ¬ (i + 1 = k ∧ (rv f w).category = 2) := by
        rintro ⟨e1, e2⟩
        rw [rv_cat, cat, prevL_ne hc.2 hi e1] at e2
        simp at e2
      by_cases e1 : i + 1 = k
      · have e2 : (rv f w).category ≠ 2 := fun q => h2 ⟨e1, q⟩
        simp [e, e2]
      · simp [e, e1]
  · cases h1
theorem LRst2 {f : Nat → Nat} {nL k : Nat} {mls mls' : Lv} {ls ls' : Array Slot} {v : Vv} (h : LR f nL mls ls) (h1 : st2 mls k v = some mls') (hv : okV v)
    (h' : lv_has ls' nL ((k, rv f v) :: (lvOf f mls).filter (fun q => !(q.1 == k) && (!(q.1 == k + 1) && !(q.1 + 1 == k && q.2.category == 2))))) : LR f nL mls' ls' := by
  unfold st2 at h1
  split at h1
  · next hc =>
    cases h1
    refine ⟨by rw [List.length_set, List.length_set]; exact h.1, h'.1, h'.2.1, fun i w hi => ?_⟩
    by_cases e0 : i = k + 1
    · subst e0
      rw [List.getElem?_set_self (by rw [List.length_set]; exact hc.1)] at hi
      cases hi
    · rw [List.getElem?_set_ne (fun q => e0 q.symm)] at hi
      by_cases e : i = k
      · subst e
        rw [List.getElem?_set_self (by omega)] at hi
        cases hi
        exact ⟨hv, h'.2.2 _ List.mem_cons_self⟩
      · rw [List.getElem?_set_ne (fun q => e q.symm)] at hi
        refine ⟨(h.2.2.2 i w hi).1, h'.2.2 (i, rv f w) (List.mem_cons_of_mem _ (List.mem_filter.mpr ⟨mem_lvOf.mpr ⟨w, hi, rfl⟩, ?_⟩))⟩
        by_cases e1 : i + 1 = k
        · have e2 : (rv f w).category ≠ 2 := by
            intro q
            rw [rv_cat, cat, prevL_ne hc.2 hi e1] at q
            simp at q
          simp [e, e0, e2]
        · simp [e, e0, e1]
  · cases h1
theorem st1_lt {mls mls' : Lv} {k : Nat} {v : Vv} (h : st1 mls k v = some mls') : k < mls.length := by
  unfold st1 at h
  split at h
  · next hc => exact hc.1
  · cases h
theorem st2_lt {mls mls' : Lv} {k : Nat} {v : Vv} (h : st2 mls k v = some mls') : k + 1 < mls.length := by
  unfold st2 at h
  split at h
  · next hc => exact hc.1
  · cases h
end
section
/-- the heap's side of a state of the little machine -/
def HI (D : va_G) (cA : Nat → ClassId) (base : Nat) (tt : Nat → Nat) (s : State) (MC MS : Nat) (Sf : List Sh) (S : List Sh) (M : Mem) (H : Heap) (locs : List Loc) (cells slots : Nat) : Prop :=
  va_P D vwCl (world base (ph base tt) cA S M) H ∧ va_S (fun q => base ≤ q) s.heap H locs ∧ (∀ a i, inR (M a i)) ∧ S.length ≤ 1000000 ∧ s.heap.size + cells = base + S.length ∧ cells + Sf.length = MC + S.length ∧ slots + tot Sf = MS + tot S
section SIMP
variable {p : Program} {l : Launch} {e : Env} {R : Room} {s : State} {m : MethodId} {args : Array Value} {below : List Frame} {meth : Method} {c : Code} {H : Heap} {locs : List Loc} {cells slots : Nat} {Q : State → Prop}
variable {cc : ByteArray} {pc : Nat} {ls : Array Slot}
variable {D : va_G} {cA : Nat → ClassId} {base : Nat} {tt : Nat → Nat} {nL MC MS : Nat} {Sf S S' : List Sh} {M M' : Mem} {mls mls' : Lv} {mst mst' : List Vv} {pc' : Nat}
def KK (p : Program) (l : Launch) (e : Env) (R : Room) (s : State) (m : MethodId) (args : Array Value) (below : List Frame) (meth : Method) (c : Code) (Q : State → Prop) (D : va_G) (cA : Nat → ClassId) (base : Nat) (tt : Nat → Nat) (nL MC MS : Nat) (Sf : List Sh) (pc : Nat) (mls : Lv) (mst : List Vv) (S : List Sh) (M : Mem) : Prop :=
  ∀ (H : Heap) (locs : List Loc) (cells slots : Nat) (ls : Array Slot), HI D cA base tt s MC MS Sf S M H locs cells slots → LR (ph base tt) nL mls ls → (∀ v ∈ mst, okV v) → W p l e R s m args below meth c H locs cells slots Q (F0 m pc ls (mst.map (rv (ph base tt))))
theorem ok1 {v : Vv} {st : List Vv} (h : ∀ w ∈ st, okV w) (hv : okV v) : ∀ w ∈ v :: st, okV w := fun w hw => by
  rcases List.mem_cons.mp hw with rfl | hw
  · exact hv
  · exact h w hw
theorem okt {v : Vv} {st : List Vv} (h : ∀ w ∈ v :: st, okV w) : ∀ w ∈ st, okV w := fun w hw => h w (List.mem_cons_of_mem _ hw)
theorem okh {v : Vv} {st : List Vv} (h : ∀ w ∈ v :: st, okV w) : okV v := h v List.mem_cons_self
theorem go_inj {pc pc' : Nat} {ls ls' : Lv} {st st' : List Vv} {S S' : List Sh} {M M' : Mem} (h : go pc ls st S M = some (.inl (pc', ls', st', S', M'))) : pc = pc' ∧ ls = ls' ∧ st = st' ∧ S = S' ∧ M = M' := by
  unfold go at h
  simpa using h
theorem pI_inj {pc pc' : Nat} {ls ls' : Lv} {st st' : List Vv} {S S' : List Sh} {M M' : Mem} {x : Int} (h : pI pc ls st S M x = some (.inl (pc', ls', st', S', M'))) : inR x ∧ pc = pc' ∧ ls = ls' ∧ vI x :: st = st' ∧ S = S' ∧ M = M' := by
  unfold pI at h
  split at h
  · next hx => exact ⟨hx, go_inj h⟩
  · cases h
theorem pL_inj {pc pc' : Nat} {ls ls' : Lv} {st st' : List Vv} {S S' : List Sh} {M M' : Mem} {x : Int} (h : pL pc ls st S M x = some (.inl (pc', ls', st', S', M'))) : inL x ∧ pc = pc' ∧ ls = ls' ∧ vL x :: st = st' ∧ S = S' ∧ M = M' := by
  unfold pL at h
  split at h
  · next hx => exact ⟨hx, go_inj h⟩
  · cases h
theorem jmp_inj {pc pc' : Nat} {off : Int} {ls ls' : Lv} {st st' : List Vv} {S S' : List Sh} {M M' : Mem} (h : jmp pc off ls st S M = some (.inl (pc', ls', st', S', M'))) : (pc : Int) + off = (pc' : Int) ∧ ls = ls' ∧ st = st' ∧ S = S' ∧ M = M' := by
  unfold jmp at h
  split at h
  · next hx =>
    obtain ⟨h1, h2⟩ := go_inj h
    exact ⟨by omega, h2⟩
  · cases h
theorem i8_of {n : Int} (h : -128 ≤ n ∧ n ≤ 127) : (Int8.ofInt n).toInt32 = Int32.ofInt n := Int8.toInt32_ofInt (show (-128 : Int) ≤ n from h.1) (show n ≤ (127 : Int) from h.2)
theorem i16_of {n : Int} (h : -32768 ≤ n ∧ n ≤ 32767) : (Int16.ofInt n).toInt32 = Int32.ofInt n := Int16.toInt32_ofInt (show (-32768 : Int) ≤ n from h.1) (show n ≤ (32767 : Int) from h.2)
theorem sp_iconst (hx : p.tables.exec = Jvm.exec) (hb : c.code = cc) {n : Int} (hH : HI D cA base tt s MC MS Sf S M H locs cells slots) (hL : LR (ph base tt) nL mls ls) (hst : ∀ v ∈ mst, okV v) (hd : decode cc pc = .ok (.iconst n, 1)) (ha : pI (pc + 1) mls mst S M n = some (.inl (pc', mls', mst', S', M'))) (K : KK p l e R s m args below meth c Q D cA base tt nL MC MS Sf pc' mls' mst' S' M') : W p l e R s m args below meth c H locs cells slots Q (F0 m pc ls (mst.map (rv (ph base tt)))) := by
  obtain ⟨hr, rfl, rfl, rfl, rfl, rfl⟩ := pI_inj ha
  exact lv_iconst hx hb hd rfl (K H locs cells slots ls hH hL (ok1 hst hr))
theorem sp_bipush (hx : p.tables.exec = Jvm.exec) (hb : c.code = cc) {n : Int} (hH : HI D cA base tt s MC MS Sf S M H locs cells slots) (hL : LR (ph base tt) nL mls ls) (hst : ∀ v ∈ mst, okV v) (hd : decode cc pc = .ok (.bipush n, 2)) (ha : (if -128 ≤ n ∧ n ≤ 127 then go (pc + 2) mls (vI n :: mst) S M else none) = some (.inl (pc', mls', mst', S', M'))) (K : KK p l e R s m args below meth c Q D cA base tt nL MC MS Sf pc' mls' mst' S' M') : W p l e R s m args below meth c H locs cells slots Q (F0 m pc ls (mst.map (rv (ph base tt)))) := by
  split at ha
  · next hr =>
    obtain ⟨rfl, rfl, rfl, rfl, rfl⟩ := go_inj ha
    exact lv_bipush hx hb hd (i8_of hr) (K H locs cells slots ls hH hL (ok1 hst (show inR n from ⟨by omega, by omega⟩)))
  · cases ha
theorem sp_sipush (hx : p.tables.exec = Jvm.exec) (hb : c.code = cc) {n : Int} (hH : HI D cA base tt s MC MS Sf S M H locs cells slots) (hL : LR (ph base tt) nL mls ls) (hst : ∀ v ∈ mst, okV v) (hd : decode cc pc = .ok (.sipush n, 3)) (ha : (if -32768 ≤ n ∧ n ≤ 32767 then go (pc + 3) mls (vI n :: mst) S M else none) = some (.inl (pc', mls', mst', S', M'))) (K : KK p l e R s m args below meth c Q D cA base tt nL MC MS Sf pc' mls' mst' S' M') : W p l e R s m args below meth c H locs cells slots Q (F0 m pc ls (mst.map (rv (ph base tt)))) := by
  split at ha
  · next hr =>
    obtain ⟨rfl, rfl, rfl, rfl, rfl⟩ := go_inj ha
    exact lv_sipush hx hb hd (i16_of hr) (K H locs cells slots ls hH hL (ok1 hst (show inR n from ⟨by omega, by omega⟩)))
  · cases ha
theorem sp_lconst (hx : p.tables.exec = Jvm.exec) (hb : c.code = cc) {n : Fin 2} (hH : HI D cA base tt s MC MS Sf S M H locs cells slots) (hL : LR (ph base tt) nL mls ls) (hst : ∀ v ∈ mst, okV v) (hd : decode cc pc = .ok (.lconst n, 1)) (ha : go (pc + 1) mls (vL (n.val : Int) :: mst) S M = some (.inl (pc', mls', mst', S', M'))) (K : KK p l e R s m args below meth c Q D cA base tt nL MC MS Sf pc' mls' mst' S' M') : W p l e R s m args below meth c H locs cells slots Q (F0 m pc ls (mst.map (rv (ph base tt)))) := by
  obtain ⟨rfl, rfl, rfl, rfl, rfl⟩ := go_inj ha
  exact lv_lconst hx hb hd (Int64.ofInt_eq_ofNat (n := n.val)).symm (K H locs cells slots ls hH hL (ok1 hst (show inL n from ⟨by have := n.2; omega, by have := n.2; omega⟩)))
theorem sp_ldI (hx : p.tables.exec = Jvm.exec) (hb : c.code = cc) {k q : Nat} (hH : HI D cA base tt s MC MS Sf S M H locs cells slots) (hL : LR (ph base tt) nL mls ls) (hst : ∀ v ∈ mst, okV v) (hd : (decode cc pc = .ok (.iload k, 2) ∧ q = pc + 2) ∨ (∃ j : Fin 4, j.val = k ∧ decode cc pc = .ok (.iload_n j, 1) ∧ q = pc + 1)) (ha : ldI q k mls mst S M = some (.inl (pc', mls', mst', S', M'))) (K : KK p l e R s m args below meth c Q D cA base tt nL MC MS Sf pc' mls' mst' S' M') : W p l e R s m args below meth c H locs cells slots Q (F0 m pc ls (mst.map (rv (ph base tt)))) := by
  unfold ldI at ha
  split at ha
  · next x hk =>
    obtain ⟨rfl, rfl, rfl, rfl, rfl⟩ := go_inj ha
    obtain ⟨hr, hg⟩ := hL.2.2.2 _ _ hk
    rcases hd with ⟨hd, rfl⟩ | ⟨j, rfl, hd, rfl⟩
    · exact lv_iload hx hb hd hg (K H locs cells slots ls hH hL (ok1 hst hr))
    · exact lv_iload_n hx hb hd rfl hg (K H locs cells slots ls hH hL (ok1 hst hr))
  · cases ha
theorem sp_ldL (hx : p.tables.exec = Jvm.exec) (hb : c.code = cc) {k q : Nat} (hH : HI D cA base tt s MC MS Sf S M H locs cells slots) (hL : LR (ph base tt) nL mls ls) (hst : ∀ v ∈ mst, okV v) (hd : (decode cc pc = .ok (.lload k, 2) ∧ q = pc + 2) ∨ (∃ j : Fin 4, j.val = k ∧ decode cc pc = .ok (.lload_n j, 1) ∧ q = pc + 1)) (ha : ldL q k mls mst S M = some (.inl (pc', mls', mst', S', M'))) (K : KK p l e R s m args below meth c Q D cA base tt nL MC MS Sf pc' mls' mst' S' M') : W p l e R s m args below meth c H locs cells slots Q (F0 m pc ls (mst.map (rv (ph base tt)))) := by
  unfold ldL at ha
  split at ha
  · next x hk =>
    obtain ⟨rfl, rfl, rfl, rfl, rfl⟩ := go_inj ha
    obtain ⟨hr, hg⟩ := hL.2.2.2 _ _ hk
    rcases hd with ⟨hd, rfl⟩ | ⟨j, rfl, hd, rfl⟩
    · exact lv_lload hx hb hd hg (K H locs cells slots ls hH hL (ok1 hst hr))
    · exact lv_lload_n hx hb hd rfl hg (K H locs cells slots ls hH hL (ok1 hst hr))
  · cases ha
theorem sp_ldA (hx : p.tables.exec = Jvm.exec) (hb : c.code = cc) {k q : Nat} (hH : HI D cA base tt s MC MS Sf S M H locs cells slots) (hL : LR (ph base tt) nL mls ls) (hst : ∀ v ∈ mst, okV v) (hd : (decode cc pc = .ok (.aload k, 2) ∧ q = pc + 2) ∨ (∃ j : Fin 4, j.val = k ∧ decode cc pc = .ok (.aload_n j, 1) ∧ q = pc + 1)) (ha : ldA q k mls mst S M = some (.inl (pc', mls', mst', S', M'))) (K : KK p l e R s m args below meth c Q D cA base tt nL MC MS Sf pc' mls' mst' S' M') : W p l e R s m args below meth c H locs cells slots Q (F0 m pc ls (mst.map (rv (ph base tt)))) := by
  unfold ldA at ha
  split at ha
  · next x hk =>
    obtain ⟨rfl, rfl, rfl, rfl, rfl⟩ := go_inj ha
    obtain ⟨hr, hg⟩ := hL.2.2.2 _ _ hk
    rcases hd with ⟨hd, rfl⟩ | ⟨j, rfl, hd, rfl⟩
    · exact lv_aload hx hb hd hg (K H locs cells slots ls hH hL (ok1 hst hr))
    · exact lv_aload_n hx hb hd rfl hg (K H locs cells slots ls hH hL (ok1 hst hr))
  · cases ha
theorem sp_stI (hx : p.tables.exec = Jvm.exec) (hb : c.code = cc) {k q : Nat} (hH : HI D cA base tt s MC MS Sf S M H locs cells slots) (hL : LR (ph base tt) nL mls ls) (hst : ∀ v ∈ mst, okV v) (hd : (decode cc pc = .ok (.istore k, 2) ∧ q = pc + 2) ∨ (∃ j : Fin 4, j.val = k ∧ decode cc pc = .ok (.istore_n j, 1) ∧ q = pc + 1)) (ha : stI q k mls mst S M = some (.inl (pc', mls', mst', S', M'))) (K : KK p l e R s m args below meth c Q D cA base tt nL MC MS Sf pc' mls' mst' S' M') : W p l e R s m args below meth c H locs cells slots Q (F0 m pc ls (mst.map (rv (ph base tt)))) := by
  unfold stI at ha
  split at ha
  · next x rest =>
    split at ha
    · next ls2 h1 =>
      obtain ⟨rfl, rfl, rfl, rfl, rfl⟩ := go_inj ha
      have hk := st1_lt h1
      rw [hL.1] at hk
      rcases hd with ⟨hd, rfl⟩ | ⟨j, rfl, hd, rfl⟩
      · exact lv_istore hx hb hd hL.has hk rfl (fun ls' h' => K H locs cells slots ls' hH (LRst1 hL h1 (okh hst) h') (okt hst))
      · exact lv_istore_n hx hb hd rfl hL.has hk rfl (fun ls' h' => K H locs cells slots ls' hH (LRst1 hL h1 (okh hst) h') (okt hst))
    · cases ha
  · cases ha
theorem sp_stL (hx : p.tables.exec = Jvm.exec) (hb : c.code = cc) {k q : Nat} (hH : HI D cA base tt s MC MS Sf S M H locs cells slots) (hL : LR (ph base tt) nL mls ls) (hst : ∀ v ∈ mst, okV v) (hd : (decode cc pc = .ok (.lstore k, 2) ∧ q = pc + 2) ∨ (∃ j : Fin 4, j.val = k ∧ decode cc pc = .ok (.lstore_n j, 1) ∧ q = pc + 1)) (ha : stL q k mls mst S M = some (.inl (pc', mls', mst', S', M'))) (K : KK p l e R s m args below meth c Q D cA base tt nL MC MS Sf pc' mls' mst' S' M') : W p l e R s m args below meth c H locs cells slots Q (F0 m pc ls (mst.map (rv (ph base tt)))) := by
  unfold stL at ha
  split at ha
  · next x rest =>
    split at ha
    · next ls2 h1 =>
      obtain ⟨rfl, rfl, rfl, rfl, rfl⟩ := go_inj ha
      have hk := st2_lt h1
      rw [hL.1] at hk
      rcases hd with ⟨hd, rfl⟩ | ⟨j, rfl, hd, rfl⟩
      · exact lv_lstore hx hb hd hL.has hk rfl (fun ls' h' => K H locs cells slots ls' hH (LRst2 hL h1 (okh hst) h') (okt hst))
      · exact lv_lstore_n hx hb hd rfl hL.has hk rfl (fun ls' h' => K H locs cells slots ls' hH (LRst2 hL h1 (okh hst) h') (okt hst))
    · cases ha
  · cases ha
theorem sp_stA (hx : p.tables.exec = Jvm.exec) (hb : c.code = cc) {k q : Nat} (hH : HI D cA base tt s MC MS Sf S M H locs cells slots) (hL : LR (ph base tt) nL mls ls) (hst : ∀ v ∈ mst, okV v) (hd : (decode cc pc = .ok (.astore k, 2) ∧ q = pc + 2) ∨ (∃ j : Fin 4, j.val = k ∧ decode cc pc = .ok (.astore_n j, 1) ∧ q = pc + 1)) (ha : stA q k mls mst S M = some (.inl (pc', mls', mst', S', M'))) (K : KK p l e R s m args below meth c Q D cA base tt nL MC MS Sf pc' mls' mst' S' M') : W p l e R s m args below meth c H locs cells slots Q (F0 m pc ls (mst.map (rv (ph base tt)))) := by
  unfold stA at ha
  split at ha
  · next x rest =>
    split at ha
    · next ls2 h1 =>
      obtain ⟨rfl, rfl, rfl, rfl, rfl⟩ := go_inj ha
      have hk := st1_lt h1
      rw [hL.1] at hk
      rcases hd with ⟨hd, rfl⟩ | ⟨j, rfl, hd, rfl⟩
      · exact lv_astore hx hb hd hL.has hk rfl (fun ls' h' => K H locs cells slots ls' hH (LRst1 hL h1 (okh hst) h') (okt hst))
      · exact lv_astore_n hx hb hd rfl hL.has hk rfl (fun ls' h' => K H locs cells slots ls' hH (LRst1 hL h1 (okh hst) h') (okt hst))
    · cases ha
  · cases ha
theorem sp_iinc (hx : p.tables.exec = Jvm.exec) (hb : c.code = cc) {k : Nat} {n : Int} (hH : HI D cA base tt s MC MS Sf S M H locs cells slots) (hL : LR (ph base tt) nL mls ls) (hst : ∀ v ∈ mst, okV v) (hd : decode cc pc = .ok (.iinc k n, 3)) (ha : aInc pc k n mls mst S M = some (.inl (pc', mls', mst', S', M'))) (K : KK p l e R s m args below meth c Q D cA base tt nL MC MS Sf pc' mls' mst' S' M') : W p l e R s m args below meth c H locs cells slots Q (F0 m pc ls (mst.map (rv (ph base tt)))) := by
  unfold aInc at ha
  split at ha
  · next x hk =>
    split at ha
    · next hr =>
      split at ha
      · next ls2 h1 =>
        obtain ⟨rfl, rfl, rfl, rfl, rfl⟩ := go_inj ha
        have hl := st1_lt h1
        rw [hL.1] at hl
        obtain ⟨j, hj⟩ := List.getElem?_of_mem ((mem_lvOf (f := ph base tt) (q := (k, rv (ph base tt) (vI x)))).mpr ⟨_, hk, rfl⟩)
        exact lv_iinc hx hb hd hL.has hj (Int32.ofInt_add x n).symm hl rfl (fun ls' h' => K H locs cells slots ls' hH (LRst1 hL h1 hr.2 h') hst)
      · cases ha
    · cases ha
  · cases ha
theorem bI_inj {pc pc' : Nat} {ls ls' : Lv} {st st' : List Vv} {S S' : List Sh} {M M' : Mem} {f : Int → Int → Option Int} (h : bI pc ls st S M f = some (.inl (pc', ls', st', S', M'))) : ∃ x y z rest, st = vI y :: vI x :: rest ∧ f x y = some z ∧ inR z ∧ pc = pc' ∧ ls = ls' ∧ vI z :: rest = st' ∧ S = S' ∧ M = M' := by
  unfold bI at h
  split at h
  · next y x rest =>
    split at h
    · next z hz => exact ⟨x, y, z, rest, rfl, hz, pI_inj h⟩
    · cases h
  · cases h
theorem bL_inj {pc pc' : Nat} {ls ls' : Lv} {st st' : List Vv} {S S' : List Sh} {M M' : Mem} {f : Int → Int → Option Int} (h : bL pc ls st S M f = some (.inl (pc', ls', st', S', M'))) : ∃ x y z rest, st = vL y :: vL x :: rest ∧ f x y = some z ∧ inL z ∧ pc = pc' ∧ ls = ls' ∧ vL z :: rest = st' ∧ S = S' ∧ M = M' := by
  unfold bL at h
  split at h
  · next y x rest =>
    split at h
    · next z hz => exact ⟨x, y, z, rest, rfl, hz, pL_inj h⟩
    · cases h
  · cases h
theorem uI_inj {pc pc' : Nat} {ls ls' : Lv} {st st' : List Vv} {S S' : List Sh} {M M' : Mem} {f : Int → Int} (h : uI pc ls st S M f = some (.inl (pc', ls', st', S', M'))) : ∃ x rest, st = vI x :: rest ∧ inR (f x) ∧ pc = pc' ∧ ls = ls' ∧ vI (f x) :: rest = st' ∧ S = S' ∧ M = M' := by
  unfold uI at h
  split at h
  · next x rest => exact ⟨x, rest, rfl, pI_inj h⟩
  · cases h
theorem br_inj {b : Bool} {pc pc' : Nat} {off : Int} {ls ls' : Lv} {st st' : List Vv} {S S' : List Sh} {M M' : Mem} (h : br b pc off ls st S M = some (.inl (pc', ls', st', S', M'))) : ∃ tgt : Nat, (pc : Int) + off = (tgt : Int) ∧ ((b = true ∧ tgt = pc') ∨ (b = false ∧ pc + 3 = pc')) ∧ ls = ls' ∧ st = st' ∧ S = S' ∧ M = M' := by
  unfold br at h
  split at h
  · next h0 =>
    split at h
    · next hb =>
      obtain ⟨h1, h2⟩ := go_inj h
      exact ⟨((pc : Int) + off).toNat, by omega, Or.inl ⟨hb, h1⟩, h2⟩
    · next hb =>
      obtain ⟨h1, h2⟩ := go_inj h
      exact ⟨((pc : Int) + off).toNat, by omega, Or.inr ⟨by simpa using hb, h1⟩, h2⟩
  · cases h
end SIMP
end
section
section SIMP
variable {p : Program} {l : Launch} {e : Env} {R : Room} {s : State} {m : MethodId} {args : Array Value} {below : List Frame} {meth : Method} {c : Code} {H : Heap} {locs : List Loc} {cells slots : Nat} {Q : State → Prop}
variable {cc : ByteArray} {pc : Nat} {ls : Array Slot}
variable {D : va_G} {cA : Nat → ClassId} {base : Nat} {tt : Nat → Nat} {nL MC MS : Nat} {Sf S S' : List Sh} {M M' : Mem} {mls mls' : Lv} {mst mst' : List Vv} {pc' : Nat}
theorem sp_iadd (hx : p.tables.exec = Jvm.exec) (hb : c.code = cc) (hH : HI D cA base tt s MC MS Sf S M H locs cells slots) (hL : LR (ph base tt) nL mls ls) (hst : ∀ v ∈ mst, okV v) (hd : decode cc pc = .ok (.iadd, 1)) (ha : bI (pc + 1) mls mst S M (fun x y => some (x + y)) = some (.inl (pc', mls', mst', S', M'))) (K : KK p l e R s m args below meth c Q D cA base tt nL MC MS Sf pc' mls' mst' S' M') : W p l e R s m args below meth c H locs cells slots Q (F0 m pc ls (mst.map (rv (ph base tt)))) := by
  obtain ⟨x, y, z, rest, rfl, hz, hr, rfl, rfl, rfl, rfl, rfl⟩ := bI_inj ha
  cases hz
  have K1 := K H locs cells slots ls hH hL (ok1 (okt (okt hst)) hr)
  simp only [List.map_cons, rv, Int32.ofInt_add] at K1 ⊢
  exact lv_iadd hx hb hd K1
theorem sp_isub (hx : p.tables.exec = Jvm.exec) (hb : c.code = cc) (hH : HI D cA base tt s MC MS Sf S M H locs cells slots) (hL : LR (ph base tt) nL mls ls) (hst : ∀ v ∈ mst, okV v) (hd : decode cc pc = .ok (.isub, 1)) (ha : bI (pc + 1) mls mst S M (fun x y => some (x - y)) = some (.inl (pc', mls', mst', S', M'))) (K : KK p l e R s m args below meth c Q D cA base tt nL MC MS Sf pc' mls' mst' S' M') : W p l e R s m args below meth c H locs cells slots Q (F0 m pc ls (mst.map (rv (ph base tt)))) := by
  obtain ⟨x, y, z, rest, rfl, hz, hr, rfl, rfl, rfl, rfl, rfl⟩ := bI_inj ha
  cases hz
  have K1 := K H locs cells slots ls hH hL (ok1 (okt (okt hst)) hr)
  simp only [List.map_cons, rv, Int32.ofInt_sub] at K1 ⊢
  exact lv_isub hx hb hd K1
theorem sp_imul (hx : p.tables.exec = Jvm.exec) (hb : c.code = cc) (hH : HI D cA base tt s MC MS Sf S M H locs cells slots) (hL : LR (ph base tt) nL mls ls) (hst : ∀ v ∈ mst, okV v) (hd : decode cc pc = .ok (.imul, 1)) (ha : bI (pc + 1) mls mst S M (fun x y => some (x * y)) = some (.inl (pc', mls', mst', S', M'))) (K : KK p l e R s m args below meth c Q D cA base tt nL MC MS Sf pc' mls' mst' S' M') : W p l e R s m args below meth c H locs cells slots Q (F0 m pc ls (mst.map (rv (ph base tt)))) := by
  obtain ⟨x, y, z, rest, rfl, hz, hr, rfl, rfl, rfl, rfl, rfl⟩ := bI_inj ha
  cases hz
  have K1 := K H locs cells slots ls hH hL (ok1 (okt (okt hst)) hr)
  simp only [List.map_cons, rv, Int32.ofInt_mul] at K1 ⊢
  exact lv_imul hx hb hd K1
theorem sp_idiv (hx : p.tables.exec = Jvm.exec) (hb : c.code = cc) (hH : HI D cA base tt s MC MS Sf S M H locs cells slots) (hL : LR (ph base tt) nL mls ls) (hst : ∀ v ∈ mst, okV v) (hd : decode cc pc = .ok (.idiv, 1)) (ha : bI (pc + 1) mls mst S M (fun x y => if y = 0 then none else some (x.tdiv y)) = some (.inl (pc', mls', mst', S', M'))) (K : KK p l e R s m args below meth c Q D cA base tt nL MC MS Sf pc' mls' mst' S' M') : W p l e R s m args below meth c H locs cells slots Q (F0 m pc ls (mst.map (rv (ph base tt)))) := by
  obtain ⟨x, y, z, rest, rfl, hz, hr, rfl, rfl, rfl, rfl, rfl⟩ := bI_inj ha
  split at hz
  · cases hz
  · next h0 =>
    cases hz
    have hy : inR y := okh hst
    have hx' : inR x := okh (okt hst)
    have K1 := K H locs cells slots ls hH hL (ok1 (okt (okt hst)) hr)
    simp only [List.map_cons, rv] at K1 ⊢
    rw [← i32_div hx' hy] at K1
    exact lv_idiv hx hb hd (fun q => h0 ((i32_eq hy inR_0).mp q)) K1
theorem sp_irem (hx : p.tables.exec = Jvm.exec) (hb : c.code = cc) (hH : HI D cA base tt s MC MS Sf S M H locs cells slots) (hL : LR (ph base tt) nL mls ls) (hst : ∀ v ∈ mst, okV v) (hd : decode cc pc = .ok (.irem, 1)) (ha : bI (pc + 1) mls mst S M (fun x y => if y = 0 then none else some (x.tmod y)) = some (.inl (pc', mls', mst', S', M'))) (K : KK p l e R s m args below meth c Q D cA base tt nL MC MS Sf pc' mls' mst' S' M') : W p l e R s m args below meth c H locs cells slots Q (F0 m pc ls (mst.map (rv (ph base tt)))) := by
  obtain ⟨x, y, z, rest, rfl, hz, hr, rfl, rfl, rfl, rfl, rfl⟩ := bI_inj ha
  split at hz
  · cases hz
  · next h0 =>
    cases hz
    have hy : inR y := okh hst
    have hx' : inR x := okh (okt hst)
    have K1 := K H locs cells slots ls hH hL (ok1 (okt (okt hst)) hr)
    simp only [List.map_cons, rv] at K1 ⊢
    rw [← i32_rem hx' hy] at K1
    exact lv_irem hx hb hd (fun q => h0 ((i32_eq hy inR_0).mp q)) K1
theorem sp_ldiv (hx : p.tables.exec = Jvm.exec) (hb : c.code = cc) (hH : HI D cA base tt s MC MS Sf S M H locs cells slots) (hL : LR (ph base tt) nL mls ls) (hst : ∀ v ∈ mst, okV v) (hd : decode cc pc = .ok (.ldiv, 1)) (ha : bL (pc + 1) mls mst S M (fun x y => if y = 0 then none else some (x.tdiv y)) = some (.inl (pc', mls', mst', S', M'))) (K : KK p l e R s m args below meth c Q D cA base tt nL MC MS Sf pc' mls' mst' S' M') : W p l e R s m args below meth c H locs cells slots Q (F0 m pc ls (mst.map (rv (ph base tt)))) := by
  obtain ⟨x, y, z, rest, rfl, hz, hr, rfl, rfl, rfl, rfl, rfl⟩ := bL_inj ha
  split at hz
  · cases hz
  · next h0 =>
    cases hz
    have hy : inL y := okh hst
    have hx' : inL x := okh (okt hst)
    have K1 := K H locs cells slots ls hH hL (ok1 (okt (okt hst)) hr)
    simp only [List.map_cons, rv] at K1 ⊢
    rw [← i64_div hx' hy] at K1
    exact lv_ldiv hx hb hd (fun q => h0 ((i64_eq hy inL_0).mp q)) K1
theorem sp_lrem (hx : p.tables.exec = Jvm.exec) (hb : c.code = cc) (hH : HI D cA base tt s MC MS Sf S M H locs cells slots) (hL : LR (ph base tt) nL mls ls) (hst : ∀ v ∈ mst, okV v) (hd : decode cc pc = .ok (.lrem, 1)) (ha : bL (pc + 1) mls mst S M (fun x y => if y = 0 then none else some (x.tmod y)) = some (.inl (pc', mls', mst', S', M'))) (K : KK p l e R s m args below meth c Q D cA base tt nL MC MS Sf pc' mls' mst' S' M') : W p l e R s m args below meth c H locs cells slots Q (F0 m pc ls (mst.map (rv (ph base tt)))) := by
  obtain ⟨x, y, z, rest, rfl, hz, hr, rfl, rfl, rfl, rfl, rfl⟩ := bL_inj ha
  split at hz
  · cases hz
  · next h0 =>
    cases hz
    have hy : inL y := okh hst
    have hx' : inL x := okh (okt hst)
    have K1 := K H locs cells slots ls hH hL (ok1 (okt (okt hst)) hr)
    simp only [List.map_cons, rv] at K1 ⊢
    rw [← i64_rem hx' hy] at K1
    exact lv_lrem hx hb hd (fun q => h0 ((i64_eq hy inL_0).mp q)) K1
theorem sp_ladd (hx : p.tables.exec = Jvm.exec) (hb : c.code = cc) (hH : HI D cA base tt s MC MS Sf S M H locs cells slots) (hL : LR (ph base tt) nL mls ls) (hst : ∀ v ∈ mst, okV v) (hd : decode cc pc = .ok (.ladd, 1)) (ha : bL (pc + 1) mls mst S M (fun x y => some (x + y)) = some (.inl (pc', mls', mst', S', M'))) (K : KK p l e R s m args below meth c Q D cA base tt nL MC MS Sf pc' mls' mst' S' M') : W p l e R s m args below meth c H locs cells slots Q (F0 m pc ls (mst.map (rv (ph base tt)))) := by
  obtain ⟨x, y, z, rest, rfl, hz, hr, rfl, rfl, rfl, rfl, rfl⟩ := bL_inj ha
  cases hz
  have K1 := K H locs cells slots ls hH hL (ok1 (okt (okt hst)) hr)
  simp only [List.map_cons, rv, Int64.ofInt_add] at K1 ⊢
  exact lv_ladd hx hb hd K1
theorem sp_lmul (hx : p.tables.exec = Jvm.exec) (hb : c.code = cc) (hH : HI D cA base tt s MC MS Sf S M H locs cells slots) (hL : LR (ph base tt) nL mls ls) (hst : ∀ v ∈ mst, okV v) (hd : decode cc pc = .ok (.lmul, 1)) (ha : bL (pc + 1) mls mst S M (fun x y => some (x * y)) = some (.inl (pc', mls', mst', S', M'))) (K : KK p l e R s m args below meth c Q D cA base tt nL MC MS Sf pc' mls' mst' S' M') : W p l e R s m args below meth c H locs cells slots Q (F0 m pc ls (mst.map (rv (ph base tt)))) := by
  obtain ⟨x, y, z, rest, rfl, hz, hr, rfl, rfl, rfl, rfl, rfl⟩ := bL_inj ha
  cases hz
  have K1 := K H locs cells slots ls hH hL (ok1 (okt (okt hst)) hr)
  simp only [List.map_cons, rv, Int64.ofInt_mul] at K1 ⊢
  exact lv_lmul hx hb hd K1
theorem sp_iand (hx : p.tables.exec = Jvm.exec) (hb : c.code = cc) (hH : HI D cA base tt s MC MS Sf S M H locs cells slots) (hL : LR (ph base tt) nL mls ls) (hst : ∀ v ∈ mst, okV v) (hd : decode cc pc = .ok (.iand, 1)) (ha : bI (pc + 1) mls mst S M (fun x y => some (Int32.ofInt x &&& Int32.ofInt y).toInt) = some (.inl (pc', mls', mst', S', M'))) (K : KK p l e R s m args below meth c Q D cA base tt nL MC MS Sf pc' mls' mst' S' M') : W p l e R s m args below meth c H locs cells slots Q (F0 m pc ls (mst.map (rv (ph base tt)))) := by
  obtain ⟨x, y, z, rest, rfl, hz, hr, rfl, rfl, rfl, rfl, rfl⟩ := bI_inj ha
  cases hz
  have K1 := K H locs cells slots ls hH hL (ok1 (okt (okt hst)) hr)
  simp only [List.map_cons, rv, Int32.ofInt_toInt] at K1 ⊢
  exact lv_iand hx hb hd K1
theorem sp_ishl (hx : p.tables.exec = Jvm.exec) (hb : c.code = cc) (hH : HI D cA base tt s MC MS Sf S M H locs cells slots) (hL : LR (ph base tt) nL mls ls) (hst : ∀ v ∈ mst, okV v) (hd : decode cc pc = .ok (.ishl, 1)) (ha : bI (pc + 1) mls mst S M (fun x y => some (Int32.ofInt x <<< (Int32.ofInt y &&& 31)).toInt) = some (.inl (pc', mls', mst', S', M'))) (K : KK p l e R s m args below meth c Q D cA base tt nL MC MS Sf pc' mls' mst' S' M') : W p l e R s m args below meth c H locs cells slots Q (F0 m pc ls (mst.map (rv (ph base tt)))) := by
  obtain ⟨x, y, z, rest, rfl, hz, hr, rfl, rfl, rfl, rfl, rfl⟩ := bI_inj ha
  cases hz
  have K1 := K H locs cells slots ls hH hL (ok1 (okt (okt hst)) hr)
  simp only [List.map_cons, rv, Int32.ofInt_toInt] at K1 ⊢
  exact lv_ishl hx hb hd K1
theorem sp_ishr (hx : p.tables.exec = Jvm.exec) (hb : c.code = cc) (hH : HI D cA base tt s MC MS Sf S M H locs cells slots) (hL : LR (ph base tt) nL mls ls) (hst : ∀ v ∈ mst, okV v) (hd : decode cc pc = .ok (.ishr, 1)) (ha : bI (pc + 1) mls mst S M (fun x y => some (Int32.ofInt x >>> (Int32.ofInt y &&& 31)).toInt) = some (.inl (pc', mls', mst', S', M'))) (K : KK p l e R s m args below meth c Q D cA base tt nL MC MS Sf pc' mls' mst' S' M') : W p l e R s m args below meth c H locs cells slots Q (F0 m pc ls (mst.map (rv (ph base tt)))) := by
  obtain ⟨x, y, z, rest, rfl, hz, hr, rfl, rfl, rfl, rfl, rfl⟩ := bI_inj ha
  cases hz
  have K1 := K H locs cells slots ls hH hL (ok1 (okt (okt hst)) hr)
  simp only [List.map_cons, rv, Int32.ofInt_toInt] at K1 ⊢
  exact lv_ishr hx hb hd K1
theorem sp_ineg (hx : p.tables.exec = Jvm.exec) (hb : c.code = cc) (hH : HI D cA base tt s MC MS Sf S M H locs cells slots) (hL : LR (ph base tt) nL mls ls) (hst : ∀ v ∈ mst, okV v) (hd : decode cc pc = .ok (.ineg, 1)) (ha : uI (pc + 1) mls mst S M (fun x => -x) = some (.inl (pc', mls', mst', S', M'))) (K : KK p l e R s m args below meth c Q D cA base tt nL MC MS Sf pc' mls' mst' S' M') : W p l e R s m args below meth c H locs cells slots Q (F0 m pc ls (mst.map (rv (ph base tt)))) := by
  obtain ⟨x, rest, rfl, hr, rfl, rfl, rfl, rfl, rfl⟩ := uI_inj ha
  have K1 := K H locs cells slots ls hH hL (ok1 (okt hst) hr)
  simp only [List.map_cons, rv, Int32.ofInt_neg] at K1 ⊢
  exact lv_ineg hx hb hd K1
theorem sp_i2b (hx : p.tables.exec = Jvm.exec) (hb : c.code = cc) (hH : HI D cA base tt s MC MS Sf S M H locs cells slots) (hL : LR (ph base tt) nL mls ls) (hst : ∀ v ∈ mst, okV v) (hd : decode cc pc = .ok (.i2b, 1)) (ha : uI (pc + 1) mls mst S M (fun x => (Int32.ofInt x).toInt8.toInt32.toInt) = some (.inl (pc', mls', mst', S', M'))) (K : KK p l e R s m args below meth c Q D cA base tt nL MC MS Sf pc' mls' mst' S' M') : W p l e R s m args below meth c H locs cells slots Q (F0 m pc ls (mst.map (rv (ph base tt)))) := by
  obtain ⟨x, rest, rfl, hr, rfl, rfl, rfl, rfl, rfl⟩ := uI_inj ha
  have K1 := K H locs cells slots ls hH hL (ok1 (okt hst) hr)
  simp only [List.map_cons, rv, Int32.ofInt_toInt] at K1 ⊢
  exact lv_i2b hx hb hd rfl K1
theorem sp_i2s (hx : p.tables.exec = Jvm.exec) (hb : c.code = cc) (hH : HI D cA base tt s MC MS Sf S M H locs cells slots) (hL : LR (ph base tt) nL mls ls) (hst : ∀ v ∈ mst, okV v) (hd : decode cc pc = .ok (.i2s, 1)) (ha : uI (pc + 1) mls mst S M (fun x => (Int32.ofInt x).toInt16.toInt32.toInt) = some (.inl (pc', mls', mst', S', M'))) (K : KK p l e R s m args below meth c Q D cA base tt nL MC MS Sf pc' mls' mst' S' M') : W p l e R s m args below meth c H locs cells slots Q (F0 m pc ls (mst.map (rv (ph base tt)))) := by
  obtain ⟨x, rest, rfl, hr, rfl, rfl, rfl, rfl, rfl⟩ := uI_inj ha
  have K1 := K H locs cells slots ls hH hL (ok1 (okt hst) hr)
  simp only [List.map_cons, rv, Int32.ofInt_toInt] at K1 ⊢
  exact lv_i2s hx hb hd rfl K1
theorem sp_i2l (hx : p.tables.exec = Jvm.exec) (hb : c.code = cc) (hH : HI D cA base tt s MC MS Sf S M H locs cells slots) (hL : LR (ph base tt) nL mls ls) (hst : ∀ v ∈ mst, okV v) (hd : decode cc pc = .ok (.i2l, 1)) (ha : aI2l pc mls mst S M = some (.inl (pc', mls', mst', S', M'))) (K : KK p l e R s m args below meth c Q D cA base tt nL MC MS Sf pc' mls' mst' S' M') : W p l e R s m args below meth c H locs cells slots Q (F0 m pc ls (mst.map (rv (ph base tt)))) := by
  unfold aI2l at ha
  split at ha
  · next x rest =>
    obtain ⟨rfl, rfl, rfl, rfl, rfl⟩ := go_inj ha
    have hr : inR x := okh hst
    exact lv_i2l hx hb hd (Int64.toInt.inj (by rw [Int32.toInt_toInt64, i32_of hr, i64_of (inL_R hr)])) (K H locs cells slots ls hH hL (ok1 (okt hst) (inL_R hr)))
  · cases ha
theorem sp_l2i (hx : p.tables.exec = Jvm.exec) (hb : c.code = cc) (hH : HI D cA base tt s MC MS Sf S M H locs cells slots) (hL : LR (ph base tt) nL mls ls) (hst : ∀ v ∈ mst, okV v) (hd : decode cc pc = .ok (.l2i, 1)) (ha : aL2i pc mls mst S M = some (.inl (pc', mls', mst', S', M'))) (K : KK p l e R s m args below meth c Q D cA base tt nL MC MS Sf pc' mls' mst' S' M') : W p l e R s m args below meth c H locs cells slots Q (F0 m pc ls (mst.map (rv (ph base tt)))) := by
  unfold aL2i at ha
  split at ha
  · next x rest =>
    obtain ⟨hr, rfl, rfl, rfl, rfl, rfl⟩ := pI_inj ha
    have hl : inL x := okh hst
    have h1 : (Int64.ofInt x).toInt32 = Int32.ofInt x := Int32.toInt.inj (by rw [Int64.toInt_toInt32, i64_of hl, i32_of hr]; have := hr.1; have := hr.2; rw [Int.bmod_eq_of_le] <;> omega)
    exact lv_l2i hx hb hd h1 (K H locs cells slots ls hH hL (ok1 (okt hst) hr))
  · cases ha
theorem lgc {x y : Int} (hx : inL x) (hy : inL y) : lg_cmp (Int64.ofInt x) (Int64.ofInt y) = Int32.ofInt (if x < y then -1 else if x = y then 0 else 1) := by
  unfold lg_cmp
  by_cases h1 : x < y
  · have h2 : ¬ Int64.ofInt y < Int64.ofInt x := by rw [i64_lt hy hx]; omega
    have h3 : Int64.ofInt x < Int64.ofInt y := by rw [i64_lt hx hy]; omega
    have h4 : ¬ Int64.ofInt x = Int64.ofInt y := by rw [i64_eq hx hy]; omega
    simp [h1, h2, h3, h4] <;> rfl
  · by_cases h5 : x = y
    · subst h5
      have h2 : ¬ Int64.ofInt x < Int64.ofInt x := by rw [i64_lt hx hx]; omega
      simp [h2] <;> rfl
    · have h2 : Int64.ofInt y < Int64.ofInt x := by rw [i64_lt hy hx]; omega
      simp [h1, h2, h5] <;> rfl
theorem sp_lcmp (hx : p.tables.exec = Jvm.exec) (hb : c.code = cc) (hH : HI D cA base tt s MC MS Sf S M H locs cells slots) (hL : LR (ph base tt) nL mls ls) (hst : ∀ v ∈ mst, okV v) (hd : decode cc pc = .ok (.lcmp, 1)) (ha : aLcmp pc mls mst S M = some (.inl (pc', mls', mst', S', M'))) (K : KK p l e R s m args below meth c Q D cA base tt nL MC MS Sf pc' mls' mst' S' M') : W p l e R s m args below meth c H locs cells slots Q (F0 m pc ls (mst.map (rv (ph base tt)))) := by
  unfold aLcmp at ha
  split at ha
  · next y x rest =>
    obtain ⟨rfl, rfl, rfl, rfl, rfl⟩ := go_inj ha
    have hy : inL y := okh hst
    have hx' : inL x := okh (okt hst)
    have hr : inR (if x < y then -1 else if x = y then 0 else 1) := by
      split
      · decide
      · split <;> decide
    have K1 := K H locs cells slots ls hH hL (ok1 (okt (okt hst)) hr)
    simp only [List.map_cons, rv] at K1 ⊢
    rw [← lgc hx' hy] at K1
    exact W.lcmp hx hb hd K1
  · cases ha
theorem sp_dup (hx : p.tables.exec = Jvm.exec) (hb : c.code = cc) (hH : HI D cA base tt s MC MS Sf S M H locs cells slots) (hL : LR (ph base tt) nL mls ls) (hst : ∀ v ∈ mst, okV v) (hd : decode cc pc = .ok (.dup, 1)) (ha : aDup pc mls mst S M = some (.inl (pc', mls', mst', S', M'))) (K : KK p l e R s m args below meth c Q D cA base tt nL MC MS Sf pc' mls' mst' S' M') : W p l e R s m args below meth c H locs cells slots Q (F0 m pc ls (mst.map (rv (ph base tt)))) := by
  unfold aDup at ha
  split at ha
  · next v rest =>
    split at ha
    · cases ha
    · next hv =>
      obtain ⟨rfl, rfl, rfl, rfl, rfl⟩ := go_inj ha
      exact lv_dup hx hb hd (by rw [rv_cat, cat]; simp [hv]) (K H locs cells slots ls hH hL (ok1 hst (okh hst)))
  · cases ha
theorem sp_dup2 (hx : p.tables.exec = Jvm.exec) (hb : c.code = cc) (hH : HI D cA base tt s MC MS Sf S M H locs cells slots) (hL : LR (ph base tt) nL mls ls) (hst : ∀ v ∈ mst, okV v) (hd : decode cc pc = .ok (.dup2, 1)) (ha : aDup2 pc mls mst S M = some (.inl (pc', mls', mst', S', M'))) (K : KK p l e R s m args below meth c Q D cA base tt nL MC MS Sf pc' mls' mst' S' M') : W p l e R s m args below meth c H locs cells slots Q (F0 m pc ls (mst.map (rv (ph base tt)))) := by
  unfold aDup2 at ha
  split at ha
  · next v w rest =>
    split at ha
    · cases ha
    · next hv =>
      obtain ⟨rfl, rfl, rfl, rfl, rfl⟩ := go_inj ha
      exact lv_dup2_11 hx hb hd (by rw [rv_cat, cat, Bool.eq_false_iff.mpr (fun q => hv (Or.inl q))]; rfl) (by rw [rv_cat, cat, Bool.eq_false_iff.mpr (fun q => hv (Or.inr q))]; rfl) (K H locs cells slots ls hH hL (ok1 (ok1 hst (okh (okt hst))) (okh hst)))
  · cases ha
theorem sp_goto (hx : p.tables.exec = Jvm.exec) (hb : c.code = cc) {off : Int} (hH : HI D cA base tt s MC MS Sf S M H locs cells slots) (hL : LR (ph base tt) nL mls ls) (hst : ∀ v ∈ mst, okV v) (hd : decode cc pc = .ok (.goto off, 3)) (ha : jmp pc off mls mst S M = some (.inl (pc', mls', mst', S', M'))) (K : KK p l e R s m args below meth c Q D cA base tt nL MC MS Sf pc' mls' mst' S' M') : W p l e R s m args below meth c H locs cells slots Q (F0 m pc ls (mst.map (rv (ph base tt)))) := by
  obtain ⟨ht, rfl, rfl, rfl, rfl⟩ := jmp_inj ha
  exact lv_goto hx hb hd ht (K H locs cells slots ls hH hL hst)
theorem sp_if_eq (hx : p.tables.exec = Jvm.exec) (hb : c.code = cc) {off : Int} (hH : HI D cA base tt s MC MS Sf S M H locs cells slots) (hL : LR (ph base tt) nL mls ls) (hst : ∀ v ∈ mst, okV v) (hd : decode cc pc = .ok (.ifCond .eq off, 3)) (ha : c0 pc off mls mst S M (fun x => decide (x = 0)) = some (.inl (pc', mls', mst', S', M'))) (K : KK p l e R s m args below meth c Q D cA base tt nL MC MS Sf pc' mls' mst' S' M') : W p l e R s m args below meth c H locs cells slots Q (F0 m pc ls (mst.map (rv (ph base tt)))) := by
  unfold c0 at ha
  split at ha
  · next x rest =>
    obtain ⟨tgt, ht, hc, rfl, rfl, rfl, rfl⟩ := br_inj ha
    have hr : inR x := okh hst
    rcases hc with ⟨hc, rfl⟩ | ⟨hc, rfl⟩
    · exact lv_if_eq hx hb hd ht (fun _ => K H locs cells slots ls hH hL (okt hst)) (fun q => absurd ((i32_eq hr inR_0).mpr (of_decide_eq_true hc)) q)
    · exact lv_if_eq hx hb hd ht (fun q => absurd ((i32_eq hr inR_0).mp q) (of_decide_eq_false hc)) (fun _ => K H locs cells slots ls hH hL (okt hst))
  · cases ha
theorem sp_icmp_eq (hx : p.tables.exec = Jvm.exec) (hb : c.code = cc) {off : Int} (hH : HI D cA base tt s MC MS Sf S M H locs cells slots) (hL : LR (ph base tt) nL mls ls) (hst : ∀ v ∈ mst, okV v) (hd : decode cc pc = .ok (.if_icmp .eq off, 3)) (ha : cI pc off mls mst S M (fun x y => decide (x = y)) = some (.inl (pc', mls', mst', S', M'))) (K : KK p l e R s m args below meth c Q D cA base tt nL MC MS Sf pc' mls' mst' S' M') : W p l e R s m args below meth c H locs cells slots Q (F0 m pc ls (mst.map (rv (ph base tt)))) := by
  unfold cI at ha
  split at ha
  · next y x rest =>
    obtain ⟨tgt, ht, hc, rfl, rfl, rfl, rfl⟩ := br_inj ha
    have hy : inR y := okh hst
    have hx' : inR x := okh (okt hst)
    rcases hc with ⟨hc, rfl⟩ | ⟨hc, rfl⟩
    · exact lv_icmp_eq hx hb hd ht (fun _ => K H locs cells slots ls hH hL (okt (okt hst))) (fun q => absurd ((i32_eq hx' hy).mpr (of_decide_eq_true hc)) q)
    · exact lv_icmp_eq hx hb hd ht (fun q => absurd ((i32_eq hx' hy).mp q) (of_decide_eq_false hc)) (fun _ => K H locs cells slots ls hH hL (okt (okt hst)))
  · cases ha
theorem sp_if_ne (hx : p.tables.exec = Jvm.exec) (hb : c.code = cc) {off : Int} (hH : HI D cA base tt s MC MS Sf S M H locs cells slots) (hL : LR (ph base tt) nL mls ls) (hst : ∀ v ∈ mst, okV v) (hd : decode cc pc = .ok (.ifCond .ne off, 3)) (ha : c0 pc off mls mst S M (fun x => decide (¬ x = 0)) = some (.inl (pc', mls', mst', S', M'))) (K : KK p l e R s m args below meth c Q D cA base tt nL MC MS Sf pc' mls' mst' S' M') : W p l e R s m args below meth c H locs cells slots Q (F0 m pc ls (mst.map (rv (ph base tt)))) := by
  unfold c0 at ha
  split at ha
  · next x rest =>
    obtain ⟨tgt, ht, hc, rfl, rfl, rfl, rfl⟩ := br_inj ha
    have hr : inR x := okh hst
    rcases hc with ⟨hc, rfl⟩ | ⟨hc, rfl⟩
    · exact lv_if_ne hx hb hd ht (fun _ => K H locs cells slots ls hH hL (okt hst)) (fun q => absurd ((i32_eq hr inR_0).mp q) (of_decide_eq_true hc))
    · exact lv_if_ne hx hb hd ht (fun q => absurd ((i32_eq hr inR_0).mpr (Decidable.not_not.mp (of_decide_eq_false hc))) q) (fun _ => K H locs cells slots ls hH hL (okt hst))
  · cases ha
theorem sp_icmp_ne (hx : p.tables.exec = Jvm.exec) (hb : c.code = cc) {off : Int} (hH : HI D cA base tt s MC MS Sf S M H locs cells slots) (hL : LR (ph base tt) nL mls ls) (hst : ∀ v ∈ mst, okV v) (hd : decode cc pc = .ok (.if_icmp .ne off, 3)) (ha : cI pc off mls mst S M (fun x y => decide (¬ x = y)) = some (.inl (pc', mls', mst', S', M'))) (K : KK p l e R s m args below meth c Q D cA base tt nL MC MS Sf pc' mls' mst' S' M') : W p l e R s m args below meth c H locs cells slots Q (F0 m pc ls (mst.map (rv (ph base tt)))) := by
  unfold cI at ha
  split at ha
  · next y x rest =>
    obtain ⟨tgt, ht, hc, rfl, rfl, rfl, rfl⟩ := br_inj ha
    have hy : inR y := okh hst
    have hx' : inR x := okh (okt hst)
    rcases hc with ⟨hc, rfl⟩ | ⟨hc, rfl⟩
    · exact lv_icmp_ne hx hb hd ht (fun _ => K H locs cells slots ls hH hL (okt (okt hst))) (fun q => absurd ((i32_eq hx' hy).mp q) (of_decide_eq_true hc))
    · exact lv_icmp_ne hx hb hd ht (fun q => absurd ((i32_eq hx' hy).mpr (Decidable.not_not.mp (of_decide_eq_false hc))) q) (fun _ => K H locs cells slots ls hH hL (okt (okt hst)))
  · cases ha
theorem sp_if_lt (hx : p.tables.exec = Jvm.exec) (hb : c.code = cc) {off : Int} (hH : HI D cA base tt s MC MS Sf S M H locs cells slots) (hL : LR (ph base tt) nL mls ls) (hst : ∀ v ∈ mst, okV v) (hd : decode cc pc = .ok (.ifCond .lt off, 3)) (ha : c0 pc off mls mst S M (fun x => decide (x < 0)) = some (.inl (pc', mls', mst', S', M'))) (K : KK p l e R s m args below meth c Q D cA base tt nL MC MS Sf pc' mls' mst' S' M') : W p l e R s m args below meth c H locs cells slots Q (F0 m pc ls (mst.map (rv (ph base tt)))) := by
  unfold c0 at ha
  split at ha
  · next x rest =>
    obtain ⟨tgt, ht, hc, rfl, rfl, rfl, rfl⟩ := br_inj ha
    have hr : inR x := okh hst
    rcases hc with ⟨hc, rfl⟩ | ⟨hc, rfl⟩
    · exact lv_if_lt hx hb hd ht (fun _ => K H locs cells slots ls hH hL (okt hst)) (fun q => absurd ((i32_lt hr inR_0).mpr (of_decide_eq_true hc)) q)
    · exact lv_if_lt hx hb hd ht (fun q => absurd ((i32_lt hr inR_0).mp q) (of_decide_eq_false hc)) (fun _ => K H locs cells slots ls hH hL (okt hst))
  · cases ha
theorem sp_icmp_lt (hx : p.tables.exec = Jvm.exec) (hb : c.code = cc) {off : Int} (hH : HI D cA base tt s MC MS Sf S M H locs cells slots) (hL : LR (ph base tt) nL mls ls) (hst : ∀ v ∈ mst, okV v) (hd : decode cc pc = .ok (.if_icmp .lt off, 3)) (ha : cI pc off mls mst S M (fun x y => decide (x < y)) = some (.inl (pc', mls', mst', S', M'))) (K : KK p l e R s m args below meth c Q D cA base tt nL MC MS Sf pc' mls' mst' S' M') : W p l e R s m args below meth c H locs cells slots Q (F0 m pc ls (mst.map (rv (ph base tt)))) := by
  unfold cI at ha
  split at ha
  · next y x rest =>
    obtain ⟨tgt, ht, hc, rfl, rfl, rfl, rfl⟩ := br_inj ha
    have hy : inR y := okh hst
    have hx' : inR x := okh (okt hst)
    rcases hc with ⟨hc, rfl⟩ | ⟨hc, rfl⟩
    · exact lv_icmp_lt hx hb hd ht (fun _ => K H locs cells slots ls hH hL (okt (okt hst))) (fun q => absurd ((i32_lt hx' hy).mpr (of_decide_eq_true hc)) q)
    · exact lv_icmp_lt hx hb hd ht (fun q => absurd ((i32_lt hx' hy).mp q) (of_decide_eq_false hc)) (fun _ => K H locs cells slots ls hH hL (okt (okt hst)))
  · cases ha
theorem sp_if_ge (hx : p.tables.exec = Jvm.exec) (hb : c.code = cc) {off : Int} (hH : HI D cA base tt s MC MS Sf S M H locs cells slots) (hL : LR (ph base tt) nL mls ls) (hst : ∀ v ∈ mst, okV v) (hd : decode cc pc = .ok (.ifCond .ge off, 3)) (ha : c0 pc off mls mst S M (fun x => decide (0 ≤ x)) = some (.inl (pc', mls', mst', S', M'))) (K : KK p l e R s m args below meth c Q D cA base tt nL MC MS Sf pc' mls' mst' S' M') : W p l e R s m args below meth c H locs cells slots Q (F0 m pc ls (mst.map (rv (ph base tt)))) := by
  unfold c0 at ha
  split at ha
  · next x rest =>
    obtain ⟨tgt, ht, hc, rfl, rfl, rfl, rfl⟩ := br_inj ha
    have hr : inR x := okh hst
    rcases hc with ⟨hc, rfl⟩ | ⟨hc, rfl⟩
    · exact lv_if_ge hx hb hd ht (fun _ => K H locs cells slots ls hH hL (okt hst)) (fun q => absurd ((i32_le inR_0 hr).mpr (of_decide_eq_true hc)) q)
    · exact lv_if_ge hx hb hd ht (fun q => absurd ((i32_le inR_0 hr).mp q) (of_decide_eq_false hc)) (fun _ => K H locs cells slots ls hH hL (okt hst))
  · cases ha
theorem sp_icmp_ge (hx : p.tables.exec = Jvm.exec) (hb : c.code = cc) {off : Int} (hH : HI D cA base tt s MC MS Sf S M H locs cells slots) (hL : LR (ph base tt) nL mls ls) (hst : ∀ v ∈ mst, okV v) (hd : decode cc pc = .ok (.if_icmp .ge off, 3)) (ha : cI pc off mls mst S M (fun x y => decide (y ≤ x)) = some (.inl (pc', mls', mst', S', M'))) (K : KK p l e R s m args below meth c Q D cA base tt nL MC MS Sf pc' mls' mst' S' M') : W p l e R s m args below meth c H locs cells slots Q (F0 m pc ls (mst.map (rv (ph base tt)))) := by
  unfold cI at ha
  split at ha
  · next y x rest =>
    obtain ⟨tgt, ht, hc, rfl, rfl, rfl, rfl⟩ := br_inj ha
    have hy : inR y := okh hst
    have hx' : inR x := okh (okt hst)
    rcases hc with ⟨hc, rfl⟩ | ⟨hc, rfl⟩
    · exact lv_icmp_ge hx hb hd ht (fun _ => K H locs cells slots ls hH hL (okt (okt hst))) (fun q => absurd ((i32_le hy hx').mpr (of_decide_eq_true hc)) q)
    · exact lv_icmp_ge hx hb hd ht (fun q => absurd ((i32_le hy hx').mp q) (of_decide_eq_false hc)) (fun _ => K H locs cells slots ls hH hL (okt (okt hst)))
  · cases ha
theorem sp_if_gt (hx : p.tables.exec = Jvm.exec) (hb : c.code = cc) {off : Int} (hH : HI D cA base tt s MC MS Sf S M H locs cells slots) (hL : LR (ph base tt) nL mls ls) (hst : ∀ v ∈ mst, okV v) (hd : decode cc pc = .ok (.ifCond .gt off, 3)) (ha : c0 pc off mls mst S M (fun x => decide (0 < x)) = some (.inl (pc', mls', mst', S', M'))) (K : KK p l e R s m args below meth c Q D cA base tt nL MC MS Sf pc' mls' mst' S' M') : W p l e R s m args below meth c H locs cells slots Q (F0 m pc ls (mst.map (rv (ph base tt)))) := by
  unfold c0 at ha
  split at ha
  · next x rest =>
    obtain ⟨tgt, ht, hc, rfl, rfl, rfl, rfl⟩ := br_inj ha
    have hr : inR x := okh hst
    rcases hc with ⟨hc, rfl⟩ | ⟨hc, rfl⟩
    · exact lv_if_gt hx hb hd ht (fun _ => K H locs cells slots ls hH hL (okt hst)) (fun q => absurd ((i32_lt inR_0 hr).mpr (of_decide_eq_true hc)) q)
    · exact lv_if_gt hx hb hd ht (fun q => absurd ((i32_lt inR_0 hr).mp q) (of_decide_eq_false hc)) (fun _ => K H locs cells slots ls hH hL (okt hst))
  · cases ha
theorem sp_icmp_gt (hx : p.tables.exec = Jvm.exec) (hb : c.code = cc) {off : Int} (hH : HI D cA base tt s MC MS Sf S M H locs cells slots) (hL : LR (ph base tt) nL mls ls) (hst : ∀ v ∈ mst, okV v) (hd : decode cc pc = .ok (.if_icmp .gt off, 3)) (ha : cI pc off mls mst S M (fun x y => decide (y < x)) = some (.inl (pc', mls', mst', S', M'))) (K : KK p l e R s m args below meth c Q D cA base tt nL MC MS Sf pc' mls' mst' S' M') : W p l e R s m args below meth c H locs cells slots Q (F0 m pc ls (mst.map (rv (ph base tt)))) := by
  unfold cI at ha
  split at ha
  · next y x rest =>
    obtain ⟨tgt, ht, hc, rfl, rfl, rfl, rfl⟩ := br_inj ha
    have hy : inR y := okh hst
    have hx' : inR x := okh (okt hst)
    rcases hc with ⟨hc, rfl⟩ | ⟨hc, rfl⟩
    · exact lv_icmp_gt hx hb hd ht (fun _ => K H locs cells slots ls hH hL (okt (okt hst))) (fun q => absurd ((i32_lt hy hx').mpr (of_decide_eq_true hc)) q)
    · exact lv_icmp_gt hx hb hd ht (fun q => absurd ((i32_lt hy hx').mp q) (of_decide_eq_false hc)) (fun _ => K H locs cells slots ls hH hL (okt (okt hst)))
  · cases ha
theorem sp_if_le (hx : p.tables.exec = Jvm.exec) (hb : c.code = cc) {off : Int} (hH : HI D cA base tt s MC MS Sf S M H locs cells slots) (hL : LR (ph base tt) nL mls ls) (hst : ∀ v ∈ mst, okV v) (hd : decode cc pc = .ok (.ifCond .le off, 3)) (ha : c0 pc off mls mst S M (fun x => decide (x ≤ 0)) = some (.inl (pc', mls', mst', S', M'))) (K : KK p l e R s m args below meth c Q D cA base tt nL MC MS Sf pc' mls' mst' S' M') : W p l e R s m args below meth c H locs cells slots Q (F0 m pc ls (mst.map (rv (ph base tt)))) := by
  unfold c0 at ha
  split at ha
  · next x rest =>
    obtain ⟨tgt, ht, hc, rfl, rfl, rfl, rfl⟩ := br_inj ha
    have hr : inR x := okh hst
    rcases hc with ⟨hc, rfl⟩ | ⟨hc, rfl⟩
    · exact lv_if_le hx hb hd ht (fun _ => K H locs cells slots ls hH hL (okt hst)) (fun q => absurd ((i32_le hr inR_0).mpr (of_decide_eq_true hc)) q)
    · exact lv_if_le hx hb hd ht (fun q => absurd ((i32_le hr inR_0).mp q) (of_decide_eq_false hc)) (fun _ => K H locs cells slots ls hH hL (okt hst))
  · cases ha
theorem sp_icmp_le (hx : p.tables.exec = Jvm.exec) (hb : c.code = cc) {off : Int} (hH : HI D cA base tt s MC MS Sf S M H locs cells slots) (hL : LR (ph base tt) nL mls ls) (hst : ∀ v ∈ mst, okV v) (hd : decode cc pc = .ok (.if_icmp .le off, 3)) (ha : cI pc off mls mst S M (fun x y => decide (x ≤ y)) = some (.inl (pc', mls', mst', S', M'))) (K : KK p l e R s m args below meth c Q D cA base tt nL MC MS Sf pc' mls' mst' S' M') : W p l e R s m args below meth c H locs cells slots Q (F0 m pc ls (mst.map (rv (ph base tt)))) := by
  unfold cI at ha
  split at ha
  · next y x rest =>
    obtain ⟨tgt, ht, hc, rfl, rfl, rfl, rfl⟩ := br_inj ha
    have hy : inR y := okh hst
    have hx' : inR x := okh (okt hst)
    rcases hc with ⟨hc, rfl⟩ | ⟨hc, rfl⟩
    · exact lv_icmp_le hx hb hd ht (fun _ => K H locs cells slots ls hH hL (okt (okt hst))) (fun q => absurd ((i32_le hx' hy).mpr (of_decide_eq_true hc)) q)
    · exact lv_icmp_le hx hb hd ht (fun q => absurd ((i32_le hx' hy).mp q) (of_decide_eq_false hc)) (fun _ => K H locs cells slots ls hH hL (okt (okt hst)))
  · cases ha
theorem sp_tab (hx : p.tables.exec = Jvm.exec) (hb : c.code = cc) {dflt lo hi : Int} {offs : Array Int} {len : Nat} (hH : HI D cA base tt s MC MS Sf S M H locs cells slots) (hL : LR (ph base tt) nL mls ls) (hst : ∀ v ∈ mst, okV v) (hd : decode cc pc = .ok (.tableswitch dflt lo hi offs, len)) (ha : aTab dflt lo hi offs pc mls mst S M = some (.inl (pc', mls', mst', S', M'))) (K : KK p l e R s m args below meth c Q D cA base tt nL MC MS Sf pc' mls' mst' S' M') : W p l e R s m args below meth c H locs cells slots Q (F0 m pc ls (mst.map (rv (ph base tt)))) := by
  unfold aTab at ha
  split at ha
  · next x rest =>
    have hr : inR x := okh hst
    split at ha
    · next h0 =>
      obtain ⟨ht, rfl, rfl, rfl, rfl⟩ := jmp_inj ha
      exact lv_tableOut hx hb hd (by rw [i32_of hr]; exact h0) ht (K H locs cells slots ls hH hL (okt hst))
    · next h0 =>
      split at ha
      · next off ho =>
        obtain ⟨ht, rfl, rfl, rfl, rfl⟩ := jmp_inj ha
        exact lv_tableIn hx hb hd (by rw [i32_of hr]; exact fun q => h0 (Or.inl q)) (by rw [i32_of hr]; exact fun q => h0 (Or.inr q)) (by rw [i32_of hr]; exact ho) ht (K H locs cells slots ls hH hL (okt hst))
      · cases ha
  · cases ha
theorem sp_look (hx : p.tables.exec = Jvm.exec) (hb : c.code = cc) {dflt : Int} {ps : Array (Int × Int)} {len : Nat} (hH : HI D cA base tt s MC MS Sf S M H locs cells slots) (hL : LR (ph base tt) nL mls ls) (hst : ∀ v ∈ mst, okV v) (hd : decode cc pc = .ok (.lookupswitch dflt ps, len)) (ha : aLook dflt ps pc mls mst S M = some (.inl (pc', mls', mst', S', M'))) (K : KK p l e R s m args below meth c Q D cA base tt nL MC MS Sf pc' mls' mst' S' M') : W p l e R s m args below meth c H locs cells slots Q (F0 m pc ls (mst.map (rv (ph base tt)))) := by
  unfold aLook at ha
  split at ha
  · next x rest =>
    have hr : inR x := okh hst
    split at ha
    · next h0 =>
      obtain ⟨ht, rfl, rfl, rfl, rfl⟩ := jmp_inj ha
      exact lv_lookup hx hb hd h0 (by rw [i32_of hr]) ht (K H locs cells slots ls hH hL (okt hst))
    · cases ha
  · cases ha
end SIMP
end
section
theorem lk_mem {α : Type} : ∀ {L : List (Nat × α)} {k : Nat} {v : α}, lk L k = some v → (k, v) ∈ L
  | [], _, _, h => by cases h
  | (a, b) :: r, k, v, h => by
    unfold lk at h
    split at h
    · next e =>
      cases h
      subst e
      exact List.mem_cons_self
    · exact List.mem_cons_of_mem _ (lk_mem h)
def Ct : Nat → u_T := fun k => match k with
  | 0 => TX0
  | 1 => TX1
  | 2 => TX2
  | 3 => TX3
  | 4 => TX4
  | 5 => TX5
  | 6 => TX6
  | 7 => TX7
  | _ => TX8
def Cty : Nat → Nat → FieldType := fun k => match k with
  | 0 => tyX0
  | 1 => tyX1
  | 2 => tyX2
  | 3 => tyX3
  | 4 => tyX4
  | 5 => tyX5
  | 6 => tyX6
  | 7 => tyX7
  | _ => tyX8
def wordF (q : Nat × Nat × Nat) : Cond := .fieldLink (cN (q.1 / 1000)) (q.1 % 1000) (Ct q.2.1 q.2.2).1 (Ct q.2.1 q.2.2).2.1 (Ct q.2.1 q.2.2).2.2.1
def wordC (q : Nat × Int) : Cond := .constant (cN (q.1 / 1000)) (q.1 % 1000) (Int32.ofInt q.2)
def wordL (q : Nat × Int) : Cond := .constantLong (cN (q.1 / 1000)) (q.1 % 1000) (Int64.ofInt q.2)
def cK (k : Nat) : String := if k = 22 then "[[I" else cN k
def wordK (q : Nat × Nat) : Cond := .classLink (cN (q.1 / 1000)) (q.1 % 1000) (cK q.2)
def sN : Nat → String := fun j => match j with
  | 0 => "PARENTS"
  | 1 => "SIZE_BODIES"
  | _ => "MARK_BODIES"
def wordS (q : Nat × Nat) : Cond := .fieldLink (cN (q.1 / 1000)) (q.1 % 1000) RX1 (sN q.2) "[I"
def arraycopyN : MethodName := ⟨"java/lang/System", "arraycopy", "(Ljava/lang/Object;ILjava/lang/Object;II)V"⟩
def mYY (k : Nat) : MethodName := if k = 1000 then arraycopyN else if k = 1001 then objectInit else if k = 1002 then Lib.Math.max.name else if k = 1003 then Lib.Math.min.name else mY k
/-- the one link of a nest mate's constructor -/
def isNest (q : Nat × Nat) : Bool := q.1 == 7018
def wordM (q : Nat × Nat) : Cond := if isNest q then .methodLinkNest (cN (q.1 / 1000)) (q.1 % 1000) (mYY q.2) "ElbowQueue" else .methodLink (cN (q.1 / 1000)) (q.1 % 1000) (mYY q.2)
set_option maxRecDepth 100000 in
theorem wF : ∀ q ∈ poolF, wordF q ∈ tables_1 := by decide +kernel
set_option maxRecDepth 100000 in
theorem wC : ∀ q ∈ poolC, wordC q ∈ tables_1 := by decide +kernel
set_option maxRecDepth 100000 in
theorem wL : ∀ q ∈ poolL, wordL q ∈ tables_1 := by decide +kernel
set_option maxRecDepth 100000 in
theorem wK : ∀ q ∈ poolK, wordK q ∈ tables_1 := by decide +kernel
set_option maxRecDepth 100000 in
theorem wS : ∀ q ∈ poolS, wordS q ∈ tables_1 := by decide +kernel
/-- the links of methods, each with its place among the words -/
def poolMP : List ((Nat × Nat) × Nat) := [((7001, 1001), 17), ((7009, 44), 22), ((4001, 1001), 25), ((3003, 1001), 44), ((7025, 56), 60), ((5003, 1001), 63), ((7035, 60), 108), ((6003, 1001), 111), ((7044, 0), 159), ((3, 1001), 162), ((17, 60), 165), ((7053, 13), 178), ((2003, 1001), 181), ((2021, 60), 183), ((7062, 5), 203), ((1003, 1001), 206), ((7079, 45), 269), ((7083, 46), 272), ((7087, 119), 276), ((7091, 51), 281), ((7095, 120), 285), ((7098, 47), 293), ((7101, 50), 297), ((7105, 52), 301), ((7109, 48), 309), ((7112, 53), 313), ((4021, 1000), 317), ((7116, 54), 324), ((7119, 117), 332), ((7123, 30), 335), ((7128, 31), 340), ((7131, 34), 348), ((3025, 57), 352), ((3030, 35), 356), ((3040, 39), 360), ((3054, 38), 364), ((3044, 41), 368), ((3074, 42), 372), ((3034, 36), 375), ((3057, 43), 379), ((3060, 58), 382), ((3037, 37), 386), ((3070, 40), 390), ((7140, 33), 395), ((7144, 59), 399), ((5037, 1000), 403), ((7147, 61), 404), ((6058, 81), 408), ((7150, 2), 412), ((7164, 3), 425), ((27, 62), 429), ((6062, 1003), 433), ((6068, 1000), 436), ((31, 1003), 437), ((7168, 72), 438), ((6086, 73), 442), ((6082, 63), 446), ((6100, 74), 450), ((6089, 75), 454), ((6093, 76), 458), ((6104, 77), 462), ((6110, 78), 466), ((6096, 79), 470), ((6078, 68), 474), ((7175, 118), 482), ((7182, 63), 486), ((7185, 64), 487), ((7189, 66), 495), ((7193, 75), 501), ((7202, 1), 510), ((7205, 4), 514), ((7217, 65), 526), ((7220, 15), 534), ((2042, 62), 538), ((2046, 14), 539), ((2034, 69), 542), ((2038, 72), 546), ((7224, 67), 547), ((7227, 18), 559), ((2066, 16), 563), ((2050, 17), 567), ((2058, 70), 571), ((2062, 71), 575), ((7230, 22), 584), ((2070, 64), 588), ((7234, 19), 593), ((7238, 20), 601), ((7241, 23), 609), ((2074, 82), 613), ((2078, 83), 617), ((6116, 72), 621), ((6119, 80), 622), ((7244, 24), 630), ((2082, 25), 634), ((2097, 68), 638), ((2100, 26), 639), ((2088, 27), 644), ((7248, 28), 652), ((2104, 67), 656), ((7251, 49), 661), ((7257, 21), 665), ((7260, 62), 673), ((7265, 6), 686), ((7268, 8), 695), ((1031, 9), 699), ((1040, 10), 703), ((1047, 1002), 706), ((1044, 11), 713), ((1058, 12), 717), ((1067, 63), 721), ((7270, 7), 726), ((7273, 55), 735), ((7279, 32), 739), ((8001, 1001), 752), ((8067, 125), 824), ((8063, 122), 828), ((8074, 123), 833), ((8078, 124), 838), ((8122, 139), 864), ((8109, 133), 868), ((8094, 131), 872), ((8106, 134), 876), ((8100, 132), 880), ((8115, 138), 885), ((8112, 136), 889), ((8103, 135), 893), ((8119, 137), 896), ((8132, 142), 901), ((8157, 144), 913), ((8164, 154), 919), ((8167, 153), 923), ((8148, 148), 927), ((8135, 146), 931), ((8138, 147), 935), ((8144, 149), 939), ((8151, 151), 943), ((8141, 150), 947), ((8154, 152), 951), ((8171, 143), 959), ((8176, 156), 964), ((8179, 157), 968), ((8184, 159), 976), ((8193, 165), 1004), ((8196, 167), 1008), ((8199, 168), 1012), ((8202, 166), 1016), ((8205, 171), 1028), ((8208, 175), 1044), ((8213, 177), 1053), ((8216, 178), 1057), ((8223, 182), 1067), ((8226, 181), 1070), ((8230, 180), 1073), ((8233, 185), 1084), ((8237, 190), 1104), ((8270, 197), 1111), ((8255, 145), 1115), ((8258, 195), 1119), ((8243, 192), 1123), ((8249, 194), 1127), ((8246, 193), 1131), ((8261, 196), 1135), ((8252, 200), 1139), ((8267, 199), 1143), ((8264, 198), 1147), ((8273, 203), 1159), ((7018, 29), 41)]
/-- of each method: the places of its code, of its class as initialised, of static or instanceMethod (all in tables_1), of selects (in lw_tbl) -/
def mPl : List (Nat × Nat × Nat × Nat) := [(161, 6, 160, 0), (513, 6, 511, 580), (415, 6, 413, 482), (428, 6, 426, 495), (517, 6, 515, 584), (205, 8, 204, 0), (688, 8, 687, 0), (729, 8, 727, 796), (698, 8, 696, 765), (702, 8, 701, 21), (705, 8, 704, 0), (716, 8, 715, 22), (720, 8, 719, 23), (180, 7, 179, 0), (541, 7, 540, 0), (537, 7, 535, 604), (566, 7, 565, 17), (570, 7, 569, 18), (562, 7, 560, 629), (596, 7, 594, 663), (604, 7, 602, 671), (668, 7, 666, 735), (587, 7, 585, 654), (612, 7, 610, 679), (633, 7, 631, 700), (637, 7, 636, 19), (642, 7, 641, 20), (646, 7, 645, 0), (655, 7, 653, 722), (43, 3, 42, 0), (338, 3, 336, 405), (343, 3, 341, 410), (742, 3, 740, 809), (398, 3, 396, 465), (351, 3, 349, 418), (359, 3, 358, 2), (378, 3, 377, 6), (389, 3, 388, 7), (367, 3, 366, 4), (363, 3, 362, 3), (393, 3, 392, 8), (371, 3, 370, 5), (374, 3, 373, 0), (381, 3, 380, 0), (24, 2, 23, 0), (271, 2, 270, 0), (274, 2, 273, 0), (296, 2, 294, 363), (312, 2, 310, 379), (664, 2, 662, 731), (300, 2, 298, 367), (284, 2, 282, 351), (304, 2, 302, 371), (316, 2, 314, 383), (327, 2, 325, 394), (738, 2, 736, 805), (62, 4, 61, 0), (355, 4, 353, 422), (385, 4, 383, 452), (402, 4, 400, 469), (110, 5, 109, 0), (407, 5, 405, 474), (432, 5, 430, 499), (449, 5, 447, 516), (490, 5, 488, 557), (529, 5, 527, 596), (498, 5, 496, 565), (550, 5, 548, 617), (477, 5, 475, 544), (545, 5, 543, 612), (574, 5, 572, 641), (578, 5, 576, 645), (441, 5, 439, 508), (445, 5, 444, 10), (453, 5, 452, 11), (457, 5, 455, 524), (461, 5, 460, 12), (465, 5, 464, 13), (469, 5, 468, 14), (473, 5, 472, 15), (625, 5, 623, 692), (411, 5, 410, 9), (616, 5, 614, 683), (620, 5, 618, 687), (16, 1, 15, 0), (268, 1, 266, 335), (292, 1, 290, 359), (308, 1, 306, 375), (323, 1, 321, 390), (331, 1, 329, 398), (347, 1, 345, 414), (419, 1, 417, 486), (423, 1, 421, 490), (481, 1, 479, 548), (494, 1, 492, 561), (505, 1, 503, 572), (509, 1, 507, 576), (521, 1, 519, 588), (525, 1, 523, 592), (533, 1, 531, 600), (554, 1, 552, 621), (558, 1, 556, 625), (583, 1, 581, 650), (592, 1, 590, 659), (600, 1, 598, 667), (608, 1, 606, 675), (629, 1, 627, 696), (651, 1, 649, 718), (660, 1, 658, 727), (672, 1, 670, 739), (677, 1, 675, 744), (681, 1, 679, 748), (685, 1, 683, 752), (694, 1, 692, 761), (725, 1, 723, 792), (734, 1, 732, 801), (746, 1, 744, 813), (334, 1, 333, 0), (485, 1, 484, 16), (279, 1, 278, 0), (288, 1, 287, 1), (751, 9, 750, 0), (830, 9, 829, 0), (836, 9, 835, 24), (841, 9, 840, 25), (826, 9, 825, 0), (823, 9, 821, 890), (845, 9, 843, 912), (849, 9, 847, 916), (853, 9, 851, 920), (857, 9, 855, 924), (875, 9, 874, 28), (882, 9, 881, 0), (871, 9, 870, 27), (879, 9, 878, 29), (895, 9, 894, 0), (892, 9, 891, 31), (899, 9, 898, 32), (888, 9, 887, 30), (867, 9, 866, 26), (863, 9, 861, 930), (908, 9, 906, 975), (904, 9, 903, 33), (962, 9, 961, 44), (916, 9, 915, 34), (1118, 9, 1117, 58), (934, 9, 933, 38), (938, 9, 937, 39), (930, 9, 929, 37), (942, 9, 941, 40), (950, 9, 949, 42), (946, 9, 945, 41), (954, 9, 953, 43), (926, 9, 925, 36), (922, 9, 921, 35), (912, 9, 910, 979), (967, 9, 966, 45), (971, 9, 970, 46), (958, 9, 956, 1025), (979, 9, 978, 47), (975, 9, 973, 1042), (984, 9, 982, 1051), (989, 9, 987, 1056), (993, 9, 991, 1060), (998, 9, 996, 1065), (1007, 9, 1006, 48), (1019, 9, 1018, 51), (1011, 9, 1010, 49), (1015, 9, 1014, 50), (1002, 9, 1000, 1069), (1023, 9, 1021, 1090), (1031, 9, 1030, 52), (1027, 9, 1025, 1094), (1035, 9, 1033, 1102), (1039, 9, 1037, 1106), (1047, 9, 1046, 53), (1043, 9, 1041, 1110), (1056, 9, 1055, 54), (1060, 9, 1059, 55), (1051, 9, 1049, 1118), (1075, 9, 1074, 0), (1072, 9, 1071, 0), (1069, 9, 1068, 0), (1064, 9, 1062, 1131), (1079, 9, 1077, 1146), (1087, 9, 1086, 56), (1083, 9, 1081, 1150), (1091, 9, 1089, 1158), (1095, 9, 1093, 1162), (1099, 9, 1097, 1166), (1106, 9, 1105, 0), (1103, 9, 1101, 1170), (1126, 9, 1125, 60), (1134, 9, 1133, 62), (1130, 9, 1129, 61), (1122, 9, 1121, 59), (1138, 9, 1137, 63), (1114, 9, 1113, 57), (1150, 9, 1149, 66), (1146, 9, 1145, 65), (1142, 9, 1141, 64), (1110, 9, 1108, 1177), (1154, 9, 1152, 1221), (1162, 9, 1161, 67), (1158, 9, 1156, 1225), (1166, 9, 1164, 1233)]
set_option maxRecDepth 100000 in
theorem poolM_e : poolM = poolMP.map (fun x => x.1) := by decide +kernel
set_option maxRecDepth 100000 in
theorem wMP : ∀ x ∈ poolMP, tables_1[x.2]? = some (wordM x.1) := by decide +kernel
theorem wM : ∀ q ∈ poolM, wordM q ∈ tables_1 := fun q hq => by
  rw [poolM_e] at hq
  obtain ⟨x, hx, rfl⟩ := List.mem_map.mp hq
  exact List.mem_of_getElem? (wMP x hx)
def wCode (k : Nat) : Cond := .code (mY k) (mB k) (mL k) (mR k)
def wSt (k : Nat) : Cond := if mS k then .static (mY k) else .instanceMethod (mY k)
def wSel (k : Nat) : Cond := .selects (mY k).cls (mY k) (mY k)
def wIni (k : Nat) : Cond := .initialized (mY k).cls
set_option maxRecDepth 100000 in
theorem mW1 : mPl.map (fun q => tables_1[q.1]?) = mT.map (fun x => some (Cond.code x.2.1 x.2.2.1 x.2.2.2.1 x.2.2.2.2.1)) := rfl
set_option maxRecDepth 100000 in
theorem mW2 : (List.range 206).all (fun k => decide (tables_1[(mPl.getD k (0, 0, 0, 0)).2.1]? = some (wIni k))) = true := by decide +kernel
set_option maxRecDepth 100000 in
theorem mW3 : (List.range 206).all (fun k => decide (tables_1[(mPl.getD k (0, 0, 0, 0)).2.2.1]? = some (wSt k))) = true := by decide +kernel
set_option maxRecDepth 100000 in
theorem mW4 : (List.range 206).all (fun k => mS k || decide ((mY k).name = "<init>") || decide (lw_tbl[(mPl.getD k (0, 0, 0, 0)).2.2.2]? = some (wSel k))) = true := by decide +kernel
set_option maxRecDepth 100000 in
theorem mW5 : (List.range 206).all (fun k => decide ((mY k).cls = cN (mOwn k) ∧ mL k ≤ 20 ∧ (mY k).cls ≠ "java/lang/invoke/MethodHandle" ∧ (mY k).cls ≠ "java/lang/invoke/VarHandle" ∧ (parseMethodDescriptor (mY k).desc).map (fun d => d.parameters.length) = some (mP k))) = true := by decide +kernel
set_option maxRecDepth 100000 in
theorem pF_ok : ∀ q ∈ poolF, q.2.1 < 9 := by decide +kernel
/-- the words that stay when the tables grow warm -/
def gwT : List Cond := lw_tbl.filter goodWord
theorem tb_in {w : Cond} (h : w ∈ tables_1) (hg : goodWord w = true := by rfl) : w ∈ gwT := List.mem_filter.mpr ⟨List.mem_append_right _ h, hg⟩
set_option maxRecDepth 100000 in
theorem cls_cl : ∀ ci < 9, vwCl[ci]? = some (cN ci, Ct ci, fnum ci) := fun ci h => by
  rcases (show ci = 0 ∨ ci = 1 ∨ ci = 2 ∨ ci = 3 ∨ ci = 4 ∨ ci = 5 ∨ ci = 6 ∨ ci = 7 ∨ ci = 8 by omega) with rfl | rfl | rfl | rfl | rfl | rfl | rfl | rfl | rfl <;> rfl
set_option maxRecDepth 100000 in
theorem cls_ws : ∀ ci < 9, ∀ w ∈ u_ws (cN ci) (Ct ci) (fnum ci), w ∈ tables_1 := by decide +kernel
set_option maxRecDepth 100000 in
theorem cls_wsg : ∀ ci < 9, ∀ w ∈ u_ws (cN ci) (Ct ci) (fnum ci), goodWord w = true := by decide +kernel
theorem cls_in {ci : Nat} (h : ci < 9) : ∀ w ∈ u_ws (cN ci) (Ct ci) (fnum ci), w ∈ gwT := fun w hw => tb_in (cls_ws _ h w hw) (cls_wsg _ h w hw)
set_option maxRecDepth 100000 in
theorem cls_ty : ∀ ci < 9, ∀ k, k < fnum ci → parseFieldDescriptor (Ct ci k).2.2.1 = some (Cty ci k) := by decide +kernel
set_option maxRecDepth 100000 in
theorem cls_nm : ∀ ci < 9, ∀ a, a < fnum ci → ∀ b, b < fnum ci → a ≠ b → (Ct ci a).2.1 ≠ (Ct ci b).2.1 := by decide +kernel
set_option maxRecDepth 100000 in
theorem cls_inst : ∀ ci < 9, Cond.instantiable (cN ci) (fnum ci) ∈ tables_1 ∧ Cond.initialized (cN ci) ∈ tables_1 := by decide +kernel
set_option maxRecDepth 100000 in
theorem cls_fin : ∀ ci < 9, ∀ k, k < fnum ci → (Ct ci k).2.2.2 = ffi ci k ∧ (Ct ci k).1 = cN ci := by decide +kernel
def isRefT : FieldType → Bool := fun t => match t with
  | .object _ | .array _ => true
  | _ => false
set_option maxRecDepth 100000 in
theorem cls_fty : ∀ ci < 9, ∀ k, k < fnum ci → (fty ci k = 0 → Cty ci k = .int) ∧ (fty ci k = 1 → isRefT (Cty ci k) = true) ∧ (fty ci k = 2 → Cty ci k = .boolean) ∧ fty ci k ≤ 2 := by decide +kernel
end
section
def tysOf (cA : Nat → ClassId) : List (ClassId × FieldType) := [(cA 20, .int), (cA 21, .boolean), (cA 22, .array .int), (cA 23, .object RX5), (cA 24, .object RX6)]
/-- the words that a call carries by itself: arrays over classes, a nest mate's constructor -/
def XW (s : State) : Prop := va_AO RX5 s ∧ va_AO RX6 s ∧ va_Nw (.arrayOver (.array .int)) s ∧ va_Nw (.methodLinkNest "ElbowQueue" 18 ⟨"ElbowQueue$Reader", "<init>", "()V"⟩ "ElbowQueue") s
/-- what is known of the tables and of the statics at a method's start -/
def CK (D : va_G) (cA : Nat → ClassId) (base : Nat) (tt : Nat → Nat) (s : State) (args : Array Value) : Prop :=
  (∀ w ∈ gwT, w.before args s = true) ∧ va_K D vwCl (tysOf cA) s ∧ (∀ j, j < 3 → va_Z RX1 (sN j) "[I" (.ref (tt j)) (fun q => base ≤ q) s s.heap ∧ va_T .int (tt j) 6 (fun i => .int (Int32.ofInt ((sT j).getD i 0))) (fun q => base ≤ q) s s.heap) ∧ base ≤ s.heap.size ∧ XW s
theorem key_div {own idx : Nat} (h : idx < 1000) : (own * 1000 + idx) / 1000 = own ∧ (own * 1000 + idx) % 1000 = idx := by omega
theorem ph_lt {base : Nat} {tt : Nat → Nat} {a : Nat} (h : a < 1000000) : ph base tt a = base + a := if_neg (by omega)
theorem ph_st {base : Nat} {tt : Nat → Nat} {j : Nat} : ph base tt (1000000 + j) = tt j := by
  unfold ph
  rw [if_pos (Nat.le_add_right _ _), Nat.add_sub_cancel_left]
theorem S_lt {S : List Sh} {a : Nat} {h : Sh} (hs : S[a]? = some h) (hl : S.length ≤ 1000000) : a < S.length ∧ a < 1000000 := by
  have h1 := (List.getElem?_eq_some_iff.mp hs).1
  exact ⟨h1, by omega⟩
theorem cellE_obj {f : Nat → Nat} {cA : Nat → ClassId} {M : Mem} {a ci n : Nat} {rf : List (Option Nat)} (h : ci < 9) : cellE f cA M a (ci, n, rf) = .inr (ci, (List.range (fnum ci)).map (slotV f M a ci rf)) := if_pos h
theorem cellE_arr {f : Nat → Nat} {cA : Nat → ClassId} {M : Mem} {a kd n : Nat} {rf : List (Option Nat)} (h : kd = 20 ∨ kd = 21) : cellE f cA M a (kd, n, rf) = .inl (cA kd, n, .inl (fun i => Int32.ofInt (M a (i : Int)))) := by
  unfold cellE
  rw [if_neg (by simp; omega), if_pos (by simp; omega)]
theorem cellE_ref {f : Nat → Nat} {cA : Nat → ClassId} {M : Mem} {a kd n : Nat} {rf : List (Option Nat)} (h : kd = 22 ∨ kd = 23 ∨ kd = 24) : cellE f cA M a (kd, n, rf) = .inl (cA kd, n, .inr (.inr (.inr (.inr (fun i => (rf.getD i none).map f))))) := by
  unfold cellE
  rw [if_neg (by simp; omega), if_neg (by simp; omega)]
theorem mu_R {M : Mem} {a : Nat} {i x : Int} (h : ∀ a i, inR (M a i)) (hx : inR x) : ∀ b j, inR (mu M a i x b j) := fun b j => by
  unfold mu
  split
  · exact hx
  · exact h b j
theorem mzs_R {M : Mem} {a : Nat} (h : ∀ a i, inR (M a i)) : ∀ b j, inR (mzs M a b j) := fun b j => by
  unfold mzs
  split
  · exact inR_0
  · exact h b j
theorem mu_ne {M : Mem} {a b : Nat} {i x : Int} (h : b ≠ a) (j : Int) : mu M a i x b j = M b j := if_neg (fun q => h q.1)
theorem tot_set {S : List Sh} {a kd n : Nat} {rf rf' : List (Option Nat)} (h : S[a]? = some (kd, n, rf)) : tot (S.set a (kd, n, rf')) = tot S := by
  unfold tot
  have e : (S.set a (kd, n, rf')).map (fun h : Sh => h.2.1) = S.map (fun h : Sh => h.2.1) := by
    apply List.ext_getElem?
    intro b
    by_cases e : b = a
    · subst e
      rw [List.getElem?_map, List.getElem?_set_self (List.getElem?_eq_some_iff.mp h).1, List.getElem?_map, h]
      rfl
    · rw [List.getElem?_map, List.getElem?_set_ne (fun q => e q.symm), List.getElem?_map]
  rw [e]
theorem tot_app (S T : List Sh) : tot (S ++ T) = tot S + tot T := by simp [tot]
section SIMH
variable {p : Program} {l : Launch} {e : Env} {R : Room} {s : State} {m : MethodId} {args : Array Value} {below : List Frame} {meth : Method} {c : Code} {H : Heap} {locs : List Loc} {cells slots : Nat} {Q : State → Prop}
variable {cc : ByteArray} {pc : Nat} {ls : Array Slot}
variable {D : va_G} {cA : Nat → ClassId} {base : Nat} {tt : Nat → Nat} {nL MC MS : Nat} {Sf S S' : List Sh} {M M' : Mem} {mls mls' : Lv} {mst mst' : List Vv} {pc' own idx : Nat}
theorem HI.put (h : HI D cA base tt s MC MS Sf S M H locs cells slots) {H1 : Heap} {locs1 : List Loc} (hP : va_P D vwCl (world base (ph base tt) cA S' M') H1) (hS : va_S (fun q => base ≤ q) s.heap H1 locs1) (hM : ∀ a i, inR (M' a i)) (hl : S'.length = S.length) (ht : tot S' = tot S) : HI D cA base tt s MC MS Sf S' M' H1 locs1 cells slots :=
  ⟨hP, hS, hM, by rw [hl]; exact h.2.2.2.1, by rw [hl]; exact h.2.2.2.2.1, by rw [hl]; exact h.2.2.2.2.2.1, by rw [ht]; exact h.2.2.2.2.2.2⟩
theorem sh_getf (hx : p.tables.exec = Jvm.exec) (hb : c.code = cc) (hC : CK D cA base tt s args) (hown : s.vm.findClass (cN own) = some m.cls) (hix : idx < 1000) (hH : HI D cA base tt s MC MS Sf S M H locs cells slots) (hL : LR (ph base tt) nL mls ls) (hst : ∀ v ∈ mst, okV v) (hd : decode cc pc = .ok (.getfield idx, 3)) (ha : aGetf (own * 1000 + idx) pc mls mst S M = some (.inl (pc', mls', mst', S', M'))) (K : KK p l e R s m args below meth c Q D cA base tt nL MC MS Sf pc' mls' mst' S' M') : W p l e R s m args below meth c H locs cells slots Q (F0 m pc ls (mst.map (rv (ph base tt)))) := by
  unfold aGetf at ha
  split at ha
  · next a rest ci k hk =>
    split at ha
    · next kd n rf hs =>
      split at ha
      · next hc =>
        obtain ⟨rfl, hk9⟩ := hc
        obtain ⟨hP, hS, hM, hSl, -⟩ := id hH
        have hw := wF _ (lk_mem hk)
        have hci := pF_ok _ (lk_mem hk)
        unfold wordF at hw
        rw [(key_div hix).1, (key_div hix).2] at hw
        have hat := world_at (base := base) (f := ph base tt) (cA := cA) (M := M) hs
        rw [cellE_obj hci] at hat
        have hr : rv (ph base tt) (vR (some a)) = .ref (base + a) := by show Value.ref (ph base tt a) = _; rw [ph_lt (S_lt hs hSl).2]
        have hf : ∀ v : Vv, okV v → go (pc + 3) mls (v :: rest) S M = some (.inl (pc', mls', mst', S', M')) → slotV (ph base tt) M a kd rf k = rv (ph base tt) v → W p l e R s m args below meth c H locs cells slots Q (F0 m pc ls ((vR (some a) :: rest).map (rv (ph base tt)))) := by
          intro v hv hg he
          obtain ⟨rfl, rfl, rfl, rfl, rfl⟩ := go_inj hg
          rw [List.map_cons, hr]
          refine va_get hx hb hC.1 (cls_in hci) hown hC.2.1 hP a hat (cls_cl _ hci) k hk9 (hC.1 _ (tb_in hw)) (fun x h => h) (v := rv (ph base tt) v) ?_ hd (K H locs cells slots ls hH hL (ok1 (okt hst) hv))
          rw [List.getElem?_map, List.getElem?_range hk9]
          simp [he]
        split at ha
        · next h1 => exact hf (vR (rf.getD k none)) trivial ha (by simp [slotV, h1, rv])
        · next h1 => exact hf (vI (M a k)) (hM a k) ha (by simp [slotV, h1, rv])
      · cases ha
    · cases ha
  · cases ha
theorem fs_set {f : Nat → Nat} {M M' : Mem} {a ci k : Nat} {rf rf' : List (Option Nat)} {v : Value} (hv : v = slotV f M' a ci rf' k) (ho : ∀ j, j ≠ k → slotV f M a ci rf j = slotV f M' a ci rf' j) : ((List.range (fnum ci)).map (slotV f M a ci rf)).set k v = (List.range (fnum ci)).map (slotV f M' a ci rf') := by
  apply List.ext_getElem?
  intro j
  by_cases hj : j < fnum ci
  · by_cases e : j = k
    · subst e
      rw [List.getElem?_set_self (by simpa using hj), List.getElem?_map, List.getElem?_range hj, hv]
      rfl
    · rw [List.getElem?_set_ne (fun q => e q.symm), List.getElem?_map, List.getElem?_map, List.getElem?_range hj]
      simp [ho j e]
  · rw [List.getElem?_eq_none (by simp; omega), List.getElem?_eq_none (by simp; omega)]
theorem cast_ne {j k : Nat} (h : j ≠ k) : (j : Int) ≠ (k : Int) := fun q => h (Int.ofNat.inj q)
theorem nar_ref {t : FieldType} (h : isRefT t = true) (f : Nat → Nat) (r : Nat) : narrow t (.ref r) = .ref r ∧ fits t (.ref r) = true := by
  cases t <;> first | exact ⟨rfl, rfl⟩ | cases h
theorem nar_z {x : Int} (h : x = 0 ∨ x = 1) : narrow .boolean (.int (Int32.ofInt x)) = .int (Int32.ofInt x) ∧ fits .boolean (.int (Int32.ofInt x)) = true := by
  rcases h with rfl | rfl
  · exact ⟨by decide, by decide⟩
  · exact ⟨by decide, by decide⟩
theorem S_set_ne {S : List Sh} {a b : Nat} {h : Sh} (e : b ≠ a) : (S.set a h)[b]? = S[b]? := List.getElem?_set_ne (fun q => e q.symm)
theorem sh_putf (hx : p.tables.exec = Jvm.exec) (hb : c.code = cc) (hC : CK D cA base tt s args) (hown : s.vm.findClass (cN own) = some m.cls) {ini : Bool} (hini : ini = true → meth.name = "<init>") (hix : idx < 1000) (hH : HI D cA base tt s MC MS Sf S M H locs cells slots) (hL : LR (ph base tt) nL mls ls) (hst : ∀ v ∈ mst, okV v) (hd : decode cc pc = .ok (.putfield idx, 3)) (ha : aPutf own ini (own * 1000 + idx) pc mls mst S M = some (.inl (pc', mls', mst', S', M'))) (K : KK p l e R s m args below meth c Q D cA base tt nL MC MS Sf pc' mls' mst' S' M') : W p l e R s m args below meth c H locs cells slots Q (F0 m pc ls (mst.map (rv (ph base tt)))) := by
  unfold aPutf at ha
  split at ha
  · next v a rest ci k hk =>
    split at ha
    · next kd n rf hs =>
      split at ha
      · next hc =>
        obtain ⟨rfl, hk9, hfin⟩ := hc
        obtain ⟨hP, hS, hM, hSl, -⟩ := id hH
        have hw := wF _ (lk_mem hk)
        have hci := pF_ok _ (lk_mem hk)
        unfold wordF at hw
        rw [(key_div hix).1, (key_div hix).2] at hw
        have hat := world_at (base := base) (f := ph base tt) (cA := cA) (M := M) hs
        rw [cellE_obj hci] at hat
        obtain ⟨hal, ham⟩ := S_lt hs hSl
        have hr : rv (ph base tt) (vR (some a)) = .ref (base + a) := by show Value.ref (ph base tt a) = _; rw [ph_lt ham]
        obtain ⟨t0, t1, t2, -⟩ := cls_fty _ hci k hk9
        have hcf := cls_fin _ hci k hk9
        have hf : ∀ (S2 : List Sh) (M2 : Mem), narrow (Cty kd k) (rv (ph base tt) v) = rv (ph base tt) v → fits (Cty kd k) (rv (ph base tt) v) = true → go (pc + 3) mls rest S2 M2 = some (.inl (pc', mls', mst', S', M')) → (world base (ph base tt) cA S M).set a (base + a, .inr (kd, ((List.range (fnum kd)).map (slotV (ph base tt) M a kd rf)).set k (rv (ph base tt) v))) = world base (ph base tt) cA S2 M2 → (∀ a i, inR (M2 a i)) → S2.length = S.length → tot S2 = tot S → W p l e R s m args below meth c H locs cells slots Q (F0 m pc ls ((v :: vR (some a) :: rest).map (rv (ph base tt)))) := by
          intro S2 M2 hn hft hg hw2 hM2 hl2 ht2
          obtain ⟨rfl, rfl, rfl, rfl, rfl⟩ := go_inj hg
          rw [List.map_cons, List.map_cons, hr]
          have KK1 : ∀ (H1 : Heap) (locs1 : List Loc), va_P D vwCl ((world base (ph base tt) cA S M).set a (base + a, .inr (kd, ((List.range (fnum kd)).map (slotV (ph base tt) M a kd rf)).set k (rv (ph base tt) v)))) H1 → va_D (fun q => base ≤ q) ((world base (ph base tt) cA S M).set a (base + a, .inr (kd, ((List.range (fnum kd)).map (slotV (ph base tt) M a kd rf)).set k (rv (ph base tt) v)))) → va_S (fun q => base ≤ q) s.heap H1 locs1 → W p l e R s m args below meth c H1 locs1 cells slots Q (F0 m (pc + 3) ls (rest.map (rv (ph base tt)))) := by
            intro H1 locs1 p1 _ p3
            rw [hw2] at p1
            exact K H1 locs1 cells slots ls (hH.put p1 p3 hM2 hl2 ht2) hL (okt (okt hst))
          rcases hfin with hfin | hfin
          · exact va_put hx hb hC.1 (cls_in hci) (Cty kd) (cls_ty _ hci) (cls_nm _ hci) hown hC.2.1 hP world_D hS a hat (cls_cl _ hci) k hk9 (hC.1 _ (tb_in hw)) (fun x h => h) (hcf.1.trans hfin) (cls_ty _ hci k hk9) hn hft (by simpa using hk9) hd KK1
          · by_cases hq : ffi kd k = true
            · exact va_putF hx hb hC.1 (cls_in hci) (Cty kd) (cls_ty _ hci) (cls_nm _ hci) hown hC.2.1 hP world_D hS a hat (cls_cl _ hci) k hk9 (hC.1 _ (tb_in hw)) (fun x h => h) (hcf.1.trans hq) (hini hfin.1) (by rw [hfin.2]; exact hcf.2) (cls_ty _ hci k hk9) hn hft (by simpa using hk9) hd KK1
            · exact va_put hx hb hC.1 (cls_in hci) (Cty kd) (cls_ty _ hci) (cls_nm _ hci) hown hC.2.1 hP world_D hS a hat (cls_cl _ hci) k hk9 (hC.1 _ (tb_in hw)) (fun x h => h) (hcf.1.trans (by simpa using hq)) (cls_ty _ hci k hk9) hn hft (by simpa using hk9) hd KK1
        split at ha
        · next x =>
          split at ha
          · next h1 =>
            have hxr : inR x := okh hst
            have hnf : narrow (Cty kd k) (rv (ph base tt) (vI x)) = rv (ph base tt) (vI x) ∧ fits (Cty kd k) (rv (ph base tt) (vI x)) = true := by
              rcases h1 with h1 | ⟨h1, h2⟩
              · rw [t0 h1]; exact ⟨rfl, rfl⟩
              · rw [t2 h1]; exact nar_z h2
            have hne : ¬ fty kd k = 1 := by omega
            refine hf S (mu M a k x) hnf.1 hnf.2 ha ?_ (mu_R hM hxr) rfl rfl
            refine world_set hs ?_ (fun _ _ => rfl) (fun b hb2 j => mu_ne hb2 j) hal
            rw [cellE_obj hci]
            congr 2
            refine fs_set ?_ (fun j hj => ?_)
            · simp [slotV, hne, mu, rv]
            · simp [slotV, mu, cast_ne hj]
          · cases ha
        · next r =>
          split at ha
          · next h1 =>
            have hnf := nar_ref (t1 h1.1) (ph base tt) (ph base tt r)
            refine hf (S.set a (kd, n, rf.set k (some r))) M hnf.1 hnf.2 ha ?_ hM (List.length_set ..) (tot_set hs)
            refine world_set (List.getElem?_set_self hal) ?_ (fun b hb2 => S_set_ne hb2) (fun b _ j => rfl) hal
            rw [cellE_obj hci]
            congr 2
            refine fs_set ?_ (fun j hj => ?_)
            · simp [slotV, h1.1, rv, List.getD_eq_getElem?_getD, List.getElem?_set_self h1.2]
            · simp [slotV, List.getD_eq_getElem?_getD, List.getElem?_set_ne (fun q => hj q.symm)]
          · cases ha
        · cases ha
      · cases ha
    · cases ha
  · cases ha
theorem sh_iald (hx : p.tables.exec = Jvm.exec) (hb : c.code = cc) (hC : CK D cA base tt s args) (hown : s.vm.findClass (cN own) = some m.cls) (hH : HI D cA base tt s MC MS Sf S M H locs cells slots) (hL : LR (ph base tt) nL mls ls) (hst : ∀ v ∈ mst, okV v) (hd : decode cc pc = .ok (.iaload, 1)) (ha : aIald pc mls mst S M = some (.inl (pc', mls', mst', S', M'))) (K : KK p l e R s m args below meth c Q D cA base tt nL MC MS Sf pc' mls' mst' S' M') : W p l e R s m args below meth c H locs cells slots Q (F0 m pc ls (mst.map (rv (ph base tt)))) := by
  unfold aIald at ha
  obtain ⟨hP, hS, hM, hSl, -⟩ := id hH
  split at ha
  · next i a rest =>
    have hir : inR i := okh hst
    split at ha
    · next h0 =>
      split at ha
      · next h1 =>
        split at ha
        · next h2 =>
          split at ha
          · next x hxs =>
            obtain ⟨rfl, rfl, rfl, rfl, rfl⟩ := go_inj ha
            obtain ⟨j, rfl⟩ : ∃ j, a = 1000000 + j := ⟨a - 1000000, by omega⟩
            have hj : j < 3 := by omega
            rw [Nat.add_sub_cancel_left] at hxs
            have hlen : i.toNat < 6 := by
              have h3 := (List.getElem?_eq_some_iff.mp hxs).1
              rcases (show j = 0 ∨ j = 1 ∨ j = 2 by omega) with rfl | rfl | rfl <;> exact h3
            have hxR : inR x := by
              have h4 := List.mem_of_getElem? hxs
              have h5 : ∀ j < 3, ∀ y ∈ sT j, inR y := by decide
              exact h5 j hj x h4
            have hr : rv (ph base tt) (vR (some (1000000 + j))) = .ref (tt j) := by show Value.ref (ph base tt (1000000 + j)) = _; rw [ph_st]
            rw [List.map_cons, List.map_cons, hr]
            refine va_ti hx hb (hC.2.2.1 j hj).2 hS (i32_in hir h0 (by omega)) ?_ hd (K H locs cells slots ls hH hL (ok1 (okt (okt hst)) (v := vI x) hxR))
            simp [rv, i32_clamp hir, List.getD_eq_getElem?_getD, hxs]
          · cases ha
        · cases ha
      · next h1 =>
        split at ha
        · next kd n rf hs =>
          split at ha
          · next hc =>
            obtain ⟨rfl, h2⟩ := hc
            obtain ⟨rfl, rfl, rfl, rfl, rfl⟩ := go_inj ha
            have hat := world_at (base := base) (f := ph base tt) (cA := cA) (M := M) hs
            rw [cellE_arr (Or.inl rfl)] at hat
            have hr : rv (ph base tt) (vR (some a)) = .ref (base + a) := by show Value.ref (ph base tt a) = _; rw [ph_lt (S_lt hs hSl).2]
            rw [List.map_cons, List.map_cons, hr]
            have K1 := K H locs cells slots ls hH hL (ok1 (okt (okt hst)) (v := vI (M a i)) (hM a i))
            have e1 : M a i = M a ((Int32.ofInt i).toNatClampNeg : Int) := by rw [i32_clamp hir, Int.toNat_of_nonneg h0]
            rw [e1] at K1
            exact va_iald hx hb hC.2.1 hP a 0 hat rfl (i32_in hir h0 h2) hd K1
          · cases ha
        · cases ha
    · cases ha
  · cases ha
theorem sh_bald (hx : p.tables.exec = Jvm.exec) (hb : c.code = cc) (hC : CK D cA base tt s args) (hown : s.vm.findClass (cN own) = some m.cls) (hH : HI D cA base tt s MC MS Sf S M H locs cells slots) (hL : LR (ph base tt) nL mls ls) (hst : ∀ v ∈ mst, okV v) (hd : decode cc pc = .ok (.baload, 1)) (ha : aBald pc mls mst S M = some (.inl (pc', mls', mst', S', M'))) (K : KK p l e R s m args below meth c Q D cA base tt nL MC MS Sf pc' mls' mst' S' M') : W p l e R s m args below meth c H locs cells slots Q (F0 m pc ls (mst.map (rv (ph base tt)))) := by
  unfold aBald at ha
  obtain ⟨hP, hS, hM, hSl, -⟩ := id hH
  split at ha
  · next i a rest =>
    have hir : inR i := okh hst
    split at ha
    · next kd n rf hs =>
      split at ha
      · next hc =>
        obtain ⟨rfl, h0, h2⟩ := hc
        obtain ⟨rfl, rfl, rfl, rfl, rfl⟩ := go_inj ha
        have hat := world_at (base := base) (f := ph base tt) (cA := cA) (M := M) hs
        rw [cellE_arr (Or.inr rfl)] at hat
        have hr : rv (ph base tt) (vR (some a)) = .ref (base + a) := by show Value.ref (ph base tt a) = _; rw [ph_lt (S_lt hs hSl).2]
        rw [List.map_cons, List.map_cons, hr]
        have K1 := K H locs cells slots ls hH hL (ok1 (okt (okt hst)) (v := vI (M a i)) (hM a i))
        have e1 : M a i = M a ((Int32.ofInt i).toNatClampNeg : Int) := by rw [i32_clamp hir, Int.toNat_of_nonneg h0]
        rw [e1] at K1
        exact va_zald hx hb hC.2.1 hP a 1 hat rfl (i32_in hir h0 h2) hd K1
      · cases ha
    · cases ha
  · cases ha
theorem upd_mu {M : Mem} {a : Nat} {i x : Int} (hi : inR i) (h0 : 0 ≤ i) : upd (fun j => Int32.ofInt (M a (j : Int))) (Int32.ofInt i).toNatClampNeg (Int32.ofInt x) = fun (j : Nat) => Int32.ofInt (mu M a i x a (j : Int)) := by
  funext j
  rw [i32_clamp hi]
  unfold upd mu
  by_cases e : j = i.toNat
  · subst e
    rw [if_pos rfl, if_pos ⟨rfl, Int.toNat_of_nonneg h0⟩]
  · rw [if_neg e, if_neg (fun q => e (by have := q.2; omega))]
theorem sh_iast (hx : p.tables.exec = Jvm.exec) (hb : c.code = cc) (hC : CK D cA base tt s args) (hown : s.vm.findClass (cN own) = some m.cls) (hH : HI D cA base tt s MC MS Sf S M H locs cells slots) (hL : LR (ph base tt) nL mls ls) (hst : ∀ v ∈ mst, okV v) (hd : decode cc pc = .ok (.iastore, 1)) (ha : aIast pc mls mst S M = some (.inl (pc', mls', mst', S', M'))) (K : KK p l e R s m args below meth c Q D cA base tt nL MC MS Sf pc' mls' mst' S' M') : W p l e R s m args below meth c H locs cells slots Q (F0 m pc ls (mst.map (rv (ph base tt)))) := by
  unfold aIast at ha
  obtain ⟨hP, hS, hM, hSl, -⟩ := id hH
  split at ha
  · next x i a rest =>
    have hxr : inR x := okh hst
    have hir : inR i := okh (okt hst)
    split at ha
    · next kd n rf hs =>
      split at ha
      · next hc =>
        obtain ⟨rfl, h0, h2⟩ := hc
        obtain ⟨rfl, rfl, rfl, rfl, rfl⟩ := go_inj ha
        have hat := world_at (base := base) (f := ph base tt) (cA := cA) (M := M) hs
        rw [cellE_arr (Or.inl rfl)] at hat
        obtain ⟨hal, ham⟩ := S_lt hs hSl
        have hr : rv (ph base tt) (vR (some a)) = .ref (base + a) := by show Value.ref (ph base tt a) = _; rw [ph_lt ham]
        rw [List.map_cons, List.map_cons, List.map_cons, hr]
        refine va_iast hx hb hC.2.1 hP world_D hS a 0 hat rfl (i32_in hir h0 h2) hd (fun H1 locs1 p1 _ p3 => ?_)
        rw [upd_mu hir h0, world_set (S' := S) (N := mu M a i x) hs (by rw [cellE_arr (Or.inl rfl)]) (fun _ _ => rfl) (fun b hb2 j => mu_ne hb2 j) hal] at p1
        exact K H1 locs1 cells slots ls (hH.put p1 p3 (mu_R hM hxr) rfl rfl) hL (okt (okt (okt hst)))
      · cases ha
    · cases ha
  · cases ha
theorem sh_bast (hx : p.tables.exec = Jvm.exec) (hb : c.code = cc) (hC : CK D cA base tt s args) (hown : s.vm.findClass (cN own) = some m.cls) (hH : HI D cA base tt s MC MS Sf S M H locs cells slots) (hL : LR (ph base tt) nL mls ls) (hst : ∀ v ∈ mst, okV v) (hd : decode cc pc = .ok (.bastore, 1)) (ha : aBast pc mls mst S M = some (.inl (pc', mls', mst', S', M'))) (K : KK p l e R s m args below meth c Q D cA base tt nL MC MS Sf pc' mls' mst' S' M') : W p l e R s m args below meth c H locs cells slots Q (F0 m pc ls (mst.map (rv (ph base tt)))) := by
  unfold aBast at ha
  obtain ⟨hP, hS, hM, hSl, -⟩ := id hH
  split at ha
  · next x i a rest =>
    have hxr : inR x := okh hst
    have hir : inR i := okh (okt hst)
    split at ha
    · next kd n rf hs =>
      split at ha
      · next hc =>
        obtain ⟨rfl, h0, h2, h3⟩ := hc
        obtain ⟨rfl, rfl, rfl, rfl, rfl⟩ := go_inj ha
        have hat := world_at (base := base) (f := ph base tt) (cA := cA) (M := M) hs
        rw [cellE_arr (Or.inr rfl)] at hat
        obtain ⟨hal, ham⟩ := S_lt hs hSl
        have hr : rv (ph base tt) (vR (some a)) = .ref (base + a) := by show Value.ref (ph base tt a) = _; rw [ph_lt ham]
        have hnz : vp_nar .boolean (Int32.ofInt x) = Int32.ofInt x := by unfold vp_nar; rw [(nar_z h3).1]
        rw [List.map_cons, List.map_cons, List.map_cons, hr]
        refine va_zast hx hb hC.2.1 hP world_D hS a 1 hat rfl (i32_in hir h0 h2) hd (fun H1 locs1 p1 _ p3 => ?_)
        rw [hnz, upd_mu hir h0, world_set (S' := S) (N := mu M a i x) hs (by rw [cellE_arr (Or.inr rfl)]) (fun _ _ => rfl) (fun b hb2 j => mu_ne hb2 j) hal] at p1
        exact K H1 locs1 cells slots ls (hH.put p1 p3 (mu_R hM hxr) rfl rfl) hL (okt (okt (okt hst)))
      · cases ha
    · cases ha
  · cases ha
end SIMH
end
section
section SIMH2
variable {p : Program} {l : Launch} {e : Env} {R : Room} {s : State} {m : MethodId} {args : Array Value} {below : List Frame} {meth : Method} {c : Code} {H : Heap} {locs : List Loc} {cells slots : Nat} {Q : State → Prop}
variable {cc : ByteArray} {pc : Nat} {ls : Array Slot}
variable {D : va_G} {cA : Nat → ClassId} {base : Nat} {tt : Nat → Nat} {nL MC MS : Nat} {Sf S S' : List Sh} {M M' : Mem} {mls mls' : Lv} {mst mst' : List Vv} {pc' own idx : Nat}
theorem W_size {g : JFrame} (h : H.size ≤ s.heap.size + cells → W p l e R s m args below meth c H locs cells slots Q g) : W p l e R s m args below meth c H locs cells slots Q g := fun T hT X => h (by rw [← hT]; exact X.heapSize) T hT X
theorem HI.size (hH : HI D cA base tt s MC MS Sf S M H locs cells slots) (hbase : base ≤ s.heap.size) (h : H.size ≤ s.heap.size + cells) : H.size = base + S.length := by
  obtain ⟨hP, hS, hM, hSl, hsz, -⟩ := hH
  by_cases h0 : S.length = 0
  · have := hS.1
    omega
  · obtain ⟨x, hx⟩ : ∃ x, S[S.length - 1]? = some x := ⟨_, List.getElem?_eq_getElem (by omega)⟩
    have h1 := (hP _ _ (world_at hx)).lt
    simp only at h1
    omega
theorem HI.push (hH : HI D cA base tt s MC MS Sf S M H locs cells slots) {H1 : Heap} {h : Sh} {N : Mem} (hlt : S.length < 1000000) (hbase : base ≤ s.heap.size) (hsz : H.size = base + S.length) (o1 : ∀ q, q < H.size → H1[q]? = H[q]?) (z1 : H1.size = H.size + 1) (hat : va_at D vwCl (base + S.length, cellE (ph base tt) cA N S.length h) H1) (hN : ∀ b, b < S.length → ∀ i, N b i = M b i) (hNR : ∀ a i, inR (N a i)) : HI D cA base tt s MC MS Sf (S ++ [h]) N H1 locs (cells + 1) (slots + h.2.1) := by
  obtain ⟨hP, hS, hM, hSl, h1, h2, h3⟩ := hH
  refine ⟨?_, ⟨by have := hS.1; omega, fun q q1 q2 => (o1 q (by have := hS.1; omega)).trans (hS.2.1 q q1 q2), hS.2.2⟩, hNR, by simp; omega, by simp; omega, by simp; omega, by rw [tot_app]; simp [tot] at h3 ⊢; omega⟩
  rw [← world_app (M := M) rfl hN]
  refine va_P.app (hP.kept (fun k x hx => o1 x.1 ((hP k x hx).lt))) (fun k x hx => ?_)
  have hz : k < 1 := (List.getElem?_eq_some_iff.mp hx).1
  rw [show k = 0 by omega] at hx
  cases hx
  exact hat
theorem mzs_lt {M : Mem} {a b : Nat} (h : b < a) (i : Int) : mzs M a b i = M b i := if_neg (by omega)
theorem mzs_self {M : Mem} {a : Nat} (i : Int) : mzs M a a i = 0 := if_pos (Nat.le_refl a)
theorem sh_aald (hx : p.tables.exec = Jvm.exec) (hb : c.code = cc) (hC : CK D cA base tt s args) (hown : s.vm.findClass (cN own) = some m.cls) (hH : HI D cA base tt s MC MS Sf S M H locs cells slots) (hL : LR (ph base tt) nL mls ls) (hst : ∀ v ∈ mst, okV v) (hd : decode cc pc = .ok (.aaload, 1)) (ha : aAald pc mls mst S M = some (.inl (pc', mls', mst', S', M'))) (K : KK p l e R s m args below meth c Q D cA base tt nL MC MS Sf pc' mls' mst' S' M') : W p l e R s m args below meth c H locs cells slots Q (F0 m pc ls (mst.map (rv (ph base tt)))) := by
  unfold aAald at ha
  obtain ⟨hP, hS, hM, hSl, -⟩ := id hH
  split at ha
  · next i a rest =>
    have hir : inR i := okh hst
    split at ha
    · next kd n rf hs =>
      split at ha
      · next hc =>
        obtain ⟨hk, h0, h2⟩ := hc
        obtain ⟨rfl, rfl, rfl, rfl, rfl⟩ := go_inj ha
        have hat := world_at (base := base) (f := ph base tt) (cA := cA) (M := M) hs
        rw [cellE_ref hk] at hat
        have hr : rv (ph base tt) (vR (some a)) = .ref (base + a) := by show Value.ref (ph base tt a) = _; rw [ph_lt (S_lt hs hSl).2]
        rw [List.map_cons, List.map_cons, hr]
        have hin := i32_in hir h0 h2
        have hlt : (Int32.ofInt i).toNatClampNeg < n := Nat.not_le.mp fun q => hin (Or.inr q)
        have K1 := K H locs cells slots ls hH hL (ok1 (okt (okt hst)) (v := vR (rf.getD i.toNat none)) trivial)
        have hv : (arrV (cA kd) n (fun j => va_rf ((rf.getD j none).map (ph base tt)))).slots[(Int32.ofInt i).toNatClampNeg]? = some (rv (ph base tt) (vR (rf.getD i.toNat none))) := by
          rw [arrV_read _ _ hlt, i32_clamp hir]
          rfl
        rcases hk with rfl | rfl | rfl
        · exact W.aald (ty := .array .int) hx hb (hP a _ hat) ((hC.2.1.2 2 _ rfl).1 n (fun j => va_rf ((rf.getD j none).map (ph base tt)))) rfl (fun q => by cases q) (by show ¬ (_ ∨ (arrV _ _ _).slots.size ≤ _); rw [arrV_size]; exact hin) hv rfl rfl hd K1
        · exact W.aald (ty := .object RX5) hx hb (hP a _ hat) ((hC.2.1.2 3 _ rfl).1 n (fun j => va_rf ((rf.getD j none).map (ph base tt)))) rfl (fun q => by cases q) (by show ¬ (_ ∨ (arrV _ _ _).slots.size ≤ _); rw [arrV_size]; exact hin) hv rfl rfl hd K1
        · exact W.aald (ty := .object RX6) hx hb (hP a _ hat) ((hC.2.1.2 4 _ rfl).1 n (fun j => va_rf ((rf.getD j none).map (ph base tt)))) rfl (fun q => by cases q) (by show ¬ (_ ∨ (arrV _ _ _).slots.size ≤ _); rw [arrV_size]; exact hin) hv rfl rfl hd K1
      · cases ha
    · cases ha
  · cases ha
theorem sh_aast (hx : p.tables.exec = Jvm.exec) (hb : c.code = cc) (hC : CK D cA base tt s args) (hown : s.vm.findClass (cN own) = some m.cls) (hH : HI D cA base tt s MC MS Sf S M H locs cells slots) (hL : LR (ph base tt) nL mls ls) (hst : ∀ v ∈ mst, okV v) (hd : decode cc pc = .ok (.aastore, 1)) (ha : aAast pc mls mst S M = some (.inl (pc', mls', mst', S', M'))) (K : KK p l e R s m args below meth c Q D cA base tt nL MC MS Sf pc' mls' mst' S' M') : W p l e R s m args below meth c H locs cells slots Q (F0 m pc ls (mst.map (rv (ph base tt)))) := by
  unfold aAast at ha
  obtain ⟨hP, hS, hM, hSl, -⟩ := id hH
  split at ha
  · next v i a rest =>
    have hir : inR i := okh (okt hst)
    split at ha
    · next kd n rf kv nv rfv hs hsv =>
      split at ha
      · next hc =>
        obtain ⟨hk, h0, h2, h3⟩ := hc
        obtain ⟨rfl, rfl, rfl, rfl, rfl⟩ := go_inj ha
        have hat := world_at (base := base) (f := ph base tt) (cA := cA) (M := M) hs
        rw [cellE_ref (by omega)] at hat
        have hatv := world_at (base := base) (f := ph base tt) (cA := cA) (M := M) hsv
        rw [cellE_obj (by omega)] at hatv
        obtain ⟨hal, ham⟩ := S_lt hs hSl
        have hr : rv (ph base tt) (vR (some a)) = .ref (base + a) := by show Value.ref (ph base tt a) = _; rw [ph_lt ham]
        have hrv : rv (ph base tt) (vR (some v)) = .ref (base + v) := by show Value.ref (ph base tt v) = _; rw [ph_lt (S_lt hsv hSl).2]
        rw [List.map_cons, List.map_cons, List.map_cons, hr, hrv]
        have hin := i32_in hir h0 h2
        have hfe : va_up (fun j => (rf.getD j none).map (ph base tt)) (Int32.ofInt i).toNatClampNeg (some (base + v)) = fun j => ((rf.set i.toNat (some v)).getD j none).map (ph base tt) := by
          funext j
          rw [i32_clamp hir]
          unfold va_up
          by_cases e : j = i.toNat
          · subst e
            simp [List.getD_eq_getElem?_getD, List.getElem?_set_self h3, ph_lt (base := base) (tt := tt) (S_lt hsv hSl).2]
          · simp [e, List.getD_eq_getElem?_getD, List.getElem?_set_ne (fun q => e q.symm)]
        have K1 : ∀ (H1 : Heap) (locs1 : List Loc), va_P D vwCl ((world base (ph base tt) cA S M).set a (base + a, .inl (cA kd, n, .inr (.inr (.inr (.inr (va_up (fun j => (rf.getD j none).map (ph base tt)) (Int32.ofInt i).toNatClampNeg (some (base + v))))))))) H1 → va_D (fun q => base ≤ q) ((world base (ph base tt) cA S M).set a (base + a, .inl (cA kd, n, .inr (.inr (.inr (.inr (va_up (fun j => (rf.getD j none).map (ph base tt)) (Int32.ofInt i).toNatClampNeg (some (base + v))))))))) → va_S (fun q => base ≤ q) s.heap H1 locs1 → W p l e R s m args below meth c H1 locs1 cells slots Q (F0 m (pc + 1) ls (rest.map (rv (ph base tt)))) := by
          intro H1 locs1 p1 _ p3
          rw [hfe, world_set (S' := S.set a (kd, n, rf.set i.toNat (some v))) (N := M) (List.getElem?_set_self hal) (by rw [cellE_ref (by omega)]) (fun b hb2 => S_set_ne hb2) (fun b _ j => rfl) hal] at p1
          exact K H1 locs1 cells slots ls (hH.put p1 p3 hM (List.length_set ..) (tot_set hs)) hL (okt (okt (okt hst)))
        rcases hk with ⟨rfl, rfl⟩ | ⟨rfl, rfl⟩
        · exact va_astq hx hb hC.2.1 hP world_D hS a 3 v 5 (r := (cN 5, Ct 5, fnum 5)) hat rfl hatv (cls_cl 5 (by decide)) hin hd K1
        · exact va_astq hx hb hC.2.1 hP world_D hS a 4 v 6 (r := (cN 6, Ct 6, fnum 6)) hat rfl hatv (cls_cl 6 (by decide)) hin hd K1
      · cases ha
    · cases ha
  · cases ha
theorem sh_alen (hx : p.tables.exec = Jvm.exec) (hb : c.code = cc) (hC : CK D cA base tt s args) (hown : s.vm.findClass (cN own) = some m.cls) (hH : HI D cA base tt s MC MS Sf S M H locs cells slots) (hL : LR (ph base tt) nL mls ls) (hst : ∀ v ∈ mst, okV v) (hd : decode cc pc = .ok (.arraylength, 1)) (ha : aAlen pc mls mst S M = some (.inl (pc', mls', mst', S', M'))) (K : KK p l e R s m args below meth c Q D cA base tt nL MC MS Sf pc' mls' mst' S' M') : W p l e R s m args below meth c H locs cells slots Q (F0 m pc ls (mst.map (rv (ph base tt)))) := by
  unfold aAlen at ha
  obtain ⟨hP, hS, hM, hSl, -⟩ := id hH
  split at ha
  · next a rest =>
    split at ha
    · next kd n rf hs =>
      split at ha
      · next hc =>
        obtain ⟨hk1, hk2, h2⟩ := hc
        obtain ⟨rfl, rfl, rfl, rfl, rfl⟩ := go_inj ha
        have hr : rv (ph base tt) (vR (some a)) = .ref (base + a) := by show Value.ref (ph base tt a) = _; rw [ph_lt (S_lt hs hSl).2]
        rw [List.map_cons, hr]
        have hat := world_at (base := base) (f := ph base tt) (cA := cA) (M := M) hs
        have K1 := K H locs cells slots ls hH hL (ok1 (okt hst) (v := vI (n : Int)) (show inR n from ⟨by omega, by omega⟩))
        have hv : Int32.ofNat n = Int32.ofInt (n : Int) := Int32.ofInt_eq_ofNat.symm
        rcases (show kd = 20 ∨ kd = 21 ∨ kd = 22 ∨ kd = 23 ∨ kd = 24 by omega) with rfl | rfl | rfl | rfl | rfl
        · rw [cellE_arr (Or.inl rfl)] at hat; exact va_alen hx hb hC.2.1 hP a 0 hat rfl hv hd K1
        · rw [cellE_arr (Or.inr rfl)] at hat; exact va_alen hx hb hC.2.1 hP a 1 hat rfl hv hd K1
        · rw [cellE_ref (Or.inl rfl)] at hat; exact va_alen hx hb hC.2.1 hP a 2 hat rfl hv hd K1
        · rw [cellE_ref (Or.inr (Or.inl rfl))] at hat; exact va_alen hx hb hC.2.1 hP a 3 hat rfl hv hd K1
        · rw [cellE_ref (Or.inr (Or.inr rfl))] at hat; exact va_alen hx hb hC.2.1 hP a 4 hat rfl hv hd K1
      · cases ha
    · cases ha
  · cases ha
theorem w_arrI : Cond.arrayClass FieldType.int ∈ tables_1 := by decide +kernel
theorem w_arrZ : Cond.arrayClass FieldType.boolean ∈ tables_1 := by decide +kernel
theorem sh_newaI (hx : p.tables.exec = Jvm.exec) (hb : c.code = cc) (hC : CK D cA base tt s args) (hown : s.vm.findClass (cN own) = some m.cls) (hg : S'.length ≤ Sf.length ∧ tot S' ≤ tot Sf) (hRc : R.cells = MC) (hRs : R.slots = MS) (hH : HI D cA base tt s MC MS Sf S M H locs cells slots) (hL : LR (ph base tt) nL mls ls) (hst : ∀ v ∈ mst, okV v) (hd : decode cc pc = .ok (.newarray .int, 2)) (ha : aNewa 20 pc mls mst S M = some (.inl (pc', mls', mst', S', M'))) (K : KK p l e R s m args below meth c Q D cA base tt nL MC MS Sf pc' mls' mst' S' M') : W p l e R s m args below meth c H locs cells slots Q (F0 m pc ls (mst.map (rv (ph base tt)))) := by
  unfold aNewa at ha
  obtain ⟨hP, hS, hM, hSl, h1, h2, h3⟩ := id hH
  split at ha
  · next n rest =>
    have hnr : inR n := okh hst
    split at ha
    · next hc =>
      obtain ⟨hn0, hn1, hl⟩ := hc
      obtain ⟨rfl, rfl, rfl, rfl, rfl⟩ := go_inj ha
      simp only [List.length_append, List.length_cons, List.length_nil, tot_app] at hg
      have ht1 : tot [(20, n.toNat, ([] : List (Option Nat)))] = n.toNat := by simp [tot]
      rw [ht1] at hg
      refine W_size (fun hz => ?_)
      have hsz := hH.size hC.2.2.2.1 hz
      rw [List.map_cons]
      have hn5 : n.toNat ≤ 10000 := by omega
      have hby : n.toNat * componentBytes (newarray.typeOf .int) ≤ 536870912 := by
        have h9 : componentBytes (newarray.typeOf .int) ≤ 8 := by decide
        have h8 := Nat.mul_le_mul hn5 h9
        omega
      refine va_newaK (atype := .int) hx hb (hC.1 _ (tb_in w_arrI)) (g := F0 m pc ls (rv (ph base tt) (vI n) :: rest.map (rv (ph base tt)))) rfl hd rfl (i32_neg hnr hn0) (i32_clamp hnr) hby (by rw [hRc]; omega) (by rw [hRs]; omega) hsz (fun H1 cA1 e1 z1 o1 hAr hNm => ?_)
      have hcA : cA1 = cA 20 := Option.some.inj (hNm.symm.trans (hC.2.1.2 0 _ rfl).2)
      subst hcA
      have K1 := K H1 locs (cells + 1) (slots + n.toNat) ls (hH.push (h := (20, n.toNat, [])) hl hC.2.2.2.1 hsz (fun q hq => o1 q (by omega)) (by omega) (by rw [cellE_arr (Or.inl rfl)]; show H1[base + S.length]? = some (vp_cell _ _); rw [vp_cell_i, e1]; congr 2; funext j; rw [mzs_self]; rfl) (fun b hb2 i => mzs_lt hb2 i) (mzs_R hM)) hL (ok1 (okt hst) (v := vR (some S.length)) trivial)
      have hr : rv (ph base tt) (vR (some S.length)) = .ref (base + S.length) := by show Value.ref (ph base tt _) = _; rw [ph_lt hl]
      rw [List.map_cons, hr] at K1
      exact K1
    · cases ha
  · cases ha
theorem sh_newaZ (hx : p.tables.exec = Jvm.exec) (hb : c.code = cc) (hC : CK D cA base tt s args) (hown : s.vm.findClass (cN own) = some m.cls) (hg : S'.length ≤ Sf.length ∧ tot S' ≤ tot Sf) (hRc : R.cells = MC) (hRs : R.slots = MS) (hH : HI D cA base tt s MC MS Sf S M H locs cells slots) (hL : LR (ph base tt) nL mls ls) (hst : ∀ v ∈ mst, okV v) (hd : decode cc pc = .ok (.newarray .boolean, 2)) (ha : aNewa 21 pc mls mst S M = some (.inl (pc', mls', mst', S', M'))) (K : KK p l e R s m args below meth c Q D cA base tt nL MC MS Sf pc' mls' mst' S' M') : W p l e R s m args below meth c H locs cells slots Q (F0 m pc ls (mst.map (rv (ph base tt)))) := by
  unfold aNewa at ha
  obtain ⟨hP, hS, hM, hSl, h1, h2, h3⟩ := id hH
  split at ha
  · next n rest =>
    have hnr : inR n := okh hst
    split at ha
    · next hc =>
      obtain ⟨hn0, hn1, hl⟩ := hc
      obtain ⟨rfl, rfl, rfl, rfl, rfl⟩ := go_inj ha
      simp only [List.length_append, List.length_cons, List.length_nil, tot_app] at hg
      have ht1 : tot [(21, n.toNat, ([] : List (Option Nat)))] = n.toNat := by simp [tot]
      rw [ht1] at hg
      refine W_size (fun hz => ?_)
      have hsz := hH.size hC.2.2.2.1 hz
      rw [List.map_cons]
      have hn5 : n.toNat ≤ 10000 := by omega
      have hby : n.toNat * componentBytes (newarray.typeOf .boolean) ≤ 536870912 := by
        have h9 : componentBytes (newarray.typeOf .boolean) ≤ 8 := by decide
        have h8 := Nat.mul_le_mul hn5 h9
        omega
      refine va_newaK (atype := .boolean) hx hb (hC.1 _ (tb_in w_arrZ)) (g := F0 m pc ls (rv (ph base tt) (vI n) :: rest.map (rv (ph base tt)))) rfl hd rfl (i32_neg hnr hn0) (i32_clamp hnr) hby (by rw [hRc]; omega) (by rw [hRs]; omega) hsz (fun H1 cA1 e1 z1 o1 hAr hNm => ?_)
      have hcA : cA1 = cA 21 := Option.some.inj (hNm.symm.trans (hC.2.1.2 1 _ rfl).2)
      subst hcA
      have K1 := K H1 locs (cells + 1) (slots + n.toNat) ls (hH.push (h := (21, n.toNat, [])) hl hC.2.2.2.1 hsz (fun q hq => o1 q (by omega)) (by omega) (by rw [cellE_arr (Or.inr rfl)]; show H1[base + S.length]? = some (vp_cell _ _); rw [vp_cell_i, e1]; congr 2; funext j; rw [mzs_self]; rfl) (fun b hb2 i => mzs_lt hb2 i) (mzs_R hM)) hL (ok1 (okt hst) (v := vR (some S.length)) trivial)
      have hr : rv (ph base tt) (vR (some S.length)) = .ref (base + S.length) := by show Value.ref (ph base tt _) = _; rw [ph_lt hl]
      rw [List.map_cons, hr] at K1
      exact K1
    · cases ha
  · cases ha
theorem sh_newq (hx : p.tables.exec = Jvm.exec) (hb : c.code = cc) (hC : CK D cA base tt s args) (hown : s.vm.findClass (cN own) = some m.cls) (hix : idx < 1000) (hg : S'.length ≤ Sf.length ∧ tot S' ≤ tot Sf) (hRc : R.cells = MC) (hRs : R.slots = MS) (hH : HI D cA base tt s MC MS Sf S M H locs cells slots) (hL : LR (ph base tt) nL mls ls) (hst : ∀ v ∈ mst, okV v) (hd : decode cc pc = .ok (.anewarray idx, 3)) (ha : aNewq (own * 1000 + idx) pc mls mst S M = some (.inl (pc', mls', mst', S', M'))) (K : KK p l e R s m args below meth c Q D cA base tt nL MC MS Sf pc' mls' mst' S' M') : W p l e R s m args below meth c H locs cells slots Q (F0 m pc ls (mst.map (rv (ph base tt)))) := by
  unfold aNewq at ha
  obtain ⟨hP, hS, hM, hSl, h1, h2, h3⟩ := id hH
  split at ha
  · next n rest ci hk =>
    have hnr : inR n := okh hst
    split at ha
    · next hc =>
      obtain ⟨hn0, hn1, hci, hl⟩ := hc
      obtain ⟨rfl, rfl, rfl, rfl, rfl⟩ := go_inj ha
      have hw := wK _ (lk_mem hk)
      unfold wordK at hw
      rw [(key_div hix).1, (key_div hix).2] at hw
      simp only [List.length_append, List.length_cons, List.length_nil, tot_app] at hg
      have ht1 : tot [(ci + 18, n.toNat, List.replicate n.toNat (none : Option Nat))] = n.toNat := by simp [tot]
      rw [ht1] at hg
      refine W_size (fun hz => ?_)
      have hsz := hH.size hC.2.2.2.1 hz
      rw [List.map_cons]
      have hcK : cK ci = cN ci := by unfold cK; rw [if_neg (by omega)]
      rw [hcK] at hw
      have hov : (Cond.arrayOver (.object (cN ci))).before args s = true := by
        rcases hci with rfl | rfl
        · exact va_AO.use hC.2.2.2.2.1
        · exact va_AO.use hC.2.2.2.2.2.1
      refine W.anew hx hb hown (hC.1 _ (tb_in hw)) hov (g := F0 m pc ls (rv (ph base tt) (vI n) :: rest.map (rv (ph base tt)))) rfl hd rfl (i32_neg hnr hn0) (by rw [i32_clamp hnr]; omega) (by rw [hRc]; omega) (by rw [hRs, i32_clamp hnr]; omega) (fun cA1 kA comp f1 f2 f3 f4 => ?_)
      rw [i32_clamp hnr]
      have hcA : cA1 = cA (ci + 18) := by
        rcases hci with rfl | rfl
        · obtain ⟨-, -, -, -, -, f5⟩ := (hC.2.1.2 3 _ rfl).2
          exact Option.some.inj (f1.symm.trans f5)
        · obtain ⟨-, -, -, -, -, f5⟩ := (hC.2.1.2 4 _ rfl).2
          exact Option.some.inj (f1.symm.trans f5)
      subst hcA
      generalize hH1 : H.push ({ cls := cA (ci + 18), slots := Array.replicate n.toNat .null, vm := .none } : Cell) = H1
      have z1 : H1.size = H.size + 1 := by rw [← hH1, Array.size_push]
      have e1 : H1[H.size]? = some (arrV (cA (ci + 18)) n.toNat (fun _ => .null)) := by rw [← hH1, Array.getElem?_push_size, ← arrV_new]
      have o1 : ∀ q : Nat, q < H.size → H1[q]? = H[q]? := fun q hq => by rw [← hH1, Array.getElem?_push, if_neg (Nat.ne_of_lt hq)]
      have K1 := K H1 locs (cells + 1) (slots + n.toNat) ls (hH.push (h := (ci + 18, n.toNat, List.replicate n.toNat none)) hl hC.2.2.2.1 hsz o1 z1 (by rw [cellE_ref (by omega)]; show H1[base + S.length]? = some (vp_cell _ _); rw [vp_cell_q, ← hsz, e1]; congr 2; funext j; simp [List.getD_eq_getElem?_getD, List.getElem?_replicate]; split <;> rfl) (fun b hb2 i => mzs_lt hb2 i) (mzs_R hM)) hL (ok1 (okt hst) (v := vR (some S.length)) trivial)
      have hr : rv (ph base tt) (vR (some S.length)) = .ref H.size := by show Value.ref (ph base tt _) = _; rw [ph_lt hl, hsz]
      rw [List.map_cons, hr] at K1
      exact K1
    · cases ha
  · cases ha
theorem sh_new (hx : p.tables.exec = Jvm.exec) (hb : c.code = cc) (hC : CK D cA base tt s args) (hown : s.vm.findClass (cN own) = some m.cls) (hix : idx < 1000) (hg : S'.length ≤ Sf.length ∧ tot S' ≤ tot Sf) (hRc : R.cells = MC) (hRs : R.slots = MS) (hH : HI D cA base tt s MC MS Sf S M H locs cells slots) (hL : LR (ph base tt) nL mls ls) (hst : ∀ v ∈ mst, okV v) (hd : decode cc pc = .ok (.new idx, 3)) (ha : aNew (own * 1000 + idx) pc mls mst S M = some (.inl (pc', mls', mst', S', M'))) (K : KK p l e R s m args below meth c Q D cA base tt nL MC MS Sf pc' mls' mst' S' M') : W p l e R s m args below meth c H locs cells slots Q (F0 m pc ls (mst.map (rv (ph base tt)))) := by
  unfold aNew at ha
  obtain ⟨hP, hS, hM, hSl, h1, h2, h3⟩ := id hH
  split at ha
  · next ci hk =>
    split at ha
    · next hc =>
      obtain ⟨hci, hl⟩ := hc
      obtain ⟨rfl, rfl, rfl, rfl, rfl⟩ := go_inj ha
      have hw := wK _ (lk_mem hk)
      unfold wordK at hw
      rw [(key_div hix).1, (key_div hix).2] at hw
      simp only [List.length_append, List.length_cons, List.length_nil, tot_app] at hg
      have ht1 : tot [(ci, fnum ci, List.replicate (fnum ci) (none : Option Nat))] = fnum ci := by simp [tot]
      rw [ht1] at hg
      refine W_size (fun hz => ?_)
      have hsz := hH.size hC.2.2.2.1 hz
      have hcK : cK ci = cN ci := by unfold cK; rw [if_neg (by omega)]
      rw [hcK] at hw
      have hKn := hC.2.1.1 ci _ (cls_cl ci hci)
      refine W.newcK hx hb hown (hC.1 _ (tb_in hw)) (hC.1 _ (tb_in (cls_inst ci hci).1)) (hC.1 _ (tb_in (cls_inst ci hci).2)) rfl hd (by rw [hRc]; omega) (by rw [hRs]; omega) hKn.2.1 hsz (fun H1 kC hkC e1 z1 o1 => ?_)
      have K1 := K H1 locs (cells + 1) (slots + fnum ci) ls (hH.push (h := (ci, fnum ci, List.replicate (fnum ci) none)) hl hC.2.2.2.1 hsz (fun q hq => o1 q (by omega)) (by omega) (by
        rw [cellE_obj hci]
        refine ⟨_, cls_cl ci hci, (u_born (Cty ci) hC.1 (cls_in hci) hKn hkC e1 (cls_ty ci hci)).to (fun j hj => ?_)⟩
        obtain ⟨t0, t1, t2, t3⟩ := cls_fty ci hci j hj
        unfold vp_V
        rw [List.getD_eq_getElem?_getD, List.getElem?_map, List.getElem?_range hj]
        show defaultValue (Cty ci j) = slotV _ _ _ _ _ j
        unfold slotV
        rcases (show fty ci j = 0 ∨ fty ci j = 1 ∨ fty ci j = 2 by omega) with q | q | q
        · rw [if_neg (by omega), t0 q, mzs_self]; rfl
        · rw [if_pos q]
          have h9 : (List.replicate (fnum ci) (none : Option Nat)).getD j none = none := by rw [List.getD_eq_getElem?_getD, List.getElem?_replicate]; split <;> rfl
          rw [h9]
          have h8 := t1 q
          revert h8
          cases Cty ci j <;> intro h8 <;> first | rfl | cases h8
        · rw [if_neg (by omega), t2 q, mzs_self]; rfl) (fun b hb2 i => mzs_lt hb2 i) (mzs_R hM)) hL (ok1 hst (v := vR (some S.length)) trivial)
      have hr : rv (ph base tt) (vR (some S.length)) = .ref (base + S.length) := by show Value.ref (ph base tt _) = _; rw [ph_lt hl]
      rw [List.map_cons, hr] at K1
      exact K1
    · cases ha
  · cases ha
theorem sh_ldc (hx : p.tables.exec = Jvm.exec) (hb : c.code = cc) (hC : CK D cA base tt s args) (hown : s.vm.findClass (cN own) = some m.cls) (hix : idx < 1000) (hH : HI D cA base tt s MC MS Sf S M H locs cells slots) (hL : LR (ph base tt) nL mls ls) (hst : ∀ v ∈ mst, okV v) (hd : decode cc pc = .ok (.ldc idx, 2)) (ha : aLdc (own * 1000 + idx) pc 2 mls mst S M = some (.inl (pc', mls', mst', S', M'))) (K : KK p l e R s m args below meth c Q D cA base tt nL MC MS Sf pc' mls' mst' S' M') : W p l e R s m args below meth c H locs cells slots Q (F0 m pc ls (mst.map (rv (ph base tt)))) := by
  unfold aLdc at ha
  split at ha
  · next x hk =>
    obtain ⟨hr, rfl, rfl, rfl, rfl, rfl⟩ := pI_inj ha
    have hw := wC _ (lk_mem hk)
    unfold wordC at hw
    rw [(key_div hix).1, (key_div hix).2] at hw
    exact lv_ldc hx hb hown (hC.1 _ (tb_in hw)) hd (K H locs cells slots ls hH hL (ok1 hst hr))
  · cases ha
theorem sh_ldcw (hx : p.tables.exec = Jvm.exec) (hb : c.code = cc) (hC : CK D cA base tt s args) (hown : s.vm.findClass (cN own) = some m.cls) (hix : idx < 1000) (hH : HI D cA base tt s MC MS Sf S M H locs cells slots) (hL : LR (ph base tt) nL mls ls) (hst : ∀ v ∈ mst, okV v) (hd : decode cc pc = .ok (.ldc_w idx, 3)) (ha : aLdc (own * 1000 + idx) pc 3 mls mst S M = some (.inl (pc', mls', mst', S', M'))) (K : KK p l e R s m args below meth c Q D cA base tt nL MC MS Sf pc' mls' mst' S' M') : W p l e R s m args below meth c H locs cells slots Q (F0 m pc ls (mst.map (rv (ph base tt)))) := by
  unfold aLdc at ha
  split at ha
  · next x hk =>
    obtain ⟨hr, rfl, rfl, rfl, rfl, rfl⟩ := pI_inj ha
    have hw := wC _ (lk_mem hk)
    unfold wordC at hw
    rw [(key_div hix).1, (key_div hix).2] at hw
    exact lv_ldcw hx hb hown (hC.1 _ (tb_in hw)) hd (K H locs cells slots ls hH hL (ok1 hst hr))
  · cases ha
theorem sh_ldc2 (hx : p.tables.exec = Jvm.exec) (hb : c.code = cc) (hC : CK D cA base tt s args) (hown : s.vm.findClass (cN own) = some m.cls) (hix : idx < 1000) (hH : HI D cA base tt s MC MS Sf S M H locs cells slots) (hL : LR (ph base tt) nL mls ls) (hst : ∀ v ∈ mst, okV v) (hd : decode cc pc = .ok (.ldc2_w idx, 3)) (ha : aLdc2 (own * 1000 + idx) pc mls mst S M = some (.inl (pc', mls', mst', S', M'))) (K : KK p l e R s m args below meth c Q D cA base tt nL MC MS Sf pc' mls' mst' S' M') : W p l e R s m args below meth c H locs cells slots Q (F0 m pc ls (mst.map (rv (ph base tt)))) := by
  unfold aLdc2 at ha
  split at ha
  · next x hk =>
    obtain ⟨hr, rfl, rfl, rfl, rfl, rfl⟩ := pL_inj ha
    have hw := wL _ (lk_mem hk)
    unfold wordL at hw
    rw [(key_div hix).1, (key_div hix).2] at hw
    exact lv_ldc2 hx hb hown (hC.1 _ (tb_in hw)) hd (K H locs cells slots ls hH hL (ok1 hst hr))
  · cases ha
theorem sh_gets (hx : p.tables.exec = Jvm.exec) (hb : c.code = cc) (hC : CK D cA base tt s args) (hown : s.vm.findClass (cN own) = some m.cls) (hix : idx < 1000) (hH : HI D cA base tt s MC MS Sf S M H locs cells slots) (hL : LR (ph base tt) nL mls ls) (hst : ∀ v ∈ mst, okV v) (hd : decode cc pc = .ok (.getstatic idx, 3)) (ha : aGets (own * 1000 + idx) pc mls mst S M = some (.inl (pc', mls', mst', S', M'))) (K : KK p l e R s m args below meth c Q D cA base tt nL MC MS Sf pc' mls' mst' S' M') : W p l e R s m args below meth c H locs cells slots Q (F0 m pc ls (mst.map (rv (ph base tt)))) := by
  unfold aGets at ha
  split at ha
  · next j hk =>
    split at ha
    · next hj =>
      obtain ⟨rfl, rfl, rfl, rfl, rfl⟩ := go_inj ha
      have hw := wS _ (lk_mem hk)
      unfold wordS at hw
      rw [(key_div hix).1, (key_div hix).2] at hw
      have K1 := K H locs cells slots ls hH hL (ok1 hst (v := vR (some (1000000 + j))) trivial)
      have hr : rv (ph base tt) (vR (some (1000000 + j))) = .ref (tt j) := by show Value.ref (ph base tt (1000000 + j)) = _; rw [ph_st]
      rw [List.map_cons, hr] at K1
      exact va_gets hx hb (hC.2.2.1 j hj).1 hH.2.1 hown (hC.1 _ (tb_in hw)) (fun x h => h) hd K1
    · cases ha
  · cases ha
end SIMH2
end
section
section SIMC
variable {p : Program} {l : Launch} {e : Env} {R : Room} {s : State} {m : MethodId} {args : Array Value} {below : List Frame} {meth : Method} {c : Code} {H : Heap} {locs : List Loc} {cells slots : Nat} {Q : State → Prop}
variable {cc : ByteArray} {pc : Nat} {ls : Array Slot}
variable {D : va_G} {cA : Nat → ClassId} {base : Nat} {tt : Nat → Nat} {nL MC MS : Nat} {Sf S S' : List Sh} {M M' : Mem} {mls mls' : Lv} {mst mst' : List Vv} {pc' own idx : Nat}
theorem catS_rv {f : Nat → Nat} (st : List Vv) : ((st.map (rv f)).map fun v => v.category).sum = catS st := by
  unfold catS
  rw [List.map_map]
  congr 2
  funext v
  exact rv_cat v
theorem w_nat : Cond.native arraycopyN ∈ tables_1 := by decide +kernel
theorem w_nst : Cond.static arraycopyN ∈ tables_1 := by decide +kernel
theorem w_nin : Cond.initialized "java/lang/System" ∈ tables_1 := by decide +kernel
theorem w_oi : Cond.instanceMethod objectInit ∈ tables_1 := by decide +kernel
theorem w_oc : Cond.code objectInit ⟨#[0xb1]⟩ 1 none ∈ tables_1 := List.mem_of_getElem? (i := 19) rfl
theorem w_mi : Cond.initialized "java/lang/Math" ∈ tables_1 := by decide +kernel
set_option maxRecDepth 100000 in
theorem w_mx : Cond.static Lib.Math.max.name ∈ tables_1 ∧ Cond.code Lib.Math.max.name Lib.Math.max.code 2 (some .int) ∈ tables_1 := ⟨by decide +kernel, List.mem_of_getElem? (i := 708) rfl⟩
set_option maxRecDepth 100000 in
theorem w_mn : Cond.static Lib.Math.min.name ∈ tables_1 ∧ Cond.code Lib.Math.min.name Lib.Math.min.code 2 (some .int) ∈ tables_1 := ⟨by decide +kernel, List.mem_of_getElem? (i := 435) rfl⟩
theorem mcp_R {M : Mem} {a b : Nat} {sp dp n : Int} (h : ∀ a i, inR (M a i)) : ∀ c j, inR (mcp M a sp b dp n c j) := fun c j => by
  unfold mcp
  split
  · exact h _ _
  · exact h _ _
theorem cpy_mcp {M : Mem} {a b : Nat} {sp dp n : Int} (h1 : inR sp) (h2 : inR dp) (h3 : inR n) (p1 : 0 ≤ sp) (p2 : 0 ≤ dp) (p3 : 0 ≤ n) : va_cpy (fun j => Int32.ofInt (M a (j : Int))) (fun j => Int32.ofInt (M b (j : Int))) (Int32.ofInt sp).toNatClampNeg (Int32.ofInt dp).toNatClampNeg (Int32.ofInt n).toNatClampNeg = fun (j : Nat) => Int32.ofInt (mcp M a sp b dp n b (j : Int)) := by
  funext j
  rw [i32_clamp h1, i32_clamp h2, i32_clamp h3]
  unfold va_cpy mcp
  by_cases e : dp.toNat ≤ j ∧ j < dp.toNat + n.toNat
  · have e3 : ((sp.toNat + (j - dp.toNat) : Nat) : Int) = sp + ((j : Int) - dp) := by omega
    rw [if_pos e, if_pos ⟨rfl, by omega, by omega⟩, ← e3]
  · rw [if_neg e, if_neg (fun q => e ⟨by have := q.2.1; omega, by have := q.2.2; omega⟩)]
theorem notNest {k v : Nat} (h : isNest (k, v) = false) : wordM (k, v) = .methodLink (cN (k / 1000)) (k % 1000) (mYY v) := by
  unfold wordM
  rw [h]
  rfl
theorem nest_1000 : ∀ q ∈ poolM, (1000 ≤ q.2 ∨ mS q.2 = true ∨ ¬ (mY q.2).name = "<init>") → isNest q = false := by decide +kernel
theorem sc_copy (hx : p.tables.exec = Jvm.exec) (hb : c.code = cc) (hml : c.maxLocals = nL) (hg : S'.length ≤ Sf.length ∧ tot S' ≤ tot Sf) (hRc : R.cells = MC) (hRs : R.slots = MS) (hC : CK D cA base tt s args) (hown : s.vm.findClass (cN own) = some m.cls) (hix : idx < 1000) (hRf : 1 ≤ R.frames) (hRl : 40 ≤ R.locals) (hH : HI D cA base tt s MC MS Sf S M H locs cells slots) (hL : LR (ph base tt) nL mls ls) (hst : ∀ v ∈ mst, okV v) (hd : decode cc pc = .ok (.invokestatic idx, 3)) (ha : aInvS (own * 1000 + idx) pc mls mst S M = some (.inl (pc', mls', mst', S', M'))) (K : KK p l e R s m args below meth c Q D cA base tt nL MC MS Sf pc' mls' mst' S' M') : W p l e R s m args below meth c H locs cells slots Q (F0 m pc ls (mst.map (rv (ph base tt)))) := by
  unfold aInvS at ha
  obtain ⟨hP, hS, hM, hSl, -⟩ := id hH
  split at ha
  · next mid hk =>
    split at ha
    · next h1 =>
      subst h1
      split at ha
      · next n dp b sp a rest =>
        split at ha
        · next ka na ra kb nb rb hsa hsb =>
          split at ha
          · next hc =>
            obtain ⟨rfl, rfl, p3, p1, p2, q1, q2, hcat⟩ := hc
            obtain ⟨rfl, rfl, rfl, rfl, rfl⟩ := go_inj ha
            have hw := wM _ (lk_mem hk)
            rw [notNest (nest_1000 _ (lk_mem hk) (Or.inl (by show 1000 ≤ _; omega))), (key_div hix).1, (key_div hix).2] at hw
            have hnr : inR n := okh hst
            have hdr : inR dp := okh (okt hst)
            have hsr : inR sp := okh (okt (okt (okt hst)))
            have hata := world_at (base := base) (f := ph base tt) (cA := cA) (M := M) hsa
            rw [cellE_arr (Or.inl rfl)] at hata
            have hatb := world_at (base := base) (f := ph base tt) (cA := cA) (M := M) hsb
            rw [cellE_arr (Or.inl rfl)] at hatb
            obtain ⟨hbl, hbm⟩ := S_lt hsb hSl
            have hra : rv (ph base tt) (vR (some a)) = .ref (base + a) := by show Value.ref (ph base tt a) = _; rw [ph_lt (S_lt hsa hSl).2]
            have hrb : rv (ph base tt) (vR (some b)) = .ref (base + b) := by show Value.ref (ph base tt b) = _; rw [ph_lt hbm]
            simp only [List.map_cons, hra, hrb]
            refine va_copyi hx hb (hml.trans hL.2.1.symm) hown (hC.1 _ (tb_in hw)) (hC.1 _ (tb_in w_nat)) (hC.1 _ (tb_in w_nst)) (hC.1 _ (tb_in w_nin)) hC.2.1 hP world_D hS a b 0 0 hata hatb rfl rfl rfl (i32_neg hsr p1) (i32_neg hdr p2) (i32_neg hnr p3) (by rw [i32_clamp hsr, i32_clamp hnr]; omega) (by rw [i32_clamp hdr, i32_clamp hnr]; omega) (fun i _ => rfl) hRf ?_ hd (fun H1 locs1 g1 _ g3 => ?_)
            · rw [catS_rv]
              have h9 : nativeFrameWords "java/lang/System" "arraycopy" 5 = 7 := by decide +kernel
              rw [h9]
              omega
            · rw [cpy_mcp hsr hdr hnr p1 p2 p3, world_set (S' := S) (N := mcp M a sp b dp n) hsb (by rw [cellE_arr (Or.inl rfl)]) (fun _ _ => rfl) (fun c hc2 j => if_neg (fun q => hc2 q.1)) hbl] at g1
              exact K H1 locs1 cells slots ls (hH.put g1 g3 (mcp_R hM) rfl rfl) hL (okt (okt (okt (okt (okt hst)))))
          · cases ha
        · cases ha
      · cases ha
    · split at ha
      · next h1 =>
        subst h1
        split at ha
        · next y x rest =>
          split at ha
          · next hcat =>
            obtain ⟨rfl, rfl, rfl, rfl, rfl⟩ := go_inj ha
            have hw := wM _ (lk_mem hk)
            rw [notNest (nest_1000 _ (lk_mem hk) (Or.inl (by show 1000 ≤ _; omega))), (key_div hix).1, (key_div hix).2] at hw
            have hy : inR y := okh hst
            have hx2 : inR x := okh (okt hst)
            have K1 := K H locs cells slots ls hH hL (ok1 (okt (okt hst)) (v := vI (if x < y then y else x)) (by show inR _; split <;> assumption))
            have e1 : (if Int32.ofInt x < Int32.ofInt y then Int32.ofInt y else Int32.ofInt x) = Int32.ofInt (if x < y then y else x) := by
              by_cases h : x < y
              · rw [if_pos h, if_pos ((i32_lt hx2 hy).mpr h)]
              · rw [if_neg h, if_neg (fun q => h ((i32_lt hx2 hy).mp q))]
            simp only [List.map_cons, rv] at K1 ⊢
            rw [← e1] at K1
            exact va_mmax hx hb (hml.trans hL.2.1.symm) hown (hC.1 _ (tb_in hw)) (hC.1 _ (tb_in w_mx.1)) (hC.1 _ (tb_in w_mi)) (hC.1 _ (tb_in w_mx.2)) hRf (by rw [catS_rv]; omega) (by rw [hRc]; have := hH.2.2.2.2.2.1; omega) (by rw [hRs]; have := hH.2.2.2.2.2.2; omega) hd K1
          · cases ha
        · cases ha
      · split at ha
        · next h1 =>
          subst h1
          split at ha
          · next y x rest =>
            split at ha
            · next hcat =>
              obtain ⟨rfl, rfl, rfl, rfl, rfl⟩ := go_inj ha
              have hw := wM _ (lk_mem hk)
              rw [notNest (nest_1000 _ (lk_mem hk) (Or.inl (by show 1000 ≤ _; omega))), (key_div hix).1, (key_div hix).2] at hw
              have hy : inR y := okh hst
              have hx2 : inR x := okh (okt hst)
              have K1 := K H locs cells slots ls hH hL (ok1 (okt (okt hst)) (v := vI (if y < x then y else x)) (by show inR _; split <;> assumption))
              have e1 : (if Int32.ofInt y < Int32.ofInt x then Int32.ofInt y else Int32.ofInt x) = Int32.ofInt (if y < x then y else x) := by
                by_cases h : y < x
                · rw [if_pos h, if_pos ((i32_lt hy hx2).mpr h)]
                · rw [if_neg h, if_neg (fun q => h ((i32_lt hy hx2).mp q))]
              simp only [List.map_cons, rv] at K1 ⊢
              rw [← e1] at K1
              exact va_mmin hx hb (hml.trans hL.2.1.symm) hown (hC.1 _ (tb_in hw)) (hC.1 _ (tb_in w_mn.1)) (hC.1 _ (tb_in w_mi)) (hC.1 _ (tb_in w_mn.2)) hRf (by rw [catS_rv]; omega) (by rw [hRc]; have := hH.2.2.2.2.2.1; omega) (by rw [hRs]; have := hH.2.2.2.2.2.2; omega) hd K1
            · cases ha
          · cases ha
        · split at ha <;> cases ha
  · cases ha
theorem sc_obj (hx : p.tables.exec = Jvm.exec) (hb : c.code = cc) (hml : c.maxLocals = nL) (hC : CK D cA base tt s args) (hown : s.vm.findClass (cN own) = some m.cls) (hix : idx < 1000) (hRf : 1 ≤ R.frames) (hRl : 40 ≤ R.locals) (hH : HI D cA base tt s MC MS Sf S M H locs cells slots) (hL : LR (ph base tt) nL mls ls) (hst : ∀ v ∈ mst, okV v) (hd : decode cc pc = .ok (.invokespecial idx, 3)) (ha : aInvI (own * 1000 + idx) pc mls mst S M = some (.inl (pc', mls', mst', S', M'))) (K : KK p l e R s m args below meth c Q D cA base tt nL MC MS Sf pc' mls' mst' S' M') : W p l e R s m args below meth c H locs cells slots Q (F0 m pc ls (mst.map (rv (ph base tt)))) := by
  unfold aInvI at ha
  split at ha
  · next mid hk =>
    split at ha
    · next h1 =>
      subst h1
      split at ha
      · next a rest =>
        split at ha
        · next hcat =>
          obtain ⟨rfl, rfl, rfl, rfl, rfl⟩ := go_inj ha
          have hw := wM _ (lk_mem hk)
          rw [notNest (nest_1000 _ (lk_mem hk) (Or.inl (by show 1000 ≤ _; omega))), (key_div hix).1, (key_div hix).2] at hw
          exact W.objInit hx hb hown (hC.1 _ (tb_in hw)) (hC.1 _ (tb_in w_oi)) (hC.1 _ (tb_in w_oc)) rfl (hL.2.1.trans hml.symm) rfl hd hRf (by show 2 * 0 + _ + 12 ≤ _; rw [catS_rv]; omega) (K H locs cells slots ls hH hL (okt hst))
        · cases ha
      · cases ha
    · split at ha
      · split at ha
        · split at ha
          · cases ha
          · cases ha
        · cases ha
      · cases ha
  · cases ha
end SIMC
end
section
/-! what a step leaves of the shapes: never fewer -/
def Gr (S S' : List Sh) : Prop := S.length ≤ S'.length ∧ tot S ≤ tot S'
theorem Gr.rf (S : List Sh) : Gr S S := ⟨Nat.le_refl _, Nat.le_refl _⟩
theorem Gr.eq {S S' : List Sh} (h : S = S') : Gr S S' := h ▸ Gr.rf S
theorem Gr.app (S T : List Sh) : Gr S (S ++ T) := ⟨by simp, by rw [tot_app]; omega⟩
theorem Gr.tr {S T U : List Sh} (h : Gr S T) (h2 : Gr T U) : Gr S U := ⟨Nat.le_trans h.1 h2.1, Nat.le_trans h.2 h2.2⟩
section GR
variable {pc pc' : Nat} {ls ls' : Lv} {st st' : List Vv} {S S' : List Sh} {M M' : Mem}
theorem gr_go (h : go pc ls st S M = some (.inl (pc', ls', st', S', M'))) : Gr S S' := Gr.eq (go_inj h).2.2.2.1
theorem gr_pI {x : Int} (h : pI pc ls st S M x = some (.inl (pc', ls', st', S', M'))) : Gr S S' := Gr.eq (pI_inj h).2.2.2.2.1
theorem gr_pL {x : Int} (h : pL pc ls st S M x = some (.inl (pc', ls', st', S', M'))) : Gr S S' := Gr.eq (pL_inj h).2.2.2.2.1
theorem gr_jmp {x : Int} (h : jmp pc x ls st S M = some (.inl (pc', ls', st', S', M'))) : Gr S S' := Gr.eq (jmp_inj h).2.2.2.1
theorem gr_bI {f : Int → Int → Option Int} (h : bI pc ls st S M f = some (.inl (pc', ls', st', S', M'))) : Gr S S' := by
  obtain ⟨_, _, _, _, _, _, _, _, _, _, e, _⟩ := bI_inj h
  exact Gr.eq e
theorem gr_bL {f : Int → Int → Option Int} (h : bL pc ls st S M f = some (.inl (pc', ls', st', S', M'))) : Gr S S' := by
  obtain ⟨_, _, _, _, _, _, _, _, _, _, e, _⟩ := bL_inj h
  exact Gr.eq e
theorem gr_uI {f : Int → Int} (h : uI pc ls st S M f = some (.inl (pc', ls', st', S', M'))) : Gr S S' := by
  obtain ⟨_, _, _, _, _, _, _, e, _⟩ := uI_inj h
  exact Gr.eq e
theorem gr_br {b : Bool} {x : Int} (h : br b pc x ls st S M = some (.inl (pc', ls', st', S', M'))) : Gr S S' := by
  obtain ⟨_, _, _, _, _, e, _⟩ := br_inj h
  exact Gr.eq e
theorem gr_ldI {k : Nat} (h : ldI pc k ls st S M = some (.inl (pc', ls', st', S', M'))) : Gr S S' := by
  unfold ldI at h; split at h <;> first | exact gr_go h | cases h
theorem gr_ldL {k : Nat} (h : ldL pc k ls st S M = some (.inl (pc', ls', st', S', M'))) : Gr S S' := by
  unfold ldL at h; split at h <;> first | exact gr_go h | cases h
theorem gr_ldA {k : Nat} (h : ldA pc k ls st S M = some (.inl (pc', ls', st', S', M'))) : Gr S S' := by
  unfold ldA at h; split at h <;> first | exact gr_go h | cases h
theorem gr_stI {k : Nat} (h : stI pc k ls st S M = some (.inl (pc', ls', st', S', M'))) : Gr S S' := by
  unfold stI at h; split at h <;> first | cases h | (split at h <;> first | exact gr_go h | cases h)
theorem gr_stL {k : Nat} (h : stL pc k ls st S M = some (.inl (pc', ls', st', S', M'))) : Gr S S' := by
  unfold stL at h; split at h <;> first | cases h | (split at h <;> first | exact gr_go h | cases h)
theorem gr_stA {k : Nat} (h : stA pc k ls st S M = some (.inl (pc', ls', st', S', M'))) : Gr S S' := by
  unfold stA at h; split at h <;> first | cases h | (split at h <;> first | exact gr_go h | cases h)
theorem gr_c0 {x : Int} {f : Int → Bool} (h : c0 pc x ls st S M f = some (.inl (pc', ls', st', S', M'))) : Gr S S' := by
  unfold c0 at h; split at h <;> first | exact gr_br h | cases h
theorem gr_cI {x : Int} {f : Int → Int → Bool} (h : cI pc x ls st S M f = some (.inl (pc', ls', st', S', M'))) : Gr S S' := by
  unfold cI at h; split at h <;> first | exact gr_br h | cases h
theorem gr_getf {k : Nat} (h : aGetf k pc ls st S M = some (.inl (pc', ls', st', S', M'))) : Gr S S' := by
  unfold aGetf at h
  split at h
  · split at h
    · split at h
      · split at h <;> exact gr_go h
      · cases h
    · cases h
  · cases h
theorem gr_set {a kd n : Nat} {rf rf' : List (Option Nat)} (hs : S[a]? = some (kd, n, rf)) : Gr S (S.set a (kd, n, rf')) := ⟨by rw [List.length_set]; exact Nat.le_refl _, by rw [tot_set hs]; exact Nat.le_refl _⟩
theorem gr_putf {own k : Nat} {ini : Bool} (h : aPutf own ini k pc ls st S M = some (.inl (pc', ls', st', S', M'))) : Gr S S' := by
  unfold aPutf at h
  split at h
  · split at h
    · next hs =>
      split at h
      · split at h
        · split at h
          · exact gr_go h
          · cases h
        · split at h
          · exact (gr_set hs).tr (gr_go h)
          · cases h
        · cases h
      · cases h
    · cases h
  · cases h
theorem gr_iald (h : aIald pc ls st S M = some (.inl (pc', ls', st', S', M'))) : Gr S S' := by
  unfold aIald at h
  split at h
  · split at h
    · split at h
      · split at h
        · split at h
          · exact gr_go h
          · cases h
        · cases h
      · split at h
        · split at h
          · exact gr_go h
          · cases h
        · cases h
    · cases h
  · cases h
theorem gr_iast (h : aIast pc ls st S M = some (.inl (pc', ls', st', S', M'))) : Gr S S' := by
  unfold aIast at h; split at h <;> first | cases h | (split at h <;> first | cases h | (split at h <;> first | exact gr_go h | cases h))
theorem gr_bald (h : aBald pc ls st S M = some (.inl (pc', ls', st', S', M'))) : Gr S S' := by
  unfold aBald at h; split at h <;> first | cases h | (split at h <;> first | cases h | (split at h <;> first | exact gr_go h | cases h))
theorem gr_bast (h : aBast pc ls st S M = some (.inl (pc', ls', st', S', M'))) : Gr S S' := by
  unfold aBast at h; split at h <;> first | cases h | (split at h <;> first | cases h | (split at h <;> first | exact gr_go h | cases h))
theorem gr_aald (h : aAald pc ls st S M = some (.inl (pc', ls', st', S', M'))) : Gr S S' := by
  unfold aAald at h; split at h <;> first | cases h | (split at h <;> first | cases h | (split at h <;> first | exact gr_go h | cases h))
theorem gr_alen (h : aAlen pc ls st S M = some (.inl (pc', ls', st', S', M'))) : Gr S S' := by
  unfold aAlen at h; split at h <;> first | cases h | (split at h <;> first | cases h | (split at h <;> first | exact gr_go h | cases h))
theorem gr_aast (h : aAast pc ls st S M = some (.inl (pc', ls', st', S', M'))) : Gr S S' := by
  unfold aAast at h
  split at h
  · split at h
    · next hs hv =>
      split at h
      · exact (gr_set hs).tr (gr_go h)
      · cases h
    · cases h
  · cases h
theorem gr_newa {k : Nat} (h : aNewa k pc ls st S M = some (.inl (pc', ls', st', S', M'))) : Gr S S' := by
  unfold aNewa at h; split at h <;> first | cases h | (split at h <;> first | exact (Gr.app _ _).tr (gr_go h) | cases h)
theorem gr_newq {k : Nat} (h : aNewq k pc ls st S M = some (.inl (pc', ls', st', S', M'))) : Gr S S' := by
  unfold aNewq at h; split at h <;> first | cases h | (split at h <;> first | exact (Gr.app _ _).tr (gr_go h) | cases h)
theorem gr_newm {k : Nat} (h : aNewm k pc ls st S M = some (.inl (pc', ls', st', S', M'))) : Gr S S' := by
  unfold aNewm at h; split at h <;> first | cases h | (split at h <;> first | exact (Gr.app _ _).tr (gr_go h) | cases h)
theorem gr_newO {k : Nat} (h : aNew k pc ls st S M = some (.inl (pc', ls', st', S', M'))) : Gr S S' := by
  unfold aNew at h; split at h <;> first | cases h | (split at h <;> first | exact (Gr.app _ _).tr (gr_go h) | cases h)
theorem gr_invV {k : Nat} (h : aInvV k st S = some (.inl (pc', ls', st', S', M'))) : Gr S S' := by
  unfold aInvV at h
  split at h
  · split at h
    · split at h
      · split at h
        · split at h <;> cases h
        · cases h
      · cases h
    · cases h
  · cases h
theorem gr_invS {k : Nat} (h : aInvS k pc ls st S M = some (.inl (pc', ls', st', S', M'))) : Gr S S' := by
  unfold aInvS at h
  split at h
  · split at h
    · split at h
      · split at h
        · split at h
          · exact gr_go h
          · cases h
        · cases h
      · cases h
    · split at h
      · split at h
        · split at h
          · exact gr_go h
          · cases h
        · cases h
      · split at h
        · split at h
          · split at h
            · exact gr_go h
            · cases h
          · cases h
        · split at h <;> cases h
  · cases h
theorem gr_invI {k : Nat} (h : aInvI k pc ls st S M = some (.inl (pc', ls', st', S', M'))) : Gr S S' := by
  unfold aInvI at h
  split at h
  · split at h
    · split at h
      · split at h
        · exact gr_go h
        · cases h
      · cases h
    · split at h
      · split at h
        · split at h <;> cases h
        · cases h
      · cases h
  · cases h
theorem gr_iret {rt : Option FieldType} (h : aIret rt st = some (.inl (pc', ls', st', S', M'))) : Gr S S' := by
  unfold aIret at h
  split at h
  · split at h
    · cases h
    · split at h <;> cases h
    · cases h
  · cases h
theorem gr_lret {rt : Option FieldType} (h : aLret rt st = some (.inl (pc', ls', st', S', M'))) : Gr S S' := by
  unfold aLret at h; split at h <;> first | cases h | (split at h <;> cases h)
theorem gr_aret {rt : Option FieldType} (h : aAret rt st = some (.inl (pc', ls', st', S', M'))) : Gr S S' := by
  unfold aAret at h; split at h <;> first | cases h | (split at h <;> cases h)
theorem gr_vret {rt : Option FieldType} (h : aVret rt st = some (.inl (pc', ls', st', S', M'))) : Gr S S' := by
  unfold aVret at h; split at h <;> cases h
theorem gr_tab {dflt lo hi : Int} {offs : Array Int} (h : aTab dflt lo hi offs pc ls st S M = some (.inl (pc', ls', st', S', M'))) : Gr S S' := by
  unfold aTab at h; split at h <;> first | cases h | (split at h <;> first | exact gr_jmp h | (split at h <;> first | exact gr_jmp h | cases h))
theorem gr_look {dflt : Int} {ps : Array (Int × Int)} (h : aLook dflt ps pc ls st S M = some (.inl (pc', ls', st', S', M'))) : Gr S S' := by
  unfold aLook at h; split at h <;> first | cases h | (split at h <;> first | exact gr_jmp h | cases h)
theorem gr_dup (h : aDup pc ls st S M = some (.inl (pc', ls', st', S', M'))) : Gr S S' := by
  unfold aDup at h; split at h <;> first | cases h | (split at h <;> first | exact gr_go h | cases h)
theorem gr_dup2 (h : aDup2 pc ls st S M = some (.inl (pc', ls', st', S', M'))) : Gr S S' := by
  unfold aDup2 at h; split at h <;> first | cases h | (split at h <;> first | exact gr_go h | cases h)
theorem gr_inc {k : Nat} {n : Int} (h : aInc pc k n ls st S M = some (.inl (pc', ls', st', S', M'))) : Gr S S' := by
  unfold aInc at h; split at h <;> first | cases h | (split at h <;> first | cases h | (split at h <;> first | exact gr_go h | cases h))
theorem gr_lcmp (h : aLcmp pc ls st S M = some (.inl (pc', ls', st', S', M'))) : Gr S S' := by
  unfold aLcmp at h; split at h <;> first | exact gr_go h | cases h
theorem gr_i2l (h : aI2l pc ls st S M = some (.inl (pc', ls', st', S', M'))) : Gr S S' := by
  unfold aI2l at h; split at h <;> first | exact gr_go h | cases h
theorem gr_l2i (h : aL2i pc ls st S M = some (.inl (pc', ls', st', S', M'))) : Gr S S' := by
  unfold aL2i at h; split at h <;> first | exact gr_pI h | cases h
theorem gr_ldc {k n : Nat} (h : aLdc k pc n ls st S M = some (.inl (pc', ls', st', S', M'))) : Gr S S' := by
  unfold aLdc at h; split at h <;> first | exact gr_pI h | cases h
theorem gr_ldc2 {k : Nat} (h : aLdc2 k pc ls st S M = some (.inl (pc', ls', st', S', M'))) : Gr S S' := by
  unfold aLdc2 at h; split at h <;> first | exact gr_pL h | cases h
theorem gr_gets {k : Nat} (h : aGets k pc ls st S M = some (.inl (pc', ls', st', S', M'))) : Gr S S' := by
  unfold aGets at h; split at h <;> first | cases h | (split at h <;> first | exact gr_go h | cases h)
set_option maxHeartbeats 4000000 in
theorem gr_actI {own : Nat} {ini : Bool} {rt : Option FieldType} {i : Instr} (h : actI own ini rt i pc ls st S M = some (.inl (pc', ls', st', S', M'))) : Gr S S' := by
  unfold actI at h
  split at h
  all_goals first
    | exact gr_pI h
    | exact gr_go h
    | exact gr_bI h
    | exact gr_bL h
    | exact gr_uI h
    | exact gr_ldI h
    | exact gr_ldL h
    | exact gr_ldA h
    | exact gr_stI h
    | exact gr_stL h
    | exact gr_stA h
    | exact gr_c0 h
    | exact gr_cI h
    | exact gr_jmp h
    | exact gr_ldc h
    | exact gr_ldc2 h
    | exact gr_inc h
    | exact gr_i2l h
    | exact gr_l2i h
    | exact gr_lcmp h
    | exact gr_dup h
    | exact gr_dup2 h
    | exact gr_tab h
    | exact gr_look h
    | exact gr_getf h
    | exact gr_putf h
    | exact gr_gets h
    | exact gr_iald h
    | exact gr_iast h
    | exact gr_bald h
    | exact gr_bast h
    | exact gr_aald h
    | exact gr_aast h
    | exact gr_alen h
    | exact gr_newa h
    | exact gr_newq h
    | exact gr_newm h
    | exact gr_newO h
    | exact gr_invV h
    | exact gr_invS h
    | exact gr_invI h
    | exact gr_iret h
    | exact gr_lret h
    | exact gr_aret h
    | exact gr_vret h
    | (split at h <;> first | exact gr_go h | cases h)
    | cases h
end GR
theorem gr_run : ∀ (n d mid pc : Nat) (ls : Lv) (st : List Vv) (S : List Sh) (M : Mem) (r : Option Vv) (S' : List Sh) (M' : Mem), run n d mid pc ls st S M = some (r, S', M') → Gr S S' := by
  intro n
  induction n with
  | zero => intro d mid pc ls st S M r S' M' h; cases h
  | succ n ih =>
    intro d mid pc ls st S M r S' M' h
    unfold run at h
    split at h
    · cases h
    · next pc1 ls1 st1 S1 M1 ha =>
      unfold act at ha
      split at ha
      · exact (gr_actI ha).tr (ih _ _ _ _ _ _ _ _ _ _ h)
      · cases ha
    · split at h
      · cases h
      · split at h
        · split at h
          · cases h
          · next r1 S1 M1 h1 => exact (ih _ _ _ _ _ _ _ _ _ _ h1).tr (ih _ _ _ _ _ _ _ _ _ _ h)
        · cases h
    · cases h
      exact Gr.rf _
end
section
/-- the frame's side: what a method's own frame is -/
def FF (p : Program) (s : State) (m : MethodId) (meth : Method) (c : Code) (mid : Nat) : Prop := p.tables.exec = Jvm.exec ∧ c.code = mB mid ∧ c.maxLocals = mL mid ∧ meth.sig.returnType = mR mid ∧ s.vm.findClass (cN (mOwn mid)) = some m.cls ∧ meth.locks = false ∧ meth.name = (mY mid).name
def rmD (d MC MS : Nat) : Room := { frames := d + 1, cells := MC, slots := MS, locals := 40 * d + 60 }
/-- an array of arrays: proved over the whole library, in the last part -/
def MNA (l : Launch) : Prop := ∀ {p : Program} {e : Env} {R : Room} {s : State} {m : MethodId} {args : Array Value} {below : List Frame} {meth : Method} {c : Code} {H : Heap} {locs : List Loc} {cells slots : Nat} {Q : State → Prop}
  {cc : ByteArray} {pc : Nat} {ls : Array Slot} {D : va_G} {cA : Nat → ClassId} {base : Nat} {tt : Nat → Nat} {nL MC MS : Nat} {Sf S S' : List Sh} {M M' : Mem} {mls mls' : Lv} {mst mst' : List Vv} {pc' own idx : Nat},
  p.tables.exec = Jvm.exec → c.code = cc → CK D cA base tt s args → s.vm.findClass (cN own) = some m.cls → idx < 1000 → (S'.length ≤ Sf.length ∧ tot S' ≤ tot Sf) → R.cells = MC → R.slots = MS → HI D cA base tt s MC MS Sf S M H locs cells slots → LR (ph base tt) nL mls ls → (∀ v ∈ mst, okV v) →
  decode cc pc = .ok (.multianewarray idx 2, 4) → aNewm (own * 1000 + idx) pc mls mst S M = some (.inl (pc', mls', mst', S', M')) → KK p l e R s m args below meth c Q D cA base tt nL MC MS Sf pc' mls' mst' S' M' → W p l e R s m args below meth c H locs cells slots Q (F0 m pc ls (mst.map (rv (ph base tt))))
theorem ins_spec {mid pc : Nat} {i : Instr} (h : ins mid pc = some i) : ∃ len, decode (mB mid) pc = .ok (i, len) ∧ (len = ilen i ∨ isSw i = true) ∧ pidx i < 1000 := by
  unfold ins at h
  split at h
  · next j len hd =>
    split at h
    · next hc =>
      cases h
      exact ⟨len, hd, hc.1, hc.2⟩
    · cases h
  · cases h
section SIMS
variable {p : Program} {l : Launch} {e : Env} {s : State} {m : MethodId} {args : Array Value} {below : List Frame} {meth : Method} {c : Code} {H : Heap} {locs : List Loc} {cells slots : Nat} {Q : State → Prop}
variable {pc : Nat} {ls : Array Slot}
variable {D : va_G} {cA : Nat → ClassId} {base : Nat} {tt : Nat → Nat} {nL MC MS : Nat} {Sf S S' : List Sh} {M M' : Mem} {mls mls' : Lv} {mst mst' : List Vv} {pc' mid d : Nat}
theorem len_of {i : Instr} {len : Nat} (h : len = ilen i ∨ isSw i = true) (hs : isSw i = false) : len = ilen i := by
  rcases h with h | h
  · exact h
  · rw [hs] at h; cases h
set_option maxHeartbeats 4000000 in
theorem stepW (hmna : MNA l) (hF : FF p s m meth c mid) (hC : CK D cA base tt s args) (hH : HI D cA base tt s MC MS Sf S M H locs cells slots) (hL : LR (ph base tt) (mL mid) mls ls) (hst : ∀ v ∈ mst, okV v) (ha : act mid pc mls mst S M = some (.inl (pc', mls', mst', S', M'))) (hg : S'.length ≤ Sf.length ∧ tot S' ≤ tot Sf)
    (K : KK p l e (rmD d MC MS) s m args below meth c Q D cA base tt (mL mid) MC MS Sf pc' mls' mst' S' M') : W p l e (rmD d MC MS) s m args below meth c H locs cells slots Q (F0 m pc ls (mst.map (rv (ph base tt)))) := by
  obtain ⟨hx, hb, hml, hret, hown, hlocks, hname⟩ := hF
  unfold act at ha
  split at ha
  · next i hi =>
    obtain ⟨len, hd, hlen, hpi⟩ := ins_spec hi
    have hini : decide ((mY mid).name = "<init>") = true → meth.name = "<init>" := fun q => hname.trans (of_decide_eq_true q)
    have hRf : 1 ≤ (rmD d MC MS).frames := Nat.le_add_left 1 d
    have hRl : 40 ≤ (rmD d MC MS).locals := by show 40 ≤ 40 * d + 60; omega
    cases i with
    | iconst n => cases len_of hlen rfl; exact sp_iconst hx hb hH hL hst hd ha K
    | bipush n => cases len_of hlen rfl; exact sp_bipush hx hb hH hL hst hd ha K
    | sipush n => cases len_of hlen rfl; exact sp_sipush hx hb hH hL hst hd ha K
    | lconst n => cases len_of hlen rfl; exact sp_lconst hx hb hH hL hst hd ha K
    | ldc k => cases len_of hlen rfl; exact sh_ldc hx hb hC hown hpi hH hL hst hd ha K
    | ldc_w k => cases len_of hlen rfl; exact sh_ldcw hx hb hC hown hpi hH hL hst hd ha K
    | ldc2_w k => cases len_of hlen rfl; exact sh_ldc2 hx hb hC hown hpi hH hL hst hd ha K
    | iload_n k => cases len_of hlen rfl; exact sp_ldI hx hb hH hL hst (Or.inr ⟨k, rfl, hd, rfl⟩) ha K
    | iload k => cases len_of hlen rfl; exact sp_ldI hx hb hH hL hst (Or.inl ⟨hd, rfl⟩) ha K
    | lload_n k => cases len_of hlen rfl; exact sp_ldL hx hb hH hL hst (Or.inr ⟨k, rfl, hd, rfl⟩) ha K
    | lload k => cases len_of hlen rfl; exact sp_ldL hx hb hH hL hst (Or.inl ⟨hd, rfl⟩) ha K
    | aload_n k => cases len_of hlen rfl; exact sp_ldA hx hb hH hL hst (Or.inr ⟨k, rfl, hd, rfl⟩) ha K
    | aload k => cases len_of hlen rfl; exact sp_ldA hx hb hH hL hst (Or.inl ⟨hd, rfl⟩) ha K
    | istore_n k => cases len_of hlen rfl; exact sp_stI hx hb hH hL hst (Or.inr ⟨k, rfl, hd, rfl⟩) ha K
    | istore k => cases len_of hlen rfl; exact sp_stI hx hb hH hL hst (Or.inl ⟨hd, rfl⟩) ha K
    | lstore_n k => cases len_of hlen rfl; exact sp_stL hx hb hH hL hst (Or.inr ⟨k, rfl, hd, rfl⟩) ha K
    | lstore k => cases len_of hlen rfl; exact sp_stL hx hb hH hL hst (Or.inl ⟨hd, rfl⟩) ha K
    | astore_n k => cases len_of hlen rfl; exact sp_stA hx hb hH hL hst (Or.inr ⟨k, rfl, hd, rfl⟩) ha K
    | astore k => cases len_of hlen rfl; exact sp_stA hx hb hH hL hst (Or.inl ⟨hd, rfl⟩) ha K
    | iinc k n => cases len_of hlen rfl; exact sp_iinc hx hb hH hL hst hd ha K
    | iadd => cases len_of hlen rfl; exact sp_iadd hx hb hH hL hst hd ha K
    | isub => cases len_of hlen rfl; exact sp_isub hx hb hH hL hst hd ha K
    | imul => cases len_of hlen rfl; exact sp_imul hx hb hH hL hst hd ha K
    | idiv => cases len_of hlen rfl; exact sp_idiv hx hb hH hL hst hd ha K
    | irem => cases len_of hlen rfl; exact sp_irem hx hb hH hL hst hd ha K
    | iand => cases len_of hlen rfl; exact sp_iand hx hb hH hL hst hd ha K
    | ishl => cases len_of hlen rfl; exact sp_ishl hx hb hH hL hst hd ha K
    | ishr => cases len_of hlen rfl; exact sp_ishr hx hb hH hL hst hd ha K
    | ineg => cases len_of hlen rfl; exact sp_ineg hx hb hH hL hst hd ha K
    | i2b => cases len_of hlen rfl; exact sp_i2b hx hb hH hL hst hd ha K
    | i2s => cases len_of hlen rfl; exact sp_i2s hx hb hH hL hst hd ha K
    | i2l => cases len_of hlen rfl; exact sp_i2l hx hb hH hL hst hd ha K
    | l2i => cases len_of hlen rfl; exact sp_l2i hx hb hH hL hst hd ha K
    | ladd => cases len_of hlen rfl; exact sp_ladd hx hb hH hL hst hd ha K
    | lmul => cases len_of hlen rfl; exact sp_lmul hx hb hH hL hst hd ha K
    | ldiv => cases len_of hlen rfl; exact sp_ldiv hx hb hH hL hst hd ha K
    | lrem => cases len_of hlen rfl; exact sp_lrem hx hb hH hL hst hd ha K
    | lcmp => cases len_of hlen rfl; exact sp_lcmp hx hb hH hL hst hd ha K
    | dup => cases len_of hlen rfl; exact sp_dup hx hb hH hL hst hd ha K
    | dup2 => cases len_of hlen rfl; exact sp_dup2 hx hb hH hL hst hd ha K
    | goto off => cases len_of hlen rfl; exact sp_goto hx hb hH hL hst hd ha K
    | ifCond k off =>
      cases len_of hlen rfl
      cases k with
      | eq => exact sp_if_eq hx hb hH hL hst hd ha K
      | ne => exact sp_if_ne hx hb hH hL hst hd ha K
      | lt => exact sp_if_lt hx hb hH hL hst hd ha K
      | ge => exact sp_if_ge hx hb hH hL hst hd ha K
      | gt => exact sp_if_gt hx hb hH hL hst hd ha K
      | le => exact sp_if_le hx hb hH hL hst hd ha K
    | if_icmp k off =>
      cases len_of hlen rfl
      cases k with
      | eq => exact sp_icmp_eq hx hb hH hL hst hd ha K
      | ne => exact sp_icmp_ne hx hb hH hL hst hd ha K
      | lt => exact sp_icmp_lt hx hb hH hL hst hd ha K
      | ge => exact sp_icmp_ge hx hb hH hL hst hd ha K
      | gt => exact sp_icmp_gt hx hb hH hL hst hd ha K
      | le => exact sp_icmp_le hx hb hH hL hst hd ha K
    | tableswitch a b c d => exact sp_tab hx hb hH hL hst hd ha K
    | lookupswitch a b => exact sp_look hx hb hH hL hst hd ha K
    | getfield k => cases len_of hlen rfl; exact sh_getf hx hb hC hown hpi hH hL hst hd ha K
    | putfield k => cases len_of hlen rfl; exact sh_putf hx hb hC hown hini hpi hH hL hst hd ha K
    | getstatic k => cases len_of hlen rfl; exact sh_gets hx hb hC hown hpi hH hL hst hd ha K
    | iaload => cases len_of hlen rfl; exact sh_iald hx hb hC hown hH hL hst hd ha K
    | iastore => cases len_of hlen rfl; exact sh_iast hx hb hC hown hH hL hst hd ha K
    | baload => cases len_of hlen rfl; exact sh_bald hx hb hC hown hH hL hst hd ha K
    | bastore => cases len_of hlen rfl; exact sh_bast hx hb hC hown hH hL hst hd ha K
    | aaload => cases len_of hlen rfl; exact sh_aald hx hb hC hown hH hL hst hd ha K
    | aastore => cases len_of hlen rfl; exact sh_aast hx hb hC hown hH hL hst hd ha K
    | arraylength => cases len_of hlen rfl; exact sh_alen hx hb hC hown hH hL hst hd ha K
    | newarray t =>
      cases len_of hlen rfl
      cases t with
      | int => exact sh_newaI hx hb hC hown hg rfl rfl hH hL hst hd ha K
      | boolean => exact sh_newaZ hx hb hC hown hg rfl rfl hH hL hst hd ha K
      | _ => cases ha
    | anewarray k => cases len_of hlen rfl; exact sh_newq hx hb hC hown hpi hg rfl rfl hH hL hst hd ha K
    | multianewarray k n =>
      cases len_of hlen rfl
      unfold actI at ha
      split at ha
      all_goals first
        | (next h => cases h; exact hmna hx hb hC hown hpi hg rfl rfl hH hL hst hd ha K)
        | (next h => cases h)
        | cases ha
    | new k => cases len_of hlen rfl; exact sh_new hx hb hC hown hpi hg rfl rfl hH hL hst hd ha K
    | invokevirtual k =>
      have ha : aInvV (mOwn mid * 1000 + k) mst S = some (.inl (pc', mls', mst', S', M')) := ha
      unfold aInvV at ha
      split at ha
      · split at ha
        · split at ha
          · split at ha
            · split at ha <;> cases ha
            · cases ha
          · cases ha
        · cases ha
      · cases ha
    | invokestatic k => cases len_of hlen rfl; exact sc_copy hx hb hml hg rfl rfl hC hown hpi hRf hRl hH hL hst hd ha K
    | invokespecial k => cases len_of hlen rfl; exact sc_obj hx hb hml hC hown hpi hRf hRl hH hL hst hd ha K
    | ireturn =>
      have ha : aIret (mR mid) mst = some (.inl (pc', mls', mst', S', M')) := ha
      unfold aIret at ha
      split at ha
      · split at ha
        · cases ha
        · split at ha <;> cases ha
        · cases ha
      · cases ha
    | lreturn =>
      have ha : aLret (mR mid) mst = some (.inl (pc', mls', mst', S', M')) := ha
      unfold aLret at ha
      split at ha
      · split at ha <;> cases ha
      · cases ha
    | areturn =>
      have ha : aAret (mR mid) mst = some (.inl (pc', mls', mst', S', M')) := ha
      unfold aAret at ha
      split at ha
      · split at ha <;> cases ha
      · cases ha
    | return_ =>
      have ha : aVret (mR mid) mst = some (.inl (pc', mls', mst', S', M')) := ha
      unfold aVret at ha
      split at ha <;> cases ha
    | _ => cases ha
  · cases ha
end SIMS
end
section
theorem gw_good : ∀ w ∈ gwT, (w.onTables && w.keeps) = true ∨ ∃ ty, w = .arrayClass ty := fun w hw => good_of_word (List.mem_filter.mp hw).2
set_option maxRecDepth 100000 in
theorem mW6 : (List.range 206).all (fun k => plainName (mY k).cls) = true := by decide +kernel
set_option maxRecDepth 100000 in
theorem mW7 : (List.range 206).all (fun k => decide (mOwn k < 9)) = true := by decide +kernel
set_option maxRecDepth 100000 in
theorem mW8 : (List.range 206).all (fun k => !decide ((mY k).name = "<init>") || (mR k).isNone) = true := by decide +kernel
set_option maxRecDepth 100000 in
theorem nest_29 : ∀ q ∈ poolM, isNest q = true → q.2 = 29 := by decide +kernel
set_option maxRecDepth 100000 in
theorem poolM_ok : ∀ q ∈ poolM, q.2 < 206 ∨ (1000 ≤ q.2 ∧ q.2 ≤ 1003) := by decide +kernel
set_option maxRecDepth 100000 in
theorem nest_ini : ∀ q ∈ poolM, isNest q = true → (mY q.2).name = "<init>" ∧ q.2 < 206 := by decide +kernel
theorem mT_at {k : Nat} (h : k < 206) : mT[k]? = some (mOwn k, mY k, mB k, mL k, mR k, mP k, mS k) := by
  have hl : mT.length = 206 := rfl
  unfold mOwn mY mB mL mR mP mS
  rw [List.getD_eq_getElem?_getD, List.getElem?_eq_getElem (by rw [hl]; exact h)]
  rfl
theorem w_code {k : Nat} (h : k < 206) : Cond.code (mY k) (mB k) (mL k) (mR k) ∈ tables_1 := by
  have h1 : (mPl.map (fun q => tables_1[q.1]?))[k]? = (mT.map (fun x => some (Cond.code x.2.1 x.2.2.1 x.2.2.2.1 x.2.2.2.2.1)))[k]? := by rw [mW1]
  rw [List.getElem?_map, List.getElem?_map, mT_at h] at h1
  cases hq : mPl[k]? with
  | none => rw [hq] at h1; cases h1
  | some q =>
    rw [hq] at h1
    simp only [Option.map_some, Option.some.injEq] at h1
    exact List.mem_of_getElem? h1
theorem all_at {f : Nat → Bool} (h : (List.range 206).all f = true) {k : Nat} (hk : k < 206) : f k = true := List.all_eq_true.mp h k (List.mem_range.mpr hk)
theorem w_ini {k : Nat} (h : k < 206) : Cond.initialized (mY k).cls ∈ tables_1 := List.mem_of_getElem? (of_decide_eq_true (all_at mW2 h))
theorem w_st {k : Nat} (h : k < 206) : wSt k ∈ tables_1 := List.mem_of_getElem? (of_decide_eq_true (all_at mW3 h))
theorem w_sel {k : Nat} (h : k < 206) (h1 : mS k = false) (h2 : ¬ (mY k).name = "<init>") : Cond.selects (mY k).cls (mY k) (mY k) ∈ gwT := by
  have h3 := all_at mW4 h
  simp only [h1, h2, Bool.false_or, decide_false] at h3
  exact List.mem_filter.mpr ⟨List.mem_of_getElem? (of_decide_eq_true h3), rfl⟩
theorem m_facts {k : Nat} (h : k < 206) : (mY k).cls = cN (mOwn k) ∧ mL k ≤ 20 ∧ (mY k).cls ≠ "java/lang/invoke/MethodHandle" ∧ (mY k).cls ≠ "java/lang/invoke/VarHandle" ∧ (parseMethodDescriptor (mY k).desc).map (fun d => d.parameters.length) = some (mP k) := of_decide_eq_true (all_at mW5 h)
def wsM (k : Nat) : List Cond := .code (mY k) (mB k) (mL k) (mR k) :: gwT
theorem wsM_good {k : Nat} (h : k < 206) : GoodIn gwT (wsM k) := fun w hw => by
  rcases List.mem_cons.mp hw with rfl | hw
  · exact ⟨tb_in (w_code h), gw_good _ (tb_in (w_code h))⟩
  · exact ⟨hw, gw_good w hw⟩
/-! a method's start and end -/
def PP (D : va_G) (cA : Nat → ClassId) (base : Nat) (tt : Nat → Nat) (av : List Vv) (S : List Sh) (M : Mem) : Array Value → State → Prop := fun v U =>
  v = (av.map (rv (ph base tt))).toArray ∧ U.heap.size = base + S.length ∧ va_P D vwCl (world base (ph base tt) cA S M) U.heap ∧ va_K D vwCl (tysOf cA) U ∧ (∀ j, j < 3 → va_Z RX1 (sN j) "[I" (.ref (tt j)) (fun q => base ≤ q) U U.heap ∧ va_T .int (tt j) 6 (fun i => .int (Int32.ofInt ((sT j).getD i 0))) (fun q => base ≤ q) U U.heap) ∧ XW U
def okR : Option Vv → Prop := fun r => ∀ v ∈ r.toList, okV v
def QQ (D : va_G) (cA : Nat → ClassId) (base : Nat) (tt : Nat → Nat) (r : Option Vv) (S : List Sh) (M : Mem) : Array Value → State → Outcome → State → Prop := fun _ st o t =>
  o = .returned (r.map (rv (ph base tt))) ∧ va_P D vwCl (world base (ph base tt) cA S M) t.heap ∧ t.heap.size = base + S.length ∧ (∀ q : Nat, q < st.heap.size → ¬ base ≤ q → t.heap[q]? = st.heap[q]?) ∧ (∀ a i, inR (M a i)) ∧ okR r ∧ S.length ≤ 1000000
theorem PP.blind {D : va_G} {cA : Nat → ClassId} {base : Nat} {tt : Nat → Nat} {av : List Vv} {S : List Sh} {M : Mem} : FrameBlind (PP D cA base tt av S M) := fun a U g mk q => by
  obtain ⟨h1, h2, h3, h4, h5, h6⟩ := q
  exact ⟨h1, h2, h3, va_K.moved (u := U) (U := U.calling g mk a) (Vm.Alike.refl U.vm) h4, fun j hj => ⟨va_Z.moved (u := U) (U := U.calling g mk a) (Vm.Alike.refl U.vm) (h5 j hj).1, va_T.moved (u := U) (U := U.calling g mk a) (Vm.Alike.refl U.vm) (h5 j hj).2⟩, h6⟩
/-- the walk of a frame, with n steps of the little machine -/
def SimW (l : Launch) (n : Nat) : Prop := ∀ (d mid pc : Nat) (mls : Lv) (mst : List Vv) (S : List Sh) (M : Mem) (r : Option Vv) (Sf : List Sh) (Mf : Mem), run n d mid pc mls mst S M = some (r, Sf, Mf) →
  ∀ (D : va_G) (cA : Nat → ClassId) (base : Nat) (tt : Nat → Nat) (p : Program) (e : Env) (s : State) (m : MethodId) (args : Array Value) (below : List Frame) (meth : Method) (c : Code) (MC MS : Nat) (H : Heap) (locs : List Loc) (cells slots : Nat) (ls : Array Slot),
  FF p s m meth c mid → CK D cA base tt s args → HI D cA base tt s MC MS Sf S M H locs cells slots → LR (ph base tt) (mL mid) mls ls → (∀ v ∈ mst, okV v) →
  W p l e (rmD d MC MS) s m args below meth c H locs cells slots (MQ below (QQ D cA base tt r Sf Mf) args s MC MS (fun q => base ≤ q)) (F0 m pc ls (mst.map (rv (ph base tt))))
theorem eLoc_len (f : Nat → Nat) : ∀ av : List Vv, (lg_sl (av.map (rv f))).length = (eLoc av).length
  | [] => rfl
  | v :: r => by
    have ih := eLoc_len f r
    have hc := rv_cat (f := f) v
    unfold cat at hc
    unfold lg_sl at ih ⊢
    rw [List.map_cons, List.flatMap_cons, List.length_append, ih]
    by_cases h : isL v = true
    · rw [if_pos h] at hc
      have e1 : eLoc (v :: r) = some v :: none :: eLoc r := if_pos h
      rw [e1]
      simp [hc]
      omega
    · rw [if_neg h] at hc
      have e1 : eLoc (v :: r) = some v :: eLoc r := if_neg h
      rw [e1]
      simp [hc]
      omega
theorem eLoc_at (f : Nat → Nat) : ∀ (av : List Vv) (i : Nat) (v : Vv), (eLoc av)[i]? = some (some v) → v ∈ av ∧ (lg_sl (av.map (rv f)))[i]? = some (Slot.val (rv f v))
  | [], i, v, h => by simp [eLoc] at h
  | w :: r, i, v, h => by
    have hc := rv_cat (f := f) w
    unfold cat at hc
    unfold eLoc at h
    have hsl : lg_sl ((w :: r).map (rv f)) = (if (rv f w).category = 2 then [Slot.val (rv f w), .second] else [Slot.val (rv f w)]) ++ lg_sl (r.map (rv f)) := by
      simp [lg_sl]
    rw [hsl]
    by_cases hl : isL w = true
    · rw [if_pos hl] at hc h
      rw [if_pos hc]
      match i, h with
      | 0, h => cases h; exact ⟨List.mem_cons_self, rfl⟩
      | 1, h => cases h
      | i + 2, h =>
        obtain ⟨h1, h2⟩ := eLoc_at f r i v (by simpa using h)
        exact ⟨List.mem_cons_of_mem _ h1, by simpa using h2⟩
    · rw [if_neg hl] at hc h
      rw [if_neg (by rw [hc]; decide)]
      match i, h with
      | 0, h => cases h; exact ⟨List.mem_cons_self, rfl⟩
      | i + 1, h =>
        obtain ⟨h1, h2⟩ := eLoc_at f r i v (by simpa using h)
        exact ⟨List.mem_cons_of_mem _ h1, by simpa using h2⟩
theorem LR_entry {f : Nat → Nat} {mid : Nat} {av : List Vv} (h : (eLoc av).length ≤ mL mid) (hok : ∀ v ∈ av, okV v) : LR f (mL mid) (entryL mid av) ((lg_sl (av.map (rv f)) ++ List.replicate (mL mid - (lg_sl (av.map (rv f))).length) Slot.unset).toArray) := by
  have hl := eLoc_len f av
  have he := lv_entry (av.map (rv f)) (n := mL mid) (by rw [hl]; exact h)
  refine ⟨by unfold entryL; simp; omega, he.1, he.2.1, fun i v hi => ?_⟩
  unfold entryL at hi
  by_cases hlt : i < (eLoc av).length
  · rw [List.getElem?_append_left hlt] at hi
    obtain ⟨h1, h2⟩ := eLoc_at f av i v hi
    refine ⟨hok v h1, ?_⟩
    rw [List.getElem?_toArray, List.getElem?_append_left (by rw [hl]; exact hlt)]
    exact h2
  · rw [List.getElem?_append_right (by omega), List.getElem?_replicate] at hi
    split at hi
    · cases hi
    · cases hi
/-- a method's contract out of its run -/
def MetA (l : Launch) (n : Nat) : Prop := ∀ (d mid : Nat) (av : List Vv) (S : List Sh) (M : Mem) (r : Option Vv) (Sf : List Sh) (Mf : Mem), run n d mid 0 (entryL mid av) [] S M = some (r, Sf, Mf) →
  ∀ (D : va_G) (cA : Nat → ClassId) (base : Nat) (tt : Nat → Nat), mid < 206 → (eLoc av).length ≤ mL mid → (∀ v ∈ av, okV v) → (∀ a i, inR (M a i)) → S.length ≤ 1000000 →
  Met l (mY mid) (wsM mid) (rmD d (Sf.length - S.length) (tot Sf - tot S)) (PP D cA base tt av S M) (QQ D cA base tt r Sf Mf) (Sf.length - S.length) (tot Sf - tot S) (fun q => base ≤ q)
theorem met_of_sim {l : Launch} {n : Nat} (h : SimW l n) : MetA l n := by
  intro d mid av S M r Sf Mf hrun D cA base tt hmid hlen hok hM hSl
  have hg := gr_run _ _ _ _ _ _ _ _ _ _ _ hrun
  refine Met.ofW (cc := mB mid) (maxL := mL mid) (ret := mR mid) (all_at mW6 hmid) rfl ?_
  intro p e s m args below meth c s₁ B hml hv
  obtain ⟨rfl, hsz, hP, hK, hZ, hX⟩ := hv
  have hts := atoms_spec (ws := wsM mid) B.pre
  have hown : s.vm.findClass (mY mid).cls = some m.cls := findClass_of_methodNamed B.named
  rw [(m_facts hmid).1] at hown
  have hname : meth.name = (mY mid).name := (name_of_methodNamed B.named B.method).1
  rw [lg_entry_eq]
  exact h d mid 0 (entryL mid av) [] S M r Sf Mf hrun D cA base tt p e s m _ below meth c (Sf.length - S.length) (tot Sf - tot S) s.heap [] 0 0 _
    ⟨B.exec, B.bytes, hml, B.returns, hown, B.notSynchronized, hname⟩
    ⟨fun w hw => hts w (List.mem_cons_of_mem _ hw), hK, hZ, by omega, hX⟩
    ⟨hP, va_S.rf, hM, hSl, by omega, by have := hg.1; omega, by have := hg.2; omega⟩ (LR_entry hlen hok) (fun v hv => by cases hv)
section SIMI
variable {p : Program} {l : Launch} {e : Env} {R : Room} {s : State} {m : MethodId} {args : Array Value} {below : List Frame} {meth : Method} {c : Code} {H : Heap} {locs : List Loc} {cells slots : Nat} {Q : State → Prop}
variable {pc : Nat} {ls : Array Slot} {rest st0 : List Value} {mc ms : Nat} {free : Addr → Prop}
theorem call_go {Qa : State → Outcome → State → Prop} (hr : va_Run p l e R s m args below meth c H locs cells slots mc ms (F0 m pc ls st0) rest Qa free)
    (kk : ∀ (v : Option Value) (st₀ t : State) (L : List Loc), st₀.heap = H → s.vm.Alike t.vm → (∀ q ∈ L, free q.base) → Qa st₀ (.returned v) t → W p l e R s m args below meth c t.heap (locs ++ L) (cells + mc) (slots + ms) Q (F0 m (pc + 3) ls (v.toList ++ rest))) : W p l e R s m args below meth c H locs cells slots Q (F0 m pc ls st0) := by
  intro T hT X
  obtain ⟨v, st₀, t, T', L, h0, X', hL, e1, e2, hq, st⟩ := hr T hT X
  obtain ⟨t2, a1, b1⟩ := kk v st₀ t L h0 (by rw [← e2]; exact X'.warmed.alike) hL hq T' e1 X'
  exact ⟨t2, st t2 a1, b1⟩
end SIMI
end
section
section NR
variable {pc : Nat} {ls : Lv} {st : List Vv} {S : List Sh} {M : Mem} {q : (Nat × List Vv × List Vv) ⊕ Option Vv}
theorem nr_go (h : go pc ls st S M = some (.inr q)) : False := by unfold go at h; cases h
theorem nr_pI {x : Int} (h : pI pc ls st S M x = some (.inr q)) : False := by unfold pI at h; split at h <;> first | exact nr_go h | cases h
theorem nr_pL {x : Int} (h : pL pc ls st S M x = some (.inr q)) : False := by unfold pL at h; split at h <;> first | exact nr_go h | cases h
theorem nr_jmp {x : Int} (h : jmp pc x ls st S M = some (.inr q)) : False := by unfold jmp at h; split at h <;> first | exact nr_go h | cases h
theorem nr_br {b : Bool} {x : Int} (h : br b pc x ls st S M = some (.inr q)) : False := by
  unfold br at h; split at h <;> first | cases h | (split at h <;> exact nr_go h)
theorem nr_bI {f : Int → Int → Option Int} (h : bI pc ls st S M f = some (.inr q)) : False := by
  unfold bI at h; split at h <;> first | cases h | (split at h <;> first | exact nr_pI h | cases h)
theorem nr_bL {f : Int → Int → Option Int} (h : bL pc ls st S M f = some (.inr q)) : False := by
  unfold bL at h; split at h <;> first | cases h | (split at h <;> first | exact nr_pL h | cases h)
theorem nr_uI {f : Int → Int} (h : uI pc ls st S M f = some (.inr q)) : False := by
  unfold uI at h; split at h <;> first | exact nr_pI h | cases h
theorem nr_ldI {k : Nat} (h : ldI pc k ls st S M = some (.inr q)) : False := by
  unfold ldI at h; split at h <;> first | exact nr_go h | cases h
theorem nr_ldL {k : Nat} (h : ldL pc k ls st S M = some (.inr q)) : False := by
  unfold ldL at h; split at h <;> first | exact nr_go h | cases h
theorem nr_ldA {k : Nat} (h : ldA pc k ls st S M = some (.inr q)) : False := by
  unfold ldA at h; split at h <;> first | exact nr_go h | cases h
theorem nr_stI {k : Nat} (h : stI pc k ls st S M = some (.inr q)) : False := by
  unfold stI at h; split at h <;> first | cases h | (split at h <;> first | exact nr_go h | cases h)
theorem nr_stL {k : Nat} (h : stL pc k ls st S M = some (.inr q)) : False := by
  unfold stL at h; split at h <;> first | cases h | (split at h <;> first | exact nr_go h | cases h)
theorem nr_stA {k : Nat} (h : stA pc k ls st S M = some (.inr q)) : False := by
  unfold stA at h; split at h <;> first | cases h | (split at h <;> first | exact nr_go h | cases h)
theorem nr_c0 {x : Int} {f : Int → Bool} (h : c0 pc x ls st S M f = some (.inr q)) : False := by
  unfold c0 at h; split at h <;> first | exact nr_br h | cases h
theorem nr_cI {x : Int} {f : Int → Int → Bool} (h : cI pc x ls st S M f = some (.inr q)) : False := by
  unfold cI at h; split at h <;> first | exact nr_br h | cases h
theorem nr_getf {k : Nat} (h : aGetf k pc ls st S M = some (.inr q)) : False := by
  unfold aGetf at h
  split at h
  · split at h
    · split at h
      · split at h <;> exact nr_go h
      · cases h
    · cases h
  · cases h
theorem nr_putf {own k : Nat} {ini : Bool} (h : aPutf own ini k pc ls st S M = some (.inr q)) : False := by
  unfold aPutf at h
  split at h
  · split at h
    · split at h
      · split at h
        · split at h
          · exact nr_go h
          · cases h
        · split at h
          · exact nr_go h
          · cases h
        · cases h
      · cases h
    · cases h
  · cases h
theorem nr_iald (h : aIald pc ls st S M = some (.inr q)) : False := by
  unfold aIald at h
  split at h
  · split at h
    · split at h
      · split at h
        · split at h
          · exact nr_go h
          · cases h
        · cases h
      · split at h
        · split at h
          · exact nr_go h
          · cases h
        · cases h
    · cases h
  · cases h
theorem nr_iast (h : aIast pc ls st S M = some (.inr q)) : False := by
  unfold aIast at h; split at h <;> first | cases h | (split at h <;> first | cases h | (split at h <;> first | exact nr_go h | cases h))
theorem nr_bald (h : aBald pc ls st S M = some (.inr q)) : False := by
  unfold aBald at h; split at h <;> first | cases h | (split at h <;> first | cases h | (split at h <;> first | exact nr_go h | cases h))
theorem nr_bast (h : aBast pc ls st S M = some (.inr q)) : False := by
  unfold aBast at h; split at h <;> first | cases h | (split at h <;> first | cases h | (split at h <;> first | exact nr_go h | cases h))
theorem nr_aald (h : aAald pc ls st S M = some (.inr q)) : False := by
  unfold aAald at h; split at h <;> first | cases h | (split at h <;> first | cases h | (split at h <;> first | exact nr_go h | cases h))
theorem nr_alen (h : aAlen pc ls st S M = some (.inr q)) : False := by
  unfold aAlen at h; split at h <;> first | cases h | (split at h <;> first | cases h | (split at h <;> first | exact nr_go h | cases h))
theorem nr_aast (h : aAast pc ls st S M = some (.inr q)) : False := by
  unfold aAast at h
  split at h
  · split at h
    · split at h
      · exact nr_go h
      · cases h
    · cases h
  · cases h
theorem nr_newa {k : Nat} (h : aNewa k pc ls st S M = some (.inr q)) : False := by
  unfold aNewa at h; split at h <;> first | cases h | (split at h <;> first | exact nr_go h | cases h)
theorem nr_newq {k : Nat} (h : aNewq k pc ls st S M = some (.inr q)) : False := by
  unfold aNewq at h; split at h <;> first | cases h | (split at h <;> first | exact nr_go h | cases h)
theorem nr_newm {k : Nat} (h : aNewm k pc ls st S M = some (.inr q)) : False := by
  unfold aNewm at h; split at h <;> first | cases h | (split at h <;> first | exact nr_go h | cases h)
theorem nr_newO {k : Nat} (h : aNew k pc ls st S M = some (.inr q)) : False := by
  unfold aNew at h; split at h <;> first | cases h | (split at h <;> first | exact nr_go h | cases h)
theorem nr_tab {dflt lo hi : Int} {offs : Array Int} (h : aTab dflt lo hi offs pc ls st S M = some (.inr q)) : False := by
  unfold aTab at h; split at h <;> first | cases h | (split at h <;> first | exact nr_jmp h | (split at h <;> first | exact nr_jmp h | cases h))
theorem nr_look {dflt : Int} {ps : Array (Int × Int)} (h : aLook dflt ps pc ls st S M = some (.inr q)) : False := by
  unfold aLook at h; split at h <;> first | cases h | (split at h <;> first | exact nr_jmp h | cases h)
theorem nr_dup (h : aDup pc ls st S M = some (.inr q)) : False := by
  unfold aDup at h; split at h <;> first | cases h | (split at h <;> first | exact nr_go h | cases h)
theorem nr_dup2 (h : aDup2 pc ls st S M = some (.inr q)) : False := by
  unfold aDup2 at h; split at h <;> first | cases h | (split at h <;> first | exact nr_go h | cases h)
theorem nr_inc {k : Nat} {n : Int} (h : aInc pc k n ls st S M = some (.inr q)) : False := by
  unfold aInc at h; split at h <;> first | cases h | (split at h <;> first | cases h | (split at h <;> first | exact nr_go h | cases h))
theorem nr_lcmp (h : aLcmp pc ls st S M = some (.inr q)) : False := by
  unfold aLcmp at h; split at h <;> first | exact nr_go h | cases h
theorem nr_i2l (h : aI2l pc ls st S M = some (.inr q)) : False := by
  unfold aI2l at h; split at h <;> first | exact nr_go h | cases h
theorem nr_l2i (h : aL2i pc ls st S M = some (.inr q)) : False := by
  unfold aL2i at h; split at h <;> first | exact nr_pI h | cases h
theorem nr_ldc {k n : Nat} (h : aLdc k pc n ls st S M = some (.inr q)) : False := by
  unfold aLdc at h; split at h <;> first | exact nr_pI h | cases h
theorem nr_ldc2 {k : Nat} (h : aLdc2 k pc ls st S M = some (.inr q)) : False := by
  unfold aLdc2 at h; split at h <;> first | exact nr_pL h | cases h
theorem nr_gets {k : Nat} (h : aGets k pc ls st S M = some (.inr q)) : False := by
  unfold aGets at h; split at h <;> first | cases h | (split at h <;> first | exact nr_go h | cases h)
end NR
end
section
theorem aoa_moved {u U : State} (hvm : u.vm.Alike U.vm) (h : va_Nw (.arrayOver (.array .int)) u) : va_Nw (.arrayOver (.array .int)) U := by
  unfold va_Nw Cond.before Cond.holds at h ⊢
  simp only [Cond.value, beq_iff_eq] at h ⊢
  cases hc : u.vm.findClass (FieldType.array .int).toString with
  | none => simp [hc] at h
  | some comp =>
    simp only [hc, Option.bind_some, Option.bind_eq_some_iff, Option.map_eq_some_iff] at h
    obtain ⟨c, hi, k, hk, hb⟩ := h
    obtain ⟨k', hk', he⟩ := hvm.2.2 _ _ hk
    have hi2 : (U.vm.classes.findIdx? fun (x : Class) => match x.kind with | .array component _ => component == comp | _ => false) = some c := by
      have e1 := va_idx_bare U.vm comp
      have e2 := va_idx_bare u.vm comp
      have e3 : U.vm.bare = u.vm.bare := by first | exact hvm.bare_eq | exact hvm.bare_eq.symm
      rw [e3] at e1
      exact (e1.symm.trans e2).trans hi
    have hkind : k'.kind = k.kind := by rw [he]
    have f1 : U.vm.findClass (FieldType.array .int).toString = some comp := by rw [hvm.findClass]; exact hc
    have f2 : ∀ n, U.vm.findClass n = u.vm.findClass n := fun n => by rw [hvm.findClass]
    rw [f1]
    simp only [Option.bind_some, Option.bind_eq_some_iff, Option.map_eq_some_iff]
    exact ⟨c, hi2, k', hk', by rw [hkind]; simp only [f2]; exact hb⟩
theorem XW.moved {u U : State} (hW : u.WarmedH U.vm) (h : XW u) : XW U := ⟨va_AO.moved hW.alike h.1, va_AO.moved hW.alike h.2.1, aoa_moved hW.alike h.2.2.1, va_Nw.warmM hW h.2.2.2⟩
section NI
variable {pc mid : Nat} {mls : Lv} {mst : List Vv} {S : List Sh} {M : Mem} {k : Nat} {r : Option Vv} {q : Nat × List Vv × List Vv}
theorem nv_ret (h : aInvV k mst S = some (.inr (.inr r))) : False := by
  unfold aInvV at h
  split at h
  · split at h
    · split at h
      · split at h
        · split at h <;> cases h
        · cases h
      · cases h
    · cases h
  · cases h
theorem ns_ret (h : aInvS k pc mls mst S M = some (.inr (.inr r))) : False := by
  unfold aInvS at h
  split at h
  · split at h
    · split at h
      · split at h
        · split at h
          · exact nr_go h
          · cases h
        · cases h
      · cases h
    · split at h
      · split at h
        · split at h
          · exact nr_go h
          · cases h
        · cases h
      · split at h
        · split at h
          · split at h
            · exact nr_go h
            · cases h
          · cases h
        · split at h <;> cases h
  · cases h
theorem ni_ret (h : aInvI k pc mls mst S M = some (.inr (.inr r))) : False := by
  unfold aInvI at h
  split at h
  · split at h
    · split at h
      · split at h
        · exact nr_go h
        · cases h
      · cases h
    · split at h
      · split at h
        · split at h <;> cases h
        · cases h
      · cases h
  · cases h
theorem nc_i {rt : Option FieldType} (h : aIret rt mst = some (.inr (.inl q))) : False := by
  unfold aIret at h
  split at h
  · split at h
    · cases h
    · split at h <;> cases h
    · cases h
  · cases h
theorem nc_l {rt : Option FieldType} (h : aLret rt mst = some (.inr (.inl q))) : False := by
  unfold aLret at h; split at h <;> first | cases h | (split at h <;> cases h)
theorem nc_a {rt : Option FieldType} (h : aAret rt mst = some (.inr (.inl q))) : False := by
  unfold aAret at h; split at h <;> first | cases h | (split at h <;> cases h)
theorem nc_v {rt : Option FieldType} (h : aVret rt mst = some (.inr (.inl q))) : False := by
  unfold aVret at h; split at h <;> cases h
/-- an act that is no step is a return's, or a call's -/
theorem act_kind {own : Nat} {ini : Bool} {rt : Option FieldType} {i : Instr} {z : (Nat × List Vv × List Vv) ⊕ Option Vv} (h : actI own ini rt i pc mls mst S M = some (.inr z)) :
    (i = .ireturn ∧ aIret rt mst = some (.inr z)) ∨ (i = .lreturn ∧ aLret rt mst = some (.inr z)) ∨ (i = .areturn ∧ aAret rt mst = some (.inr z)) ∨ (i = .return_ ∧ aVret rt mst = some (.inr z)) ∨
    (∃ x, i = .invokevirtual x ∧ aInvV (own * 1000 + x) mst S = some (.inr z)) ∨ (∃ x, i = .invokestatic x ∧ aInvS (own * 1000 + x) pc mls mst S M = some (.inr z)) ∨ (∃ x, i = .invokespecial x ∧ aInvI (own * 1000 + x) pc mls mst S M = some (.inr z)) := by
  unfold actI at h
  split at h
  all_goals first
    | exact (nr_pI h).elim
    | exact (nr_go h).elim
    | exact (nr_bI h).elim
    | exact (nr_bL h).elim
    | exact (nr_uI h).elim
    | exact (nr_ldI h).elim
    | exact (nr_ldL h).elim
    | exact (nr_ldA h).elim
    | exact (nr_stI h).elim
    | exact (nr_stL h).elim
    | exact (nr_stA h).elim
    | exact (nr_c0 h).elim
    | exact (nr_cI h).elim
    | exact (nr_jmp h).elim
    | exact (nr_ldc h).elim
    | exact (nr_ldc2 h).elim
    | exact (nr_inc h).elim
    | exact (nr_i2l h).elim
    | exact (nr_l2i h).elim
    | exact (nr_lcmp h).elim
    | exact (nr_dup h).elim
    | exact (nr_dup2 h).elim
    | exact (nr_tab h).elim
    | exact (nr_look h).elim
    | exact (nr_getf h).elim
    | exact (nr_putf h).elim
    | exact (nr_gets h).elim
    | exact (nr_iald h).elim
    | exact (nr_iast h).elim
    | exact (nr_bald h).elim
    | exact (nr_bast h).elim
    | exact (nr_aald h).elim
    | exact (nr_aast h).elim
    | exact (nr_alen h).elim
    | exact (nr_newa h).elim
    | exact (nr_newq h).elim
    | exact (nr_newm h).elim
    | exact (nr_newO h).elim
    | exact Or.inl ⟨rfl, h⟩
    | exact Or.inr (Or.inl ⟨rfl, h⟩)
    | exact Or.inr (Or.inr (Or.inl ⟨rfl, h⟩))
    | exact Or.inr (Or.inr (Or.inr (Or.inl ⟨rfl, h⟩)))
    | exact Or.inr (Or.inr (Or.inr (Or.inr (Or.inl ⟨_, rfl, h⟩))))
    | exact Or.inr (Or.inr (Or.inr (Or.inr (Or.inr (Or.inl ⟨_, rfl, h⟩)))))
    | exact Or.inr (Or.inr (Or.inr (Or.inr (Or.inr (Or.inr ⟨_, rfl, h⟩)))))
    | (exfalso; split at h <;> first | exact nr_go h | cases h)
    | cases h
end NI
section SIMR
variable {p : Program} {l : Launch} {e : Env} {s : State} {m : MethodId} {args : Array Value} {below : List Frame} {meth : Method} {c : Code} {H : Heap} {locs : List Loc} {cells slots : Nat}
variable {pc : Nat} {ls : Array Slot}
variable {D : va_G} {cA : Nat → ClassId} {base : Nat} {tt : Nat → Nat} {MC MS : Nat} {S Sf : List Sh} {M Mf : Mem} {mls : Lv} {mst : List Vv} {mid d : Nat}
theorem retW {r : Option Vv} (hF : FF p s m meth c mid) (hC : CK D cA base tt s args) (hH : HI D cA base tt s MC MS S S M H locs cells slots) (hst : ∀ v ∈ mst, okV v) (ha : act mid pc mls mst S M = some (.inr (.inr r))) :
    W p l e (rmD d MC MS) s m args below meth c H locs cells slots (MQ below (QQ D cA base tt r S M) args s MC MS (fun q => base ≤ q)) (F0 m pc ls (mst.map (rv (ph base tt)))) := by
  obtain ⟨hx, hb, hml, hret, hown, hlocks, hname⟩ := hF
  obtain ⟨hP, hS, hM, hSl, h1, h2, h3⟩ := id hH
  have hc1 : cells = MC := by omega
  have hc2 : slots = MS := by omega
  subst hc1
  subst hc2
  refine W_size (fun hz => ?_)
  have hsz := hH.size hC.2.2.2.1 hz
  have hq : ∀ (r : Option Vv), okR r → ∀ t : State, t.heap = H → s.WarmedH t.vm → QQ D cA base tt r S M args s (.returned (r.map (rv (ph base tt)))) t := fun r hr t ht _ => ⟨rfl, by rw [ht]; exact hP, by rw [ht]; exact hsz, fun q q1 q2 => by rw [ht]; exact hS.2.1 q q1 q2, hM, hr, hSl⟩
  have hf : ∀ q ∈ locs, base ≤ q.base := hS.2.2
  have hoks : ∀ v : Vv, (∀ w ∈ [v], okV w) → okR (some v) := fun v h w hw => h w hw
  unfold act at ha
  split at ha
  · next i hi =>
    obtain ⟨len, hd, hlen, hpi⟩ := ins_spec hi
    rcases act_kind ha with ⟨rfl, ha2⟩ | ⟨rfl, ha2⟩ | ⟨rfl, ha2⟩ | ⟨rfl, ha2⟩ | ⟨x, rfl, ha2⟩ | ⟨x, rfl, ha2⟩ | ⟨x, rfl, ha2⟩
    all_goals clear ha
    · cases len_of hlen rfl
      unfold aIret at ha2
      split at ha2
      · next x =>
        split at ha2
        · next hrt =>
          cases ha2
          exact W.iret (v := Int32.ofInt x) hx hb (hret.trans hrt) (hq (some (vI x)) (hoks _ hst)) hf hd hlocks
        · next hrt =>
          split at ha2
          · next hz01 =>
            cases ha2
            exact W.zret (v := Int32.ofInt x) (ty := .boolean) hx hb (hret.trans hrt) (nar_z hz01).1 (hq (some (vI x)) (hoks _ hst)) hf hd hlocks
          · cases ha2
        · cases ha2
      · cases ha2
    · cases len_of hlen rfl
      unfold aLret at ha2
      split at ha2
      · next x =>
        split at ha2
        · next hrt =>
          cases ha2
          exact W.lret (v := Int64.ofInt x) hx hb (hret.trans hrt) (hq (some (vL x)) (hoks _ hst)) hf hd hlocks
        · cases ha2
      · cases ha2
    · cases len_of hlen rfl
      unfold aAret at ha2
      split at ha2
      · next x =>
        split at ha2
        · next C hrt =>
          cases ha2
          exact W.aret (v := .ref (ph base tt x)) hx hb (hret.trans hrt) (Or.inl ⟨_, rfl⟩) (Or.inr ⟨_, rfl⟩) (hq (some (vR (some x))) (hoks _ hst)) hf hd hlocks
        · cases ha2
      · cases ha2
    · cases len_of hlen rfl
      unfold aVret at ha2
      split at ha2
      · next hrt =>
        cases ha2
        exact W.vret hx hb (hret.trans hrt) (hq none (fun v hv => by cases hv)) hf hd hlocks
      · cases ha2
    · exact (nv_ret ha2).elim
    · exact (ns_ret ha2).elim
    · exact (ni_ret ha2).elim
  · cases ha
end SIMR
end
section
section SIMQ
variable {p : Program} {l : Launch} {e : Env} {s : State} {m : MethodId} {args : Array Value} {below : List Frame} {meth : Method} {c : Code} {H : Heap} {locs : List Loc} {cells slots : Nat} {Q : State → Prop}
variable {pc : Nat} {ls : Array Slot}
variable {D : va_G} {cA : Nat → ClassId} {base : Nat} {tt : Nat → Nat} {MC MS : Nat} {S Sf S1 : List Sh} {M Mf M1 : Mem} {mls : Lv} {mst : List Vv} {mid d : Nat}
theorem cells_call {d : Nat} {k : Nat} (hk : k < 206) {a b : Nat} : (rmD d a b).frames + 1 ≤ (rmD (d + 1) MC MS).frames ∧ 8 + (mL k + 11) + (rmD d a b).locals ≤ (rmD (d + 1) MC MS).locals := by
  have h := (m_facts hk).2.1
  refine ⟨Nat.le_refl _, ?_⟩
  show 8 + (mL k + 11) + (40 * d + 60) ≤ 40 * (d + 1) + 60
  omega
/-- behind a call -/
theorem afterW {r : Option Vv} {rest : List Vv} {st0 : List Value} {as : Array Value} (hC : CK D cA base tt s args) (hH : HI D cA base tt s MC MS Sf S M H locs cells slots) (hL : LR (ph base tt) (mL mid) mls ls) (hrest : ∀ v ∈ rest, okV v) (hg : Gr S S1)
    (hr : va_Run p l e (rmD (d + 1) MC MS) s m args below meth c H locs cells slots (S1.length - S.length) (tot S1 - tot S) (F0 m pc ls st0) (rest.map (rv (ph base tt))) (QQ D cA base tt r S1 M1 as) (fun q => base ≤ q))
    (K : KK p l e (rmD (d + 1) MC MS) s m args below meth c Q D cA base tt (mL mid) MC MS Sf (pc + 3) mls (r.toList ++ rest) S1 M1) : W p l e (rmD (d + 1) MC MS) s m args below meth c H locs cells slots Q (F0 m pc ls st0) := by
  refine call_go hr (fun v st₀ t L h0 _ hLo hq => ?_)
  obtain ⟨q1, q2, q3, q4, q5, q6, q7⟩ := hq
  obtain ⟨hP, hS, hM, hSl, h1, h2, h3⟩ := id hH
  have hv : v = r.map (rv (ph base tt)) := Outcome.returned.inj q1
  have hst : (r.toList ++ rest).map (rv (ph base tt)) = v.toList ++ rest.map (rv (ph base tt)) := by
    rw [hv]
    cases r <;> rfl
  have hsz0 : s.heap.size ≤ t.heap.size := by rw [q3]; have := hg.1; omega
  have K1 := K t.heap (locs ++ L) (cells + (S1.length - S.length)) (slots + (tot S1 - tot S)) ls
    ⟨q2, ⟨hsz0, fun q a1 a2 => by
      rw [q4 q (by rw [h0]; exact Nat.lt_of_lt_of_le a1 hS.1) a2, h0]
      exact hS.2.1 q a1 a2, fun q hq => by
      rcases List.mem_append.mp hq with h | h
      · exact hS.2.2 q h
      · exact hLo q h⟩, q5, q7, by have := hg.1; omega, by have := hg.1; omega, by have := hg.2; omega⟩ hL (fun v hv => by
      rcases List.mem_append.mp hv with h | h
      · exact q6 v h
      · exact hrest v h)
  rw [hst] at K1
  exact K1
theorem preP {av : List Vv} (hC : CK D cA base tt s args) (hH : HI D cA base tt s MC MS Sf S M H locs cells slots) (hsz : H.size = base + S.length) : ∀ U : State, U.heap = H → s.WarmedH U.vm → PP D cA base tt av S M (av.map (rv (ph base tt))).toArray U := by
  intro U hU hW
  obtain ⟨hP, hS, -⟩ := hH
  refine ⟨rfl, by rw [hU]; exact hsz, by rw [hU]; exact hP, va_K.moved hW.alike hC.2.1, fun j hj => ⟨?_, ?_⟩, XW.moved hW hC.2.2.2.2⟩
  · rw [hU]
    exact ((hC.2.2.1 j hj).1.moved hW.alike).kept (fun a h1 h2 => hS.2.1 a h1 h2)
  · rw [hU]
    exact ((hC.2.2.1 j hj).2.moved hW.alike).kept (fun a h1 h2 => hS.2.1 a h1 h2)
theorem take_drop_rv {f : Nat → Nat} {st : List Vv} {n : Nat} {v : Vv} {rest : List Vv} (h : st.drop n = v :: rest) : st.map (rv f) = ((st.take n).reverse.map (rv f)).reverse ++ rv f v :: rest.map (rv f) := by
  rw [← List.map_reverse, List.reverse_reverse, ← List.map_cons, ← List.map_append, ← h, List.take_append_drop]
set_option maxHeartbeats 4000000 in
theorem callW {n : Nat} (hA : MetA l n) {mid' : Nat} {av rest : List Vv} {r : Option Vv} (hF : FF p s m meth c mid) (hC : CK D cA base tt s args) (hH : HI D cA base tt s MC MS Sf S M H locs cells slots) (hL : LR (ph base tt) (mL mid) mls ls) (hst : ∀ v ∈ mst, okV v) (ha : act mid pc mls mst S M = some (.inr (.inl (mid', av, rest)))) (hlen : (eLoc av).length ≤ mL mid') (hrun : run n d mid' 0 (entryL mid' av) [] S M = some (r, S1, M1)) (hg1 : Gr S1 Sf)
    (K : KK p l e (rmD (d + 1) MC MS) s m args below meth c Q D cA base tt (mL mid) MC MS Sf (pc + 3) mls (r.toList ++ rest) S1 M1) : W p l e (rmD (d + 1) MC MS) s m args below meth c H locs cells slots Q (F0 m pc ls (mst.map (rv (ph base tt)))) := by
  obtain ⟨hx, hb, hml, hret, hown, hlocks, hname⟩ := hF
  obtain ⟨hP, hS, hM, hSl, h1, h2, h3⟩ := id hH
  have hg := gr_run _ _ _ _ _ _ _ _ _ _ _ hrun
  refine W_size (fun hz => ?_)
  have hsz := hH.size hC.2.2.2.1 hz
  have hfix : CallFix p m c (mB mid) (mL mid) s args gwT (cN (mOwn mid)) := ⟨hx, hb, hml, hown, hC.1⟩
  have hfit : cells + (S1.length - S.length) ≤ (rmD (d + 1) MC MS).cells ∧ slots + (tot S1 - tot S) ≤ (rmD (d + 1) MC MS).slots := by
    show cells + (S1.length - S.length) ≤ MC ∧ slots + (tot S1 - tot S) ≤ MS
    have := hg1.1
    have := hg1.2
    have := hg.1
    have := hg.2
    omega
  have hokt : ∀ k, ∀ v ∈ mst.take k, okV v := fun k v hv => hst v (List.mem_of_mem_take hv)
  have hokd : ∀ k, ∀ v ∈ mst.drop k, okV v := fun k v hv => hst v (List.mem_of_mem_drop hv)
  unfold act at ha
  split at ha
  · next i hi =>
    obtain ⟨len, hd, hlen2, hpi⟩ := ins_spec hi
    rcases act_kind ha with ⟨rfl, ha2⟩ | ⟨rfl, ha2⟩ | ⟨rfl, ha2⟩ | ⟨rfl, ha2⟩ | ⟨x, rfl, ha2⟩ | ⟨x, rfl, ha2⟩ | ⟨x, rfl, ha2⟩
    · exact (nc_i ha2).elim
    · exact (nc_l ha2).elim
    · exact (nc_a ha2).elim
    · exact (nc_v ha2).elim
    · cases len_of hlen2 rfl
      unfold aInvV at ha2
      split at ha2
      · next mi hk =>
        split at ha2
        · next hmi =>
          split at ha2
          · next a rest' hdr =>
            split at ha2
            · next kd nn rf hs =>
              split at ha2
              · next hcc =>
                cases ha2
                obtain ⟨hkd, hcat, hpl⟩ := hcc
                have hpi : x < 1000 := hpi
                have hmm : mid' < 206 := by rcases poolM_ok _ (lk_mem hk) with h | h <;> simp only at h <;> omega
                obtain ⟨f1, f2, f3, f4, f5⟩ := m_facts hmm
                have hw := wM _ (lk_mem hk)
                rw [notNest (nest_1000 _ (lk_mem hk) (Or.inr (Or.inr hmi.2.2))), (key_div hpi).1, (key_div hpi).2] at hw
                have hyy : mYY mid' = mY mid' := by unfold mYY; rw [if_neg (by omega), if_neg (by omega), if_neg (by omega), if_neg (by omega)]
                rw [hyy] at hw
                have hst1 := w_st hmm
                unfold wSt at hst1
                rw [hmi.2.1] at hst1
                have hoki : ∀ v ∈ vR (some a) :: (mst.take (mP mid')).reverse, okV v := ok1 (fun v hv => hokt _ v (List.mem_reverse.mp hv)) trivial
                have hM1 := hA d mid' _ S M r S1 M1 hrun D cA base tt hmm hlen hoki hM hSl
                have hat := world_at (base := base) (f := ph base tt) (cA := cA) (M := M) hs
                have hkd9 : kd < 9 := by
                  rw [hkd]
                  have h9 := f1
                  exact (of_decide_eq_true (all_at mW7 hmm))
                rw [cellE_obj hkd9] at hat
                have hra : rv (ph base tt) (vR (some a)) = .ref (base + a) := by show Value.ref (ph base tt a) = _; rw [ph_lt (S_lt hs hSl).2]
                have hpre := preP (av := vR (some a) :: (mst.take (mP mid')).reverse) hC hH hsz
                rw [List.map_cons, hra] at hpre
                have hrun2 := va_runV (e := e) (below := below) (meth := meth) (locs := locs) (b := base + a) (As := ((mst.take (mP mid')).reverse).map (rv (ph base tt))) (rest := rest.map (rv (ph base tt))) (n := mP mid') (index := x) (C := (mY mid').cls) (g := F0 m pc ls (mst.map (rv (ph base tt)))) hfix hM1
                  ⟨callB_of (mP mid') hC.1 (wsM_good hmm) rfl rfl rfl (hC.1 _ (tb_in (w_ini hmm))) (hC.1 _ (tb_in hw)) ⟨f3, f4, f5⟩ (cells_call hmm), hC.1 _ (tb_in hst1), hC.1 _ (w_sel hmm hmi.2.1 hmi.2.2)⟩
                  ⟨PP.blind, (by rw [f1, ← hkd]; exact va_recv hC.2.1 hP (cls_cl kd hkd9) hat), hpre⟩ rfl (by simp; omega) hL.2.1 (by show mst.map _ = _; rw [take_drop_rv hdr, hra]) (by show 2 * 0 + _ ≤ 8; rw [catS_rv]; omega) hd hfit
                exact afterW hC hH hL (fun v hv => hokd _ v (by rw [hdr]; exact List.mem_cons_of_mem _ hv)) hg hrun2 K
              · cases ha2
            · cases ha2
          · cases ha2
        · cases ha2
      · cases ha2
    · cases len_of hlen2 rfl
      have hpi : x < 1000 := hpi
      unfold aInvS at ha2
      split at ha2
      · next mi hk =>
        split at ha2
        · split at ha2
          · split at ha2
            · split at ha2
              · exact (nr_go ha2).elim
              · cases ha2
            · cases ha2
          · cases ha2
        · split at ha2
          · split at ha2
            · split at ha2
              · exact (nr_go ha2).elim
              · cases ha2
            · cases ha2
          · split at ha2
            · split at ha2
              · split at ha2
                · exact (nr_go ha2).elim
                · cases ha2
              · cases ha2
            · split at ha2
              · next hmi =>
                cases ha2
                have hmm : mid' < 206 := by rcases poolM_ok _ (lk_mem hk) with h | h <;> simp only at h <;> omega
                obtain ⟨f1, f2, f3, f4, f5⟩ := m_facts hmm
                have hw := wM _ (lk_mem hk)
                rw [notNest (nest_1000 _ (lk_mem hk) (Or.inr (Or.inl hmi.2.1))), (key_div hpi).1, (key_div hpi).2] at hw
                have hyy : mYY mid' = mY mid' := by unfold mYY; rw [if_neg (by omega), if_neg (by omega), if_neg (by omega), if_neg (by omega)]
                rw [hyy] at hw
                have hst1 := w_st hmm
                unfold wSt at hst1
                rw [hmi.2.1] at hst1
                have hoki : ∀ v ∈ (mst.take (mP mid')).reverse, okV v := fun v hv => hokt _ v (List.mem_reverse.mp hv)
                have hM1 := hA d mid' _ S M r S1 M1 hrun D cA base tt hmm hlen hoki hM hSl
                have hpre := preP (av := (mst.take (mP mid')).reverse) hC hH hsz
                have hrun2 := va_runS (e := e) (below := below) (meth := meth) (locs := locs) (As := ((mst.take (mP mid')).reverse).map (rv (ph base tt))) (rest := (mst.drop (mP mid')).map (rv (ph base tt))) (n := mP mid') (index := x) (g := F0 m pc ls (mst.map (rv (ph base tt)))) hfix hM1
                  ⟨callB_of (mP mid') hC.1 (wsM_good hmm) rfl rfl rfl (hC.1 _ (tb_in (w_ini hmm))) (hC.1 _ (tb_in hw)) ⟨f3, f4, f5⟩ (cells_call hmm), hC.1 _ (tb_in hst1)⟩
                  ⟨PP.blind, hpre⟩ rfl (by simp; omega) hL.2.1 (by show mst.map _ = _; rw [← List.map_reverse, List.reverse_reverse, ← List.map_append, List.take_append_drop]) (by show 2 * 0 + _ ≤ 8; rw [catS_rv]; omega) hd hfit
                exact afterW hC hH hL (hokd _) hg hrun2 K
              · cases ha2
      · cases ha2
    · cases len_of hlen2 rfl
      have hpi : x < 1000 := hpi
      unfold aInvI at ha2
      split at ha2
      · next mi hk =>
        split at ha2
        · split at ha2
          · split at ha2
            · exact (nr_go ha2).elim
            · cases ha2
          · cases ha2
        · split at ha2
          · next hmi =>
            split at ha2
            · next a rest' hdr =>
              split at ha2
              · next hcat =>
                cases ha2
                have hmm : mid' < 206 := by rcases poolM_ok _ (lk_mem hk) with h | h <;> simp only at h <;> omega
                obtain ⟨f1, f2, f3, f4, f5⟩ := m_facts hmm
                have hw := wM _ (lk_mem hk)
                have hyy : mYY mid' = mY mid' := by unfold mYY; rw [if_neg (by omega), if_neg (by omega), if_neg (by omega), if_neg (by omega)]
                have hst1 := w_st hmm
                unfold wSt at hst1
                rw [hmi.2.1] at hst1
                have hoki : ∀ v ∈ vR (some a) :: (mst.take (mP mid')).reverse, okV v := ok1 (fun v hv => hokt _ v (List.mem_reverse.mp hv)) trivial
                have hM1 := hA d mid' _ S M r S1 M1 hrun D cA base tt hmm hlen hoki hM hSl
                have hpre := preP (av := vR (some a) :: (mst.take (mP mid')).reverse) hC hH hsz
                rw [List.map_cons] at hpre
                have hra : rv (ph base tt) (vR (some a)) = .ref (ph base tt a) := rfl
                rw [hra] at hpre
                have hret0 : mR mid' = none := Option.isNone_iff_eq_none.mp (by have h9 := all_at mW8 hmm; simp only [hmi.2.2.1, decide_true, Bool.not_true, Bool.false_or] at h9; exact h9)
                by_cases hn : isNest (mOwn mid * 1000 + x, mid') = true
                · have hN := nest_ini _ (lk_mem hk) hn
                  have hkey : mOwn mid * 1000 + x = 7018 := by simpa [isNest] using hn
                  have ho7 : mOwn mid = 7 := by omega
                  have hx18 : x = 18 := by omega
                  subst hx18
                  have hm29 : mid' = 29 := nest_29 _ (lk_mem hk) hn
                  subst hm29
                  have hnw : va_Nw (.methodLinkNest (cN (mOwn mid)) 18 (mY 29) "ElbowQueue") s := by rw [ho7]; exact hC.2.2.2.2.2.2.2
                  have hcw := va_cnB (R := rmD (d + 1) MC MS) (s := s) (args := args) (own := cN (mOwn mid)) (host := "ElbowQueue") (index := 18) (y := mY 29) (bytes := mB 29) (maxL := mL 29) (ret := none) (ws := wsM 29) (rm := rmD d (S1.length - S.length) (tot S1 - tot S)) (mP 29) hC.1 (wsM_good hmm) rfl rfl rfl hnw (hC.1 _ (tb_in (w_ini hmm))) ⟨f3, f4, f5⟩ (cells_call hmm)
                  have hrun2 := va_runIN (e := e) (below := below) (meth := meth) (locs := locs) (b := ph base tt a) (As := ((mst.take (mP 29)).reverse).map (rv (ph base tt))) (rest := rest.map (rv (ph base tt))) (n := mP 29) (index := 18) (g := F0 m pc ls (mst.map (rv (ph base tt)))) hfix hM1
                    ⟨hcw, hmi.2.2.1, hC.1 _ (tb_in hst1)⟩
                    ⟨PP.blind, hpre⟩ rfl (by simp; omega) hL.2.1 (by show mst.map _ = _; rw [take_drop_rv hdr, hra]) (by show 2 * 0 + _ ≤ 8; rw [catS_rv]; omega) hd hfit
                  exact afterW hC hH hL (fun v hv => hokd _ v (by rw [hdr]; exact List.mem_cons_of_mem _ hv)) hg hrun2 K
                · have hn2 : isNest (mOwn mid * 1000 + x, mid') = false := by simpa using hn
                  rw [notNest hn2, (key_div hpi).1, (key_div hpi).2, hyy] at hw
                  have hrun2 := va_runI (e := e) (below := below) (meth := meth) (locs := locs) (b := ph base tt a) (As := ((mst.take (mP mid')).reverse).map (rv (ph base tt))) (rest := rest.map (rv (ph base tt))) (n := mP mid') (index := x) (g := F0 m pc ls (mst.map (rv (ph base tt)))) hfix hM1
                    ⟨callB_of (bytes := mB mid') (maxL := mL mid') (ret := none) (ws' := gwT) (mP mid') hC.1 (wsM_good hmm) (by unfold wsM; rw [hret0]) rfl rfl (hC.1 _ (tb_in (w_ini hmm))) (hC.1 _ (tb_in hw)) ⟨f3, f4, f5⟩ (cells_call hmm), hmi.2.2.1, hC.1 _ (tb_in hst1)⟩
                    ⟨PP.blind, hpre⟩ rfl (by simp; omega) hL.2.1 (by show mst.map _ = _; rw [take_drop_rv hdr, hra]) (by show 2 * 0 + _ ≤ 8; rw [catS_rv]; omega) hd hfit
                  exact afterW hC hH hL (fun v hv => hokd _ v (by rw [hdr]; exact List.mem_cons_of_mem _ hv)) hg hrun2 K
              · cases ha2
            · cases ha2
          · cases ha2
      · cases ha2
  · cases ha
end SIMQ
set_option maxHeartbeats 4000000 in
theorem simW {l : Launch} (hmna : MNA l) : ∀ n, SimW l n := by
  intro n
  induction n with
  | zero =>
    intro d mid pc mls mst S M r Sf Mf h
    cases h
  | succ n ih =>
    intro d mid pc mls mst S M r Sf Mf h D cA base tt p e s m args below meth c MC MS H locs cells slots ls hF hC hH hL hst
    unfold run at h
    split at h
    · cases h
    · next pc1 ls1 st1 S1 M1 ha =>
      have hg := gr_run _ _ _ _ _ _ _ _ _ _ _ h
      exact stepW hmna hF hC hH hL hst ha hg (fun H1 locs1 cells1 slots1 ls1 hH1 hL1 hst1 => ih d mid pc1 _ _ S1 M1 r Sf Mf h D cA base tt p e s m args below meth c MC MS H1 locs1 cells1 slots1 ls1 hF hC hH1 hL1 hst1)
    · next mid' av rest ha =>
      split at h
      · cases h
      · next d' =>
        split at h
        · next hlen =>
          split at h
          · cases h
          · next r1 S1 M1 hrun =>
            have hg := gr_run _ _ _ _ _ _ _ _ _ _ _ h
            exact callW (met_of_sim ih) hF hC hH hL hst ha hlen hrun hg (fun H1 locs1 cells1 slots1 ls1 hH1 hL1 hst1 => ih (d' + 1) mid (pc + 3) _ _ S1 M1 r Sf Mf h D cA base tt p e s m args below meth c MC MS H1 locs1 cells1 slots1 ls1 hF hC hH1 hL1 hst1)
        · cases h
    · next r1 ha =>
      cases h
      exact retW hF hC hH hst ha
/-- a method's contract, out of its run in the little machine -/
theorem metA {l : Launch} (hmna : MNA l) (n : Nat) : MetA l n := met_of_sim (simW hmna n)
end
section
theorem mna_outer (c : ClassId) (N h0 : Nat) : ∀ i : Nat, Jvm.Free.Multi.outerC c N h0 i = arrV c N (fun j => va_rf (if j < i then some (h0 + 1 + j) else none))
  | 0 => by
    show ({ cls := c, slots := Array.replicate N .null, vm := .none } : Cell) = _
    rw [arrV_new]
    refine congrArg (arrV c N) (funext fun j => ?_)
    simp [va_rf]
  | i + 1 => by
    show (Jvm.Free.Multi.outerC c N h0 i).setSlot i (.ref (h0 + 1 + i)) = _
    rw [mna_outer c N h0 i, arrV_store]
    refine congrArg (arrV c N) (funext fun j => ?_)
    by_cases e : j = i
    · subst e
      simp [updV, va_rf]
    · by_cases h : j < i
      · simp [updV, e, h, Nat.lt_succ_of_lt h]
      · simp [updV, e, h, show ¬ j < i + 1 by omega]
theorem mna_str : "[" ++ (FieldType.array FieldType.int).toString = "[[I" := by decide +kernel
theorem mna_str2 : (FieldType.array FieldType.int).toString = "[" ++ FieldType.int.toString := by decide +kernel
theorem mna_tot (n k : Nat) : tot (List.replicate n ((20, k, []) : Sh)) = n * k := by
  unfold tot
  rw [List.map_replicate, List.sum_replicate_nat]
set_option maxHeartbeats 4000000 in
theorem mna (l : Launch) : MNA l := by
  intro p e R s m args below meth c H locs cells slots Q cc pc ls D cA base tt nL MC MS Sf S S' M M' mls mls' mst mst' pc' own idx hx hb hC hown hix hg hRc hRs hH hL hst hd ha K
  unfold aNewm at ha
  obtain ⟨hP, hS, hM, hSl, h1, h2, h3⟩ := id hH
  split at ha
  · next k n rest ci hk =>
    have hkr : inR k := okh hst
    have hnr : inR n := okh (okt hst)
    split at ha
    · next hc =>
      obtain ⟨hn0, hn1, hk0, hk1, rfl, hl⟩ := hc
      obtain ⟨rfl, rfl, rfl, rfl, rfl⟩ := go_inj ha
      have hw := wK _ (lk_mem hk)
      unfold wordK at hw
      rw [(key_div hix).1, (key_div hix).2] at hw
      have hcK : cK 22 = "[" ++ (FieldType.array FieldType.int).toString := by rw [mna_str]; rfl
      rw [hcK] at hw
      have htot : tot ((22, n.toNat, (List.range n.toNat).map (fun i => some (S.length + 1 + i))) :: List.replicate n.toNat ((20, k.toNat, []) : Sh)) = n.toNat + n.toNat * k.toNat := by
        rw [show ((22, n.toNat, (List.range n.toNat).map (fun i => some (S.length + 1 + i))) :: List.replicate n.toNat ((20, k.toNat, []) : Sh)) = [(22, n.toNat, (List.range n.toNat).map (fun i => some (S.length + 1 + i)))] ++ List.replicate n.toNat ((20, k.toNat, []) : Sh) from rfl, tot_app, mna_tot]
        simp [tot]
      have hlen : (S ++ ((22, n.toNat, (List.range n.toNat).map (fun i => some (S.length + 1 + i))) :: List.replicate n.toNat ((20, k.toNat, []) : Sh))).length = S.length + 1 + n.toNat := by simp; omega
      rw [tot_app, htot, hlen] at hg
      refine W_size (fun hz => ?_)
      have hsz := hH.size hC.2.2.2.1 hz
      have hby4 : (Int32.ofInt k).toNatClampNeg * componentBytes FieldType.int ≤ 536870912 := by
        have h9 : componentBytes FieldType.int = 4 := rfl
        rw [i32_clamp hkr, h9]
        omega
      intro T hT Xs
      obtain ⟨vm₁, cA1, comp, -, fA, fC, hO, -, X', step⟩ := Xs.multianewarray2F hx (ty := .int) hown (hC.1 _ (tb_in hw)) hC.2.2.2.2.2.2.1 (hC.1 _ (tb_in w_arrI)) (g := F0 m pc ls ((vI k :: vI n :: rest).map (rv (ph base tt)))) rfl (by rw [hb]; exact hd) (n := Int32.ofInt n) (k := Int32.ofInt k) rfl (i32_neg hnr hn0) (i32_neg hkr hk0) (by rw [i32_clamp hnr]; omega) hby4 (by rw [i32_clamp hkr]; omega) rfl rfl (by rw [hRc, i32_clamp hnr]; omega) (by rw [hRs, i32_clamp hnr, i32_clamp hkr]; omega)
      rw [i32_clamp hnr, i32_clamp hkr] at X' step
      have e22 : cA1 = cA 22 := Option.some.inj (fA.symm.trans (hC.2.1.2 2 _ rfl).2)
      have e20 : comp = cA 20 := by
        have q := (hC.2.1.2 0 _ rfl).2
        rw [mna_str2] at fC
        exact Option.some.inj (fC.symm.trans q)
      subst e22
      subst e20
      generalize hF : Jvm.Free.Multi.fill (T.setVm vm₁) (cA 22) (cA 20) n.toNat k.toNat (defaultValue .int) n.toNat = F at X' step
      have hTh : (T.setVm vm₁).heap = H := hT
      obtain ⟨f1, f2, -, -⟩ := Jvm.Free.Multi.fill_facts (T.setVm vm₁) (cA 22) (cA 20) n.toNat k.toNat (defaultValue .int) n.toNat
      rw [hF, hTh] at f1 f2
      have hold : ∀ x : Nat, x < H.size → F.heap[x]? = H[x]? := fun x hx => by
        have q := Jvm.Free.Multi.fill_old (T.setVm vm₁) (cA 22) (cA 20) n.toNat k.toNat (defaultValue .int) (a := x) (by rw [hTh]; exact hx) n.toNat
        rw [hF, hTh] at q
        exact q
      have hrow : ∀ j : Nat, j < n.toNat → F.heap[H.size + 1 + j]? = some (Jvm.Free.Multi.innerC (cA 20) k.toNat (defaultValue .int)) := fun j hj => by
        have q := Jvm.Free.Multi.fill_inner (T.setVm vm₁) (cA 22) (cA 20) n.toNat k.toNat (defaultValue .int) n.toNat j hj
        rw [hF, hTh] at q
        exact q
      rw [mna_outer] at f2
      have hPn : va_P D vwCl (world base (ph base tt) cA (S ++ ((22, n.toNat, (List.range n.toNat).map (fun i => some (S.length + 1 + i))) :: List.replicate n.toNat (20, k.toNat, []))) (mzs M S.length)) F.heap := by
        intro b q hb2
        simp only [world, List.getElem?_mapIdx, Option.map_eq_some_iff] at hb2
        obtain ⟨h, hbS, rfl⟩ := hb2
        by_cases c1 : b < S.length
        · rw [List.getElem?_append_left c1] at hbS
          rw [cellE_congr (N := M) (fun i => mzs_lt c1 i)]
          have q1 := hP b _ (world_at hbS)
          exact q1.kept (hold _ (q1.lt))
        · rw [List.getElem?_append_right (by omega)] at hbS
          by_cases c2 : b = S.length
          · subst c2
            rw [Nat.sub_self] at hbS
            cases hbS
            rw [cellE_ref (Or.inl rfl)]
            show F.heap[base + S.length]? = some (vp_cell _ _)
            rw [vp_cell_q, ← hsz, f2]
            congr 2
            funext j
            by_cases c3 : j < n.toNat
            · simp only [if_pos c3, List.getD_eq_getElem?_getD, List.getElem?_map, List.getElem?_range c3, Option.map_some, Option.getD_some]
              rw [ph_lt (by omega)]
              rw [hsz]
              congr 2
              omega
            · simp only [if_neg c3, List.getD_eq_getElem?_getD]
              rw [List.getElem?_eq_none (by simp; omega)]
              rfl
          · obtain ⟨j, rfl⟩ : ∃ j, b = S.length + 1 + j := ⟨b - S.length - 1, by omega⟩
            rw [show S.length + 1 + j - S.length = j + 1 by omega, List.getElem?_cons_succ, List.getElem?_replicate] at hbS
            split at hbS
            · next hj =>
              cases hbS
              rw [cellE_arr (Or.inl rfl)]
              show F.heap[base + (S.length + 1 + j)]? = some (vp_cell _ _)
              rw [vp_cell_i, show base + (S.length + 1 + j) = H.size + 1 + j by omega, hrow j hj]
              show some ({ cls := cA 20, slots := Array.replicate k.toNat (defaultValue .int), vm := .none } : Cell) = _
              rw [arrV_new]
              congr 2
              funext i
              have q9 : mzs M S.length (S.length + 1 + j) (i : Int) = 0 := if_pos (by omega)
              rw [q9]
              rfl
            · cases hbS
      have K1 := K F.heap locs (cells + 1 + n.toNat) (slots + n.toNat + n.toNat * k.toNat) ls
        ⟨hPn, ⟨by rw [f1]; have := hS.1; omega, fun q q1 q2 => (hold q (by have := hS.1; omega)).trans (hS.2.1 q q1 q2), hS.2.2⟩, mzs_R hM, by rw [hlen]; omega, by rw [hlen]; omega, by rw [hlen]; omega, by rw [tot_app, htot]; omega⟩ hL (ok1 (okt (okt hst)) (v := vR (some S.length)) trivial)
      obtain ⟨t, a1, b1⟩ := K1 F rfl X'
      refine ⟨t, step t ?_, b1⟩
      have hr : rv (ph base tt) (vR (some S.length)) = .ref T.heap.size := by show Value.ref (ph base tt _) = _; rw [ph_lt (by omega), hT, hsz]
      rw [List.map_cons, hr] at a1
      exact a1
    · cases ha
  · cases ha
end
