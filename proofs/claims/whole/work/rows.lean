section
-- ===== PART A: goes FIRST, ahead of the names: the tables' words, and 'selects' of the private methods out of them =====
/-- a private method of a class that the tables say can be made, by its rows of tables_1 -/
def lw_okq (q : MethodName × Nat) : Prop := (q.1.cls ≠ "java/lang/invoke/MethodHandle" ∧ q.1.cls ≠ "java/lang/invoke/VarHandle") ∧ Cond.instantiable q.1.cls q.2 ∈ tables_1 ∧ Cond.privateMethod q.1 ∈ tables_1 ∧ Cond.instanceMethod q.1 ∈ tables_1
theorem lw_p0 : lw_okq (⟨"ElbowQueue", "found", "(I)I"⟩, 14) := ⟨⟨by decide +kernel, by decide +kernel⟩, List.mem_of_getElem? (i := 13) (by decide +kernel), List.mem_of_getElem? (i := 277) (by decide +kernel), List.mem_of_getElem? (i := 278) (by decide +kernel)⟩
theorem lw_p1 : lw_okq (⟨"ElbowQueue", "fine", "(I)I"⟩, 14) := ⟨⟨by decide +kernel, by decide +kernel⟩, List.mem_of_getElem? (i := 13) (by decide +kernel), List.mem_of_getElem? (i := 286) (by decide +kernel), List.mem_of_getElem? (i := 287) (by decide +kernel)⟩
theorem lw_p2 : lw_okq (⟨"ElbowQueue$Reader", "readHead", "(LElbowQueue$Told;)V"⟩, 4) := ⟨⟨by decide +kernel, by decide +kernel⟩, List.mem_of_getElem? (i := 40) (by decide +kernel), List.mem_of_getElem? (i := 357) (by decide +kernel), List.mem_of_getElem? (i := 358) (by decide +kernel)⟩
theorem lw_p3 : lw_okq (⟨"ElbowQueue$Reader", "sign", "(I)V"⟩, 4) := ⟨⟨by decide +kernel, by decide +kernel⟩, List.mem_of_getElem? (i := 40) (by decide +kernel), List.mem_of_getElem? (i := 361) (by decide +kernel), List.mem_of_getElem? (i := 362) (by decide +kernel)⟩
theorem lw_p4 : lw_okq (⟨"ElbowQueue$Reader", "byteAt", "(I)I"⟩, 4) := ⟨⟨by decide +kernel, by decide +kernel⟩, List.mem_of_getElem? (i := 40) (by decide +kernel), List.mem_of_getElem? (i := 365) (by decide +kernel), List.mem_of_getElem? (i := 366) (by decide +kernel)⟩
theorem lw_p5 : lw_okq (⟨"ElbowQueue$Reader", "number", "(I)I"⟩, 4) := ⟨⟨by decide +kernel, by decide +kernel⟩, List.mem_of_getElem? (i := 40) (by decide +kernel), List.mem_of_getElem? (i := 369) (by decide +kernel), List.mem_of_getElem? (i := 370) (by decide +kernel)⟩
theorem lw_p6 : lw_okq (⟨"ElbowQueue$Reader", "readWaiters", "(LElbowQueue$Told;)V"⟩, 4) := ⟨⟨by decide +kernel, by decide +kernel⟩, List.mem_of_getElem? (i := 40) (by decide +kernel), List.mem_of_getElem? (i := 376) (by decide +kernel), List.mem_of_getElem? (i := 377) (by decide +kernel)⟩
theorem lw_p7 : lw_okq (⟨"ElbowQueue$Reader", "readPassers", "(LElbowQueue$Told;)V"⟩, 4) := ⟨⟨by decide +kernel, by decide +kernel⟩, List.mem_of_getElem? (i := 40) (by decide +kernel), List.mem_of_getElem? (i := 387) (by decide +kernel), List.mem_of_getElem? (i := 388) (by decide +kernel)⟩
theorem lw_p8 : lw_okq (⟨"ElbowQueue$Reader", "sort", "()I"⟩, 4) := ⟨⟨by decide +kernel, by decide +kernel⟩, List.mem_of_getElem? (i := 40) (by decide +kernel), List.mem_of_getElem? (i := 391) (by decide +kernel), List.mem_of_getElem? (i := 392) (by decide +kernel)⟩
theorem lw_p9 : lw_okq (⟨"ElbowQueue$Town", "join", "(I)V"⟩, 11) := ⟨⟨by decide +kernel, by decide +kernel⟩, List.mem_of_getElem? (i := 107) (by decide +kernel), List.mem_of_getElem? (i := 409) (by decide +kernel), List.mem_of_getElem? (i := 410) (by decide +kernel)⟩
theorem lw_p10 : lw_okq (⟨"ElbowQueue$Town", "tellOn", "()V"⟩, 11) := ⟨⟨by decide +kernel, by decide +kernel⟩, List.mem_of_getElem? (i := 107) (by decide +kernel), List.mem_of_getElem? (i := 443) (by decide +kernel), List.mem_of_getElem? (i := 444) (by decide +kernel)⟩
theorem lw_p11 : lw_okq (⟨"ElbowQueue$Town", "takesOn", "(I)Z"⟩, 11) := ⟨⟨by decide +kernel, by decide +kernel⟩, List.mem_of_getElem? (i := 107) (by decide +kernel), List.mem_of_getElem? (i := 451) (by decide +kernel), List.mem_of_getElem? (i := 452) (by decide +kernel)⟩
theorem lw_p12 : lw_okq (⟨"ElbowQueue$Town", "standOn", "()V"⟩, 11) := ⟨⟨by decide +kernel, by decide +kernel⟩, List.mem_of_getElem? (i := 107) (by decide +kernel), List.mem_of_getElem? (i := 459) (by decide +kernel), List.mem_of_getElem? (i := 460) (by decide +kernel)⟩
theorem lw_p13 : lw_okq (⟨"ElbowQueue$Town", "bears", "(I)I"⟩, 11) := ⟨⟨by decide +kernel, by decide +kernel⟩, List.mem_of_getElem? (i := 107) (by decide +kernel), List.mem_of_getElem? (i := 463) (by decide +kernel), List.mem_of_getElem? (i := 464) (by decide +kernel)⟩
theorem lw_p14 : lw_okq (⟨"ElbowQueue$Town", "hoped", "(II)I"⟩, 11) := ⟨⟨by decide +kernel, by decide +kernel⟩, List.mem_of_getElem? (i := 107) (by decide +kernel), List.mem_of_getElem? (i := 467) (by decide +kernel), List.mem_of_getElem? (i := 468) (by decide +kernel)⟩
theorem lw_p15 : lw_okq (⟨"ElbowQueue$Town", "meetPasser", "(Z)V"⟩, 11) := ⟨⟨by decide +kernel, by decide +kernel⟩, List.mem_of_getElem? (i := 107) (by decide +kernel), List.mem_of_getElem? (i := 471) (by decide +kernel), List.mem_of_getElem? (i := 472) (by decide +kernel)⟩
def lw_privs_1 : List (MethodName × Nat) := [(⟨"ElbowQueue", "found", "(I)I"⟩, 14), (⟨"ElbowQueue", "fine", "(I)I"⟩, 14), (⟨"ElbowQueue$Reader", "readHead", "(LElbowQueue$Told;)V"⟩, 4), (⟨"ElbowQueue$Reader", "sign", "(I)V"⟩, 4), (⟨"ElbowQueue$Reader", "byteAt", "(I)I"⟩, 4), (⟨"ElbowQueue$Reader", "number", "(I)I"⟩, 4), (⟨"ElbowQueue$Reader", "readWaiters", "(LElbowQueue$Told;)V"⟩, 4), (⟨"ElbowQueue$Reader", "readPassers", "(LElbowQueue$Told;)V"⟩, 4), (⟨"ElbowQueue$Reader", "sort", "()I"⟩, 4), (⟨"ElbowQueue$Town", "join", "(I)V"⟩, 11), (⟨"ElbowQueue$Town", "tellOn", "()V"⟩, 11), (⟨"ElbowQueue$Town", "takesOn", "(I)Z"⟩, 11), (⟨"ElbowQueue$Town", "standOn", "()V"⟩, 11), (⟨"ElbowQueue$Town", "bears", "(I)I"⟩, 11), (⟨"ElbowQueue$Town", "hoped", "(II)I"⟩, 11), (⟨"ElbowQueue$Town", "meetPasser", "(Z)V"⟩, 11)]
theorem lw_r1 : ∀ q ∈ lw_privs_1, lw_okq q := List.forall_mem_cons.mpr ⟨lw_p0, List.forall_mem_cons.mpr ⟨lw_p1, List.forall_mem_cons.mpr ⟨lw_p2, List.forall_mem_cons.mpr ⟨lw_p3, List.forall_mem_cons.mpr ⟨lw_p4, List.forall_mem_cons.mpr ⟨lw_p5, List.forall_mem_cons.mpr ⟨lw_p6, List.forall_mem_cons.mpr ⟨lw_p7, List.forall_mem_cons.mpr ⟨lw_p8, List.forall_mem_cons.mpr ⟨lw_p9, List.forall_mem_cons.mpr ⟨lw_p10, List.forall_mem_cons.mpr ⟨lw_p11, List.forall_mem_cons.mpr ⟨lw_p12, List.forall_mem_cons.mpr ⟨lw_p13, List.forall_mem_cons.mpr ⟨lw_p14, List.forall_mem_cons.mpr ⟨lw_p15, fun _ h => absurd h List.not_mem_nil⟩⟩⟩⟩⟩⟩⟩⟩⟩⟩⟩⟩⟩⟩⟩⟩
theorem lw_p16 : lw_okq (⟨"ElbowQueue", "isPerson", "(I)Z"⟩, 14) := ⟨⟨by decide +kernel, by decide +kernel⟩, List.mem_of_getElem? (i := 13) (by decide +kernel), List.mem_of_getElem? (i := 483) (by decide +kernel), List.mem_of_getElem? (i := 484) (by decide +kernel)⟩
theorem lw_p17 : lw_okq (⟨"ElbowQueue$Foretold", "firstMinute", "(IIII)I"⟩, 5) := ⟨⟨by decide +kernel, by decide +kernel⟩, List.mem_of_getElem? (i := 177) (by decide +kernel), List.mem_of_getElem? (i := 564) (by decide +kernel), List.mem_of_getElem? (i := 565) (by decide +kernel)⟩
theorem lw_p18 : lw_okq (⟨"ElbowQueue$Foretold", "shows", "(III)Z"⟩, 5) := ⟨⟨by decide +kernel, by decide +kernel⟩, List.mem_of_getElem? (i := 177) (by decide +kernel), List.mem_of_getElem? (i := 568) (by decide +kernel), List.mem_of_getElem? (i := 569) (by decide +kernel)⟩
theorem lw_p19 : lw_okq (⟨"ElbowQueue$Foretold", "fitting", "(IIII)J"⟩, 5) := ⟨⟨by decide +kernel, by decide +kernel⟩, List.mem_of_getElem? (i := 177) (by decide +kernel), List.mem_of_getElem? (i := 635) (by decide +kernel), List.mem_of_getElem? (i := 636) (by decide +kernel)⟩
theorem lw_p20 : lw_okq (⟨"ElbowQueue$Foretold", "goOn", "(IZ)V"⟩, 5) := ⟨⟨by decide +kernel, by decide +kernel⟩, List.mem_of_getElem? (i := 177) (by decide +kernel), List.mem_of_getElem? (i := 640) (by decide +kernel), List.mem_of_getElem? (i := 641) (by decide +kernel)⟩
theorem lw_p21 : lw_okq (⟨"ElbowQueue$Asks", "asked", "(III)I"⟩, 4) := ⟨⟨by decide +kernel, by decide +kernel⟩, List.mem_of_getElem? (i := 202) (by decide +kernel), List.mem_of_getElem? (i := 700) (by decide +kernel), List.mem_of_getElem? (i := 701) (by decide +kernel)⟩
theorem lw_p22 : lw_okq (⟨"ElbowQueue$Asks", "given", "(III)I"⟩, 4) := ⟨⟨by decide +kernel, by decide +kernel⟩, List.mem_of_getElem? (i := 202) (by decide +kernel), List.mem_of_getElem? (i := 714) (by decide +kernel), List.mem_of_getElem? (i := 715) (by decide +kernel)⟩
theorem lw_p23 : lw_okq (⟨"ElbowQueue$Asks", "leave", "(I)V"⟩, 4) := ⟨⟨by decide +kernel, by decide +kernel⟩, List.mem_of_getElem? (i := 202) (by decide +kernel), List.mem_of_getElem? (i := 718) (by decide +kernel), List.mem_of_getElem? (i := 719) (by decide +kernel)⟩
theorem lw_p24 : lw_okq (⟨"ElbowQueueModel", "found", "(I)I"⟩, 22) := ⟨⟨by decide +kernel, by decide +kernel⟩, List.mem_of_getElem? (i := 748) (by decide +kernel), List.mem_of_getElem? (i := 834) (by decide +kernel), List.mem_of_getElem? (i := 835) (by decide +kernel)⟩
theorem lw_p25 : lw_okq (⟨"ElbowQueueModel", "well", "(I)I"⟩, 22) := ⟨⟨by decide +kernel, by decide +kernel⟩, List.mem_of_getElem? (i := 748) (by decide +kernel), List.mem_of_getElem? (i := 839) (by decide +kernel), List.mem_of_getElem? (i := 840) (by decide +kernel)⟩
theorem lw_p26 : lw_okq (⟨"ElbowQueueModel", "readTown", "()I"⟩, 22) := ⟨⟨by decide +kernel, by decide +kernel⟩, List.mem_of_getElem? (i := 748) (by decide +kernel), List.mem_of_getElem? (i := 865) (by decide +kernel), List.mem_of_getElem? (i := 866) (by decide +kernel)⟩
theorem lw_p27 : lw_okq (⟨"ElbowQueueModel", "sign", "(I)I"⟩, 22) := ⟨⟨by decide +kernel, by decide +kernel⟩, List.mem_of_getElem? (i := 748) (by decide +kernel), List.mem_of_getElem? (i := 869) (by decide +kernel), List.mem_of_getElem? (i := 870) (by decide +kernel)⟩
theorem lw_p28 : lw_okq (⟨"ElbowQueueModel", "byteAt", "(I)I"⟩, 22) := ⟨⟨by decide +kernel, by decide +kernel⟩, List.mem_of_getElem? (i := 748) (by decide +kernel), List.mem_of_getElem? (i := 873) (by decide +kernel), List.mem_of_getElem? (i := 874) (by decide +kernel)⟩
theorem lw_p29 : lw_okq (⟨"ElbowQueueModel", "number", "(I)I"⟩, 22) := ⟨⟨by decide +kernel, by decide +kernel⟩, List.mem_of_getElem? (i := 748) (by decide +kernel), List.mem_of_getElem? (i := 877) (by decide +kernel), List.mem_of_getElem? (i := 878) (by decide +kernel)⟩
theorem lw_p30 : lw_okq (⟨"ElbowQueueModel", "readPasser", "()I"⟩, 22) := ⟨⟨by decide +kernel, by decide +kernel⟩, List.mem_of_getElem? (i := 748) (by decide +kernel), List.mem_of_getElem? (i := 886) (by decide +kernel), List.mem_of_getElem? (i := 887) (by decide +kernel)⟩
theorem lw_p31 : lw_okq (⟨"ElbowQueueModel", "readOne", "(I)I"⟩, 22) := ⟨⟨by decide +kernel, by decide +kernel⟩, List.mem_of_getElem? (i := 748) (by decide +kernel), List.mem_of_getElem? (i := 890) (by decide +kernel), List.mem_of_getElem? (i := 891) (by decide +kernel)⟩
def lw_privs_2 : List (MethodName × Nat) := [(⟨"ElbowQueue", "isPerson", "(I)Z"⟩, 14), (⟨"ElbowQueue$Foretold", "firstMinute", "(IIII)I"⟩, 5), (⟨"ElbowQueue$Foretold", "shows", "(III)Z"⟩, 5), (⟨"ElbowQueue$Foretold", "fitting", "(IIII)J"⟩, 5), (⟨"ElbowQueue$Foretold", "goOn", "(IZ)V"⟩, 5), (⟨"ElbowQueue$Asks", "asked", "(III)I"⟩, 4), (⟨"ElbowQueue$Asks", "given", "(III)I"⟩, 4), (⟨"ElbowQueue$Asks", "leave", "(I)V"⟩, 4), (⟨"ElbowQueueModel", "found", "(I)I"⟩, 22), (⟨"ElbowQueueModel", "well", "(I)I"⟩, 22), (⟨"ElbowQueueModel", "readTown", "()I"⟩, 22), (⟨"ElbowQueueModel", "sign", "(I)I"⟩, 22), (⟨"ElbowQueueModel", "byteAt", "(I)I"⟩, 22), (⟨"ElbowQueueModel", "number", "(I)I"⟩, 22), (⟨"ElbowQueueModel", "readPasser", "()I"⟩, 22), (⟨"ElbowQueueModel", "readOne", "(I)I"⟩, 22)]
theorem lw_r2 : ∀ q ∈ lw_privs_2, lw_okq q := List.forall_mem_cons.mpr ⟨lw_p16, List.forall_mem_cons.mpr ⟨lw_p17, List.forall_mem_cons.mpr ⟨lw_p18, List.forall_mem_cons.mpr ⟨lw_p19, List.forall_mem_cons.mpr ⟨lw_p20, List.forall_mem_cons.mpr ⟨lw_p21, List.forall_mem_cons.mpr ⟨lw_p22, List.forall_mem_cons.mpr ⟨lw_p23, List.forall_mem_cons.mpr ⟨lw_p24, List.forall_mem_cons.mpr ⟨lw_p25, List.forall_mem_cons.mpr ⟨lw_p26, List.forall_mem_cons.mpr ⟨lw_p27, List.forall_mem_cons.mpr ⟨lw_p28, List.forall_mem_cons.mpr ⟨lw_p29, List.forall_mem_cons.mpr ⟨lw_p30, List.forall_mem_cons.mpr ⟨lw_p31, fun _ h => absurd h List.not_mem_nil⟩⟩⟩⟩⟩⟩⟩⟩⟩⟩⟩⟩⟩⟩⟩⟩
theorem lw_p32 : lw_okq (⟨"ElbowQueueModel", "readWaiter", "()I"⟩, 22) := ⟨⟨by decide +kernel, by decide +kernel⟩, List.mem_of_getElem? (i := 748) (by decide +kernel), List.mem_of_getElem? (i := 897) (by decide +kernel), List.mem_of_getElem? (i := 898) (by decide +kernel)⟩
theorem lw_p33 : lw_okq (⟨"ElbowQueueModel", "people", "()I"⟩, 22) := ⟨⟨by decide +kernel, by decide +kernel⟩, List.mem_of_getElem? (i := 748) (by decide +kernel), List.mem_of_getElem? (i := 902) (by decide +kernel), List.mem_of_getElem? (i := 903) (by decide +kernel)⟩
theorem lw_p34 : lw_okq (⟨"ElbowQueueModel", "isTown", "()Z"⟩, 22) := ⟨⟨by decide +kernel, by decide +kernel⟩, List.mem_of_getElem? (i := 748) (by decide +kernel), List.mem_of_getElem? (i := 914) (by decide +kernel), List.mem_of_getElem? (i := 915) (by decide +kernel)⟩
theorem lw_p35 : lw_okq (⟨"ElbowQueueModel", "keepAct", "()V"⟩, 22) := ⟨⟨by decide +kernel, by decide +kernel⟩, List.mem_of_getElem? (i := 748) (by decide +kernel), List.mem_of_getElem? (i := 920) (by decide +kernel), List.mem_of_getElem? (i := 921) (by decide +kernel)⟩
theorem lw_p36 : lw_okq (⟨"ElbowQueueModel", "goMinute", "(Z)V"⟩, 22) := ⟨⟨by decide +kernel, by decide +kernel⟩, List.mem_of_getElem? (i := 748) (by decide +kernel), List.mem_of_getElem? (i := 924) (by decide +kernel), List.mem_of_getElem? (i := 925) (by decide +kernel)⟩
theorem lw_p37 : lw_okq (⟨"ElbowQueueModel", "tellOn", "()V"⟩, 22) := ⟨⟨by decide +kernel, by decide +kernel⟩, List.mem_of_getElem? (i := 748) (by decide +kernel), List.mem_of_getElem? (i := 928) (by decide +kernel), List.mem_of_getElem? (i := 929) (by decide +kernel)⟩
theorem lw_p38 : lw_okq (⟨"ElbowQueueModel", "believes", "(I)I"⟩, 22) := ⟨⟨by decide +kernel, by decide +kernel⟩, List.mem_of_getElem? (i := 748) (by decide +kernel), List.mem_of_getElem? (i := 932) (by decide +kernel), List.mem_of_getElem? (i := 933) (by decide +kernel)⟩
theorem lw_p39 : lw_okq (⟨"ElbowQueueModel", "takesOn", "(I)Z"⟩, 22) := ⟨⟨by decide +kernel, by decide +kernel⟩, List.mem_of_getElem? (i := 748) (by decide +kernel), List.mem_of_getElem? (i := 936) (by decide +kernel), List.mem_of_getElem? (i := 937) (by decide +kernel)⟩
theorem lw_p40 : lw_okq (⟨"ElbowQueueModel", "outOf", "(I)V"⟩, 22) := ⟨⟨by decide +kernel, by decide +kernel⟩, List.mem_of_getElem? (i := 748) (by decide +kernel), List.mem_of_getElem? (i := 940) (by decide +kernel), List.mem_of_getElem? (i := 941) (by decide +kernel)⟩
theorem lw_p41 : lw_okq (⟨"ElbowQueueModel", "leave", "()V"⟩, 22) := ⟨⟨by decide +kernel, by decide +kernel⟩, List.mem_of_getElem? (i := 748) (by decide +kernel), List.mem_of_getElem? (i := 944) (by decide +kernel), List.mem_of_getElem? (i := 945) (by decide +kernel)⟩
theorem lw_p42 : lw_okq (⟨"ElbowQueueModel", "bears", "(I)I"⟩, 22) := ⟨⟨by decide +kernel, by decide +kernel⟩, List.mem_of_getElem? (i := 748) (by decide +kernel), List.mem_of_getElem? (i := 948) (by decide +kernel), List.mem_of_getElem? (i := 949) (by decide +kernel)⟩
theorem lw_p43 : lw_okq (⟨"ElbowQueueModel", "join", "(I)V"⟩, 22) := ⟨⟨by decide +kernel, by decide +kernel⟩, List.mem_of_getElem? (i := 748) (by decide +kernel), List.mem_of_getElem? (i := 952) (by decide +kernel), List.mem_of_getElem? (i := 953) (by decide +kernel)⟩
theorem lw_p44 : lw_okq (⟨"ElbowQueueModel", "isPerson", "(I)Z"⟩, 22) := ⟨⟨by decide +kernel, by decide +kernel⟩, List.mem_of_getElem? (i := 748) (by decide +kernel), List.mem_of_getElem? (i := 960) (by decide +kernel), List.mem_of_getElem? (i := 961) (by decide +kernel)⟩
theorem lw_p45 : lw_okq (⟨"ElbowQueueModel", "isInQueue", "(I)Z"⟩, 22) := ⟨⟨by decide +kernel, by decide +kernel⟩, List.mem_of_getElem? (i := 748) (by decide +kernel), List.mem_of_getElem? (i := 965) (by decide +kernel), List.mem_of_getElem? (i := 966) (by decide +kernel)⟩
theorem lw_p46 : lw_okq (⟨"ElbowQueueModel", "tellOne", "(II)V"⟩, 22) := ⟨⟨by decide +kernel, by decide +kernel⟩, List.mem_of_getElem? (i := 748) (by decide +kernel), List.mem_of_getElem? (i := 969) (by decide +kernel), List.mem_of_getElem? (i := 970) (by decide +kernel)⟩
theorem lw_p47 : lw_okq (⟨"ElbowQueueModel", "placeOf", "(I)I"⟩, 22) := ⟨⟨by decide +kernel, by decide +kernel⟩, List.mem_of_getElem? (i := 748) (by decide +kernel), List.mem_of_getElem? (i := 977) (by decide +kernel), List.mem_of_getElem? (i := 978) (by decide +kernel)⟩
def lw_privs_3 : List (MethodName × Nat) := [(⟨"ElbowQueueModel", "readWaiter", "()I"⟩, 22), (⟨"ElbowQueueModel", "people", "()I"⟩, 22), (⟨"ElbowQueueModel", "isTown", "()Z"⟩, 22), (⟨"ElbowQueueModel", "keepAct", "()V"⟩, 22), (⟨"ElbowQueueModel", "goMinute", "(Z)V"⟩, 22), (⟨"ElbowQueueModel", "tellOn", "()V"⟩, 22), (⟨"ElbowQueueModel", "believes", "(I)I"⟩, 22), (⟨"ElbowQueueModel", "takesOn", "(I)Z"⟩, 22), (⟨"ElbowQueueModel", "outOf", "(I)V"⟩, 22), (⟨"ElbowQueueModel", "leave", "()V"⟩, 22), (⟨"ElbowQueueModel", "bears", "(I)I"⟩, 22), (⟨"ElbowQueueModel", "join", "(I)V"⟩, 22), (⟨"ElbowQueueModel", "isPerson", "(I)Z"⟩, 22), (⟨"ElbowQueueModel", "isInQueue", "(I)Z"⟩, 22), (⟨"ElbowQueueModel", "tellOne", "(II)V"⟩, 22), (⟨"ElbowQueueModel", "placeOf", "(I)I"⟩, 22)]
theorem lw_r3 : ∀ q ∈ lw_privs_3, lw_okq q := List.forall_mem_cons.mpr ⟨lw_p32, List.forall_mem_cons.mpr ⟨lw_p33, List.forall_mem_cons.mpr ⟨lw_p34, List.forall_mem_cons.mpr ⟨lw_p35, List.forall_mem_cons.mpr ⟨lw_p36, List.forall_mem_cons.mpr ⟨lw_p37, List.forall_mem_cons.mpr ⟨lw_p38, List.forall_mem_cons.mpr ⟨lw_p39, List.forall_mem_cons.mpr ⟨lw_p40, List.forall_mem_cons.mpr ⟨lw_p41, List.forall_mem_cons.mpr ⟨lw_p42, List.forall_mem_cons.mpr ⟨lw_p43, List.forall_mem_cons.mpr ⟨lw_p44, List.forall_mem_cons.mpr ⟨lw_p45, List.forall_mem_cons.mpr ⟨lw_p46, List.forall_mem_cons.mpr ⟨lw_p47, fun _ h => absurd h List.not_mem_nil⟩⟩⟩⟩⟩⟩⟩⟩⟩⟩⟩⟩⟩⟩⟩⟩
theorem lw_p48 : lw_okq (⟨"ElbowQueueModel", "start", "()V"⟩, 22) := ⟨⟨by decide +kernel, by decide +kernel⟩, List.mem_of_getElem? (i := 748) (by decide +kernel), List.mem_of_getElem? (i := 1005) (by decide +kernel), List.mem_of_getElem? (i := 1006) (by decide +kernel)⟩
theorem lw_p49 : lw_okq (⟨"ElbowQueueModel", "goMinutes", "(I)V"⟩, 22) := ⟨⟨by decide +kernel, by decide +kernel⟩, List.mem_of_getElem? (i := 748) (by decide +kernel), List.mem_of_getElem? (i := 1009) (by decide +kernel), List.mem_of_getElem? (i := 1010) (by decide +kernel)⟩
theorem lw_p50 : lw_okq (⟨"ElbowQueueModel", "howMany", "(I)I"⟩, 22) := ⟨⟨by decide +kernel, by decide +kernel⟩, List.mem_of_getElem? (i := 748) (by decide +kernel), List.mem_of_getElem? (i := 1013) (by decide +kernel), List.mem_of_getElem? (i := 1014) (by decide +kernel)⟩
theorem lw_p51 : lw_okq (⟨"ElbowQueueModel", "back", "()V"⟩, 22) := ⟨⟨by decide +kernel, by decide +kernel⟩, List.mem_of_getElem? (i := 748) (by decide +kernel), List.mem_of_getElem? (i := 1017) (by decide +kernel), List.mem_of_getElem? (i := 1018) (by decide +kernel)⟩
theorem lw_p52 : lw_okq (⟨"ElbowQueueModel", "goLives", "()I"⟩, 22) := ⟨⟨by decide +kernel, by decide +kernel⟩, List.mem_of_getElem? (i := 748) (by decide +kernel), List.mem_of_getElem? (i := 1029) (by decide +kernel), List.mem_of_getElem? (i := 1030) (by decide +kernel)⟩
theorem lw_p53 : lw_okq (⟨"ElbowQueueModel", "allBelieve", "(I)Z"⟩, 22) := ⟨⟨by decide +kernel, by decide +kernel⟩, List.mem_of_getElem? (i := 748) (by decide +kernel), List.mem_of_getElem? (i := 1045) (by decide +kernel), List.mem_of_getElem? (i := 1046) (by decide +kernel)⟩
theorem lw_p54 : lw_okq (⟨"ElbowQueueModel", "joinElbows", "(I)V"⟩, 22) := ⟨⟨by decide +kernel, by decide +kernel⟩, List.mem_of_getElem? (i := 748) (by decide +kernel), List.mem_of_getElem? (i := 1054) (by decide +kernel), List.mem_of_getElem? (i := 1055) (by decide +kernel)⟩
theorem lw_p55 : lw_okq (⟨"ElbowQueueModel", "passersIn", "()I"⟩, 22) := ⟨⟨by decide +kernel, by decide +kernel⟩, List.mem_of_getElem? (i := 748) (by decide +kernel), List.mem_of_getElem? (i := 1058) (by decide +kernel), List.mem_of_getElem? (i := 1059) (by decide +kernel)⟩
theorem lw_p56 : lw_okq (⟨"ElbowQueueModel", "isSeen", "(III)Z"⟩, 22) := ⟨⟨by decide +kernel, by decide +kernel⟩, List.mem_of_getElem? (i := 748) (by decide +kernel), List.mem_of_getElem? (i := 1085) (by decide +kernel), List.mem_of_getElem? (i := 1086) (by decide +kernel)⟩
theorem lw_p57 : lw_okq (⟨"ElbowQueueModel", "size", "(I)I"⟩, 22) := ⟨⟨by decide +kernel, by decide +kernel⟩, List.mem_of_getElem? (i := 748) (by decide +kernel), List.mem_of_getElem? (i := 1112) (by decide +kernel), List.mem_of_getElem? (i := 1113) (by decide +kernel)⟩
theorem lw_p58 : lw_okq (⟨"ElbowQueueModel", "isFirstOne", "(I)Z"⟩, 22) := ⟨⟨by decide +kernel, by decide +kernel⟩, List.mem_of_getElem? (i := 748) (by decide +kernel), List.mem_of_getElem? (i := 1116) (by decide +kernel), List.mem_of_getElem? (i := 1117) (by decide +kernel)⟩
theorem lw_p59 : lw_okq (⟨"ElbowQueueModel", "sizeOfFirst", "(I)I"⟩, 22) := ⟨⟨by decide +kernel, by decide +kernel⟩, List.mem_of_getElem? (i := 748) (by decide +kernel), List.mem_of_getElem? (i := 1120) (by decide +kernel), List.mem_of_getElem? (i := 1121) (by decide +kernel)⟩
theorem lw_p60 : lw_okq (⟨"ElbowQueueModel", "note", "(I)V"⟩, 22) := ⟨⟨by decide +kernel, by decide +kernel⟩, List.mem_of_getElem? (i := 748) (by decide +kernel), List.mem_of_getElem? (i := 1124) (by decide +kernel), List.mem_of_getElem? (i := 1125) (by decide +kernel)⟩
theorem lw_p61 : lw_okq (⟨"ElbowQueueModel", "firstSize", "(I)I"⟩, 22) := ⟨⟨by decide +kernel, by decide +kernel⟩, List.mem_of_getElem? (i := 748) (by decide +kernel), List.mem_of_getElem? (i := 1128) (by decide +kernel), List.mem_of_getElem? (i := 1129) (by decide +kernel)⟩
theorem lw_p62 : lw_okq (⟨"ElbowQueueModel", "plainSize", "(I)I"⟩, 22) := ⟨⟨by decide +kernel, by decide +kernel⟩, List.mem_of_getElem? (i := 748) (by decide +kernel), List.mem_of_getElem? (i := 1132) (by decide +kernel), List.mem_of_getElem? (i := 1133) (by decide +kernel)⟩
theorem lw_p63 : lw_okq (⟨"ElbowQueueModel", "believerSize", "(I)I"⟩, 22) := ⟨⟨by decide +kernel, by decide +kernel⟩, List.mem_of_getElem? (i := 748) (by decide +kernel), List.mem_of_getElem? (i := 1136) (by decide +kernel), List.mem_of_getElem? (i := 1137) (by decide +kernel)⟩
def lw_privs_4 : List (MethodName × Nat) := [(⟨"ElbowQueueModel", "start", "()V"⟩, 22), (⟨"ElbowQueueModel", "goMinutes", "(I)V"⟩, 22), (⟨"ElbowQueueModel", "howMany", "(I)I"⟩, 22), (⟨"ElbowQueueModel", "back", "()V"⟩, 22), (⟨"ElbowQueueModel", "goLives", "()I"⟩, 22), (⟨"ElbowQueueModel", "allBelieve", "(I)Z"⟩, 22), (⟨"ElbowQueueModel", "joinElbows", "(I)V"⟩, 22), (⟨"ElbowQueueModel", "passersIn", "()I"⟩, 22), (⟨"ElbowQueueModel", "isSeen", "(III)Z"⟩, 22), (⟨"ElbowQueueModel", "size", "(I)I"⟩, 22), (⟨"ElbowQueueModel", "isFirstOne", "(I)Z"⟩, 22), (⟨"ElbowQueueModel", "sizeOfFirst", "(I)I"⟩, 22), (⟨"ElbowQueueModel", "note", "(I)V"⟩, 22), (⟨"ElbowQueueModel", "firstSize", "(I)I"⟩, 22), (⟨"ElbowQueueModel", "plainSize", "(I)I"⟩, 22), (⟨"ElbowQueueModel", "believerSize", "(I)I"⟩, 22)]
theorem lw_r4 : ∀ q ∈ lw_privs_4, lw_okq q := List.forall_mem_cons.mpr ⟨lw_p48, List.forall_mem_cons.mpr ⟨lw_p49, List.forall_mem_cons.mpr ⟨lw_p50, List.forall_mem_cons.mpr ⟨lw_p51, List.forall_mem_cons.mpr ⟨lw_p52, List.forall_mem_cons.mpr ⟨lw_p53, List.forall_mem_cons.mpr ⟨lw_p54, List.forall_mem_cons.mpr ⟨lw_p55, List.forall_mem_cons.mpr ⟨lw_p56, List.forall_mem_cons.mpr ⟨lw_p57, List.forall_mem_cons.mpr ⟨lw_p58, List.forall_mem_cons.mpr ⟨lw_p59, List.forall_mem_cons.mpr ⟨lw_p60, List.forall_mem_cons.mpr ⟨lw_p61, List.forall_mem_cons.mpr ⟨lw_p62, List.forall_mem_cons.mpr ⟨lw_p63, fun _ h => absurd h List.not_mem_nil⟩⟩⟩⟩⟩⟩⟩⟩⟩⟩⟩⟩⟩⟩⟩⟩
theorem lw_p64 : lw_okq (⟨"ElbowQueueModel", "mark", "(I)I"⟩, 22) := ⟨⟨by decide +kernel, by decide +kernel⟩, List.mem_of_getElem? (i := 748) (by decide +kernel), List.mem_of_getElem? (i := 1140) (by decide +kernel), List.mem_of_getElem? (i := 1141) (by decide +kernel)⟩
theorem lw_p65 : lw_okq (⟨"ElbowQueueModel", "believerMark", "(I)I"⟩, 22) := ⟨⟨by decide +kernel, by decide +kernel⟩, List.mem_of_getElem? (i := 748) (by decide +kernel), List.mem_of_getElem? (i := 1144) (by decide +kernel), List.mem_of_getElem? (i := 1145) (by decide +kernel)⟩
theorem lw_p66 : lw_okq (⟨"ElbowQueueModel", "plainMark", "(I)I"⟩, 22) := ⟨⟨by decide +kernel, by decide +kernel⟩, List.mem_of_getElem? (i := 748) (by decide +kernel), List.mem_of_getElem? (i := 1148) (by decide +kernel), List.mem_of_getElem? (i := 1149) (by decide +kernel)⟩
theorem lw_p67 : lw_okq (⟨"ElbowQueueModel", "rows", "()I"⟩, 22) := ⟨⟨by decide +kernel, by decide +kernel⟩, List.mem_of_getElem? (i := 748) (by decide +kernel), List.mem_of_getElem? (i := 1160) (by decide +kernel), List.mem_of_getElem? (i := 1161) (by decide +kernel)⟩
def lw_privs_5 : List (MethodName × Nat) := [(⟨"ElbowQueueModel", "mark", "(I)I"⟩, 22), (⟨"ElbowQueueModel", "believerMark", "(I)I"⟩, 22), (⟨"ElbowQueueModel", "plainMark", "(I)I"⟩, 22), (⟨"ElbowQueueModel", "rows", "()I"⟩, 22)]
theorem lw_r5 : ∀ q ∈ lw_privs_5, lw_okq q := List.forall_mem_cons.mpr ⟨lw_p64, List.forall_mem_cons.mpr ⟨lw_p65, List.forall_mem_cons.mpr ⟨lw_p66, List.forall_mem_cons.mpr ⟨lw_p67, fun _ h => absurd h List.not_mem_nil⟩⟩⟩⟩
def lw_privs : List (MethodName × Nat) := lw_privs_1 ++ (lw_privs_2 ++ (lw_privs_3 ++ (lw_privs_4 ++ (lw_privs_5))))
def lw_tbl : List Cond := k2_sels lw_privs ++ tables_1
theorem lw_privs_ok : ∀ q ∈ lw_privs, lw_okq q := by
  show ∀ q ∈ lw_privs_1 ++ (lw_privs_2 ++ (lw_privs_3 ++ (lw_privs_4 ++ (lw_privs_5)))), lw_okq q
  exact List.forall_mem_append.mpr ⟨lw_r1, List.forall_mem_append.mpr ⟨lw_r2, List.forall_mem_append.mpr ⟨lw_r3, List.forall_mem_append.mpr ⟨lw_r4, lw_r5⟩⟩⟩⟩
end
section
def RX0 : String := "ElbowQueue$Acts"
def TX0 : u_T := fun k => match k with
  | 0 => ("ElbowQueue$Acts", "ring", "[LElbowQueue$Town;", true)
  | 1 => ("ElbowQueue$Acts", "end", "I", false)
  | _ => ("ElbowQueue$Acts", "kept", "I", false)
def tyX0 : Nat → FieldType := fun k => match k with
  | 0 => .array (.object "ElbowQueue$Town")
  | 1 => .int
  | _ => .int
abbrev wsX00 : List Cond := u_ws RX0 TX0 3
theorem nmX0 : ∀ a, a < 3 → ∀ b, b < 3 → a ≠ b → (TX0 a).2.1 ≠ (TX0 b).2.1 := by decide +kernel
theorem tyX0_ok : ∀ k, k < 3 → parseFieldDescriptor (TX0 k).2.2.1 = some (tyX0 k) := by decide +kernel
abbrev cX0_init : ByteArray := prog_2_method_1_code
def yX0_init : MethodName := ⟨RX0, "<init>", "(LElbowQueue$Told;)V"⟩
abbrev cX0_kept : ByteArray := prog_2_method_2_code
def yX0_kept : MethodName := ⟨RX0, "kept", "()I"⟩
abbrev cX0_forget : ByteArray := prog_2_method_3_code
def yX0_forget : MethodName := ⟨RX0, "forget", "()V"⟩
abbrev cX0_keep : ByteArray := prog_2_method_4_code
def yX0_keep : MethodName := ⟨RX0, "keep", "(LElbowQueue$Town;)V"⟩
abbrev cX0_giveBack : ByteArray := prog_2_method_5_code
def yX0_giveBack : MethodName := ⟨RX0, "giveBack", "(LElbowQueue$Town;)V"⟩
def RX1 : String := "ElbowQueue$Asks"
def TX1 : u_T := fun k => match k with
  | 0 => ("ElbowQueue$Asks", "told", "LElbowQueue$Told;", true)
  | 1 => ("ElbowQueue$Asks", "town", "LElbowQueue$Town;", true)
  | 2 => ("ElbowQueue$Asks", "traces", "[I", true)
  | _ => ("ElbowQueue$Asks", "length", "I", false)
def tyX1 : Nat → FieldType := fun k => match k with
  | 0 => .object "ElbowQueue$Told"
  | 1 => .object "ElbowQueue$Town"
  | 2 => .array .int
  | _ => .int
abbrev wsX10 : List Cond := u_ws RX1 TX1 4
theorem nmX1 : ∀ a, a < 4 → ∀ b, b < 4 → a ≠ b → (TX1 a).2.1 ≠ (TX1 b).2.1 := by decide +kernel
theorem tyX1_ok : ∀ k, k < 4 → parseFieldDescriptor (TX1 k).2.2.1 = some (tyX1 k) := by decide +kernel
abbrev cX1_init : ByteArray := prog_3_method_1_code
def yX1_init : MethodName := ⟨RX1, "<init>", "(LElbowQueue$Told;LElbowQueue$Town;)V"⟩
abbrev cX1_isA : ByteArray := prog_3_method_2_code
def yX1_isA : MethodName := ⟨RX1, "isA", "(II)Z"⟩
abbrev cX1_traced : ByteArray := prog_3_method_3_code
def yX1_traced : MethodName := ⟨RX1, "traced", "(I)I"⟩
abbrev cX1_begin : ByteArray := prog_3_method_4_code
def yX1_begin : MethodName := ⟨RX1, "begin", "(II)I"⟩
abbrev cX1_asked : ByteArray := prog_3_method_5_code
def yX1_asked : MethodName := ⟨RX1, "asked", "(III)I"⟩
abbrev cX1_bodyOf : ByteArray := prog_3_method_6_code
def yX1_bodyOf : MethodName := ⟨RX1, "bodyOf", "(II)I"⟩
abbrev cX1_given : ByteArray := prog_3_method_7_code
def yX1_given : MethodName := ⟨RX1, "given", "(III)I"⟩
abbrev cX1_leave : ByteArray := prog_3_method_8_code
def yX1_leave : MethodName := ⟨RX1, "leave", "(I)V"⟩
def RX2 : String := "ElbowQueue$Foretold"
def TX2 : u_T := fun k => match k with
  | 0 => ("ElbowQueue$Foretold", "wanted", "[I", true)
  | 1 => ("ElbowQueue$Foretold", "now", "LElbowQueue$Town;", true)
  | 2 => ("ElbowQueue$Foretold", "then", "LElbowQueue$Town;", true)
  | 3 => ("ElbowQueue$Foretold", "till", "LElbowQueue$Town;", true)
  | _ => ("ElbowQueue$Foretold", "path", "[LElbowQueue$Town;", true)
def tyX2 : Nat → FieldType := fun k => match k with
  | 0 => .array .int
  | 1 => .object "ElbowQueue$Town"
  | 2 => .object "ElbowQueue$Town"
  | 3 => .object "ElbowQueue$Town"
  | _ => .array (.object "ElbowQueue$Town")
abbrev wsX20 : List Cond := u_ws RX2 TX2 5
theorem nmX2 : ∀ a, a < 5 → ∀ b, b < 5 → a ≠ b → (TX2 a).2.1 ≠ (TX2 b).2.1 := by decide +kernel
theorem tyX2_ok : ∀ k, k < 5 → parseFieldDescriptor (TX2 k).2.2.1 = some (tyX2 k) := by decide +kernel
abbrev cX2_init : ByteArray := prog_4_method_1_code
def yX2_init : MethodName := ⟨RX2, "<init>", "(LElbowQueue$Told;LElbowQueue$Town;)V"⟩
abbrev cX2_letGoBy : ByteArray := prog_4_method_2_code
def yX2_letGoBy : MethodName := ⟨RX2, "letGoBy", "(LElbowQueue$Town;I)V"⟩
abbrev cX2_behind : ByteArray := prog_4_method_3_code
def yX2_behind : MethodName := ⟨RX2, "behind", "(I)LElbowQueue$Town;"⟩
abbrev cX2_firstMinute : ByteArray := prog_4_method_4_code
def yX2_firstMinute : MethodName := ⟨RX2, "firstMinute", "(IIII)I"⟩
abbrev cX2_shows : ByteArray := prog_4_method_5_code
def yX2_shows : MethodName := ⟨RX2, "shows", "(III)Z"⟩
abbrev cX2_life : ByteArray := prog_4_method_6_code
def yX2_life : MethodName := ⟨RX2, "life", "()I"⟩
abbrev cX2_whenIs : ByteArray := prog_4_method_7_code
def yX2_whenIs : MethodName := ⟨RX2, "whenIs", "(II)I"⟩
abbrev cX2_whenAllBelieve : ByteArray := prog_4_method_8_code
def yX2_whenAllBelieve : MethodName := ⟨RX2, "whenAllBelieve", "(I)I"⟩
abbrev cX2_whenAreJust : ByteArray := prog_4_method_9_code
def yX2_whenAreJust : MethodName := ⟨RX2, "whenAreJust", "(I)I"⟩
abbrev cX2_bestWord : ByteArray := prog_4_method_10_code
def yX2_bestWord : MethodName := ⟨RX2, "bestWord", "(IZ)I"⟩
abbrev cX2_fewestElbows : ByteArray := prog_4_method_11_code
def yX2_fewestElbows : MethodName := ⟨RX2, "fewestElbows", "(I)I"⟩
abbrev cX2_odds : ByteArray := prog_4_method_12_code
def yX2_odds : MethodName := ⟨RX2, "odds", "(IIIZ)I"⟩
abbrev cX2_fitting : ByteArray := prog_4_method_13_code
def yX2_fitting : MethodName := ⟨RX2, "fitting", "(IIII)J"⟩
abbrev cX2_goOn : ByteArray := prog_4_method_14_code
def yX2_goOn : MethodName := ⟨RX2, "goOn", "(IZ)V"⟩
abbrev cX2_greatestDivisor : ByteArray := prog_4_method_15_code
def yX2_greatestDivisor : MethodName := ⟨RX2, "greatestDivisor", "(JJ)J"⟩
abbrev cX2_bestOpening : ByteArray := prog_4_method_16_code
def yX2_bestOpening : MethodName := ⟨RX2, "bestOpening", "(IZ)I"⟩
def RX3 : String := "ElbowQueue$Reader"
def TX3 : u_T := fun k => match k with
  | 0 => ("ElbowQueue$Reader", "tape", "[I", true)
  | 1 => ("ElbowQueue$Reader", "length", "I", false)
  | 2 => ("ElbowQueue$Reader", "at", "I", false)
  | _ => ("ElbowQueue$Reader", "faulty", "I", false)
def tyX3 : Nat → FieldType := fun k => match k with
  | 0 => .array .int
  | 1 => .int
  | 2 => .int
  | _ => .int
abbrev wsX30 : List Cond := u_ws RX3 TX3 4
theorem nmX3 : ∀ a, a < 4 → ∀ b, b < 4 → a ≠ b → (TX3 a).2.1 ≠ (TX3 b).2.1 := by decide +kernel
theorem tyX3_ok : ∀ k, k < 4 → parseFieldDescriptor (TX3 k).2.2.1 = some (tyX3 k) := by decide +kernel
abbrev cX3_init : ByteArray := prog_5_method_1_code
def yX3_init : MethodName := ⟨RX3, "<init>", "()V"⟩
abbrev cX3_isFull : ByteArray := prog_5_method_2_code
def yX3_isFull : MethodName := ⟨RX3, "isFull", "()Z"⟩
abbrev cX3_take : ByteArray := prog_5_method_3_code
def yX3_take : MethodName := ⟨RX3, "take", "(I)I"⟩
abbrev cX3_length : ByteArray := prog_5_method_4_code
def yX3_length : MethodName := ⟨RX3, "length", "()I"⟩
abbrev cX3_at : ByteArray := prog_5_method_5_code
def yX3_at : MethodName := ⟨RX3, "at", "()I"⟩
abbrev cX3_read : ByteArray := prog_5_method_6_code
def yX3_read : MethodName := ⟨RX3, "read", "(LElbowQueue$Told;)I"⟩
abbrev cX3_readHead : ByteArray := prog_5_method_7_code
def yX3_readHead : MethodName := ⟨RX3, "readHead", "(LElbowQueue$Told;)V"⟩
abbrev cX3_readWaiters : ByteArray := prog_5_method_8_code
def yX3_readWaiters : MethodName := ⟨RX3, "readWaiters", "(LElbowQueue$Told;)V"⟩
abbrev cX3_readPassers : ByteArray := prog_5_method_9_code
def yX3_readPassers : MethodName := ⟨RX3, "readPassers", "(LElbowQueue$Told;)V"⟩
abbrev cX3_byteAt : ByteArray := prog_5_method_10_code
def yX3_byteAt : MethodName := ⟨RX3, "byteAt", "(I)I"⟩
abbrev cX3_sign : ByteArray := prog_5_method_11_code
def yX3_sign : MethodName := ⟨RX3, "sign", "(I)V"⟩
abbrev cX3_sort : ByteArray := prog_5_method_12_code
def yX3_sort : MethodName := ⟨RX3, "sort", "()I"⟩
abbrev cX3_number : ByteArray := prog_5_method_13_code
def yX3_number : MethodName := ⟨RX3, "number", "(I)I"⟩
abbrev cX3_isFigure : ByteArray := prog_5_method_14_code
def yX3_isFigure : MethodName := ⟨RX3, "isFigure", "(I)Z"⟩
abbrev cX3_kindOf : ByteArray := prog_5_method_15_code
def yX3_kindOf : MethodName := ⟨RX3, "kindOf", "(I)I"⟩
def RX4 : String := "ElbowQueue$Rows"
def TX4 : u_T := fun k => match k with
  | 0 => ("ElbowQueue$Rows", "items", "[[I", true)
  | 1 => ("ElbowQueue$Rows", "lanes", "[I", true)
  | _ => ("ElbowQueue$Rows", "sizes", "[I", true)
def tyX4 : Nat → FieldType := fun k => match k with
  | 0 => .array (.array .int)
  | 1 => .array .int
  | _ => .array .int
abbrev wsX40 : List Cond := u_ws RX4 TX4 3
theorem nmX4 : ∀ a, a < 3 → ∀ b, b < 3 → a ≠ b → (TX4 a).2.1 ≠ (TX4 b).2.1 := by decide +kernel
theorem tyX4_ok : ∀ k, k < 3 → parseFieldDescriptor (TX4 k).2.2.1 = some (tyX4 k) := by decide +kernel
abbrev cX4_init : ByteArray := prog_6_method_1_code
def yX4_init : MethodName := ⟨RX4, "<init>", "()V"⟩
abbrev cX4_isNumber : ByteArray := prog_6_method_2_code
def yX4_isNumber : MethodName := ⟨RX4, "isNumber", "(I)Z"⟩
abbrev cX4_isLane : ByteArray := prog_6_method_3_code
def yX4_isLane : MethodName := ⟨RX4, "isLane", "(I)Z"⟩
abbrev cX4_isMissing : ByteArray := prog_6_method_4_code
def yX4_isMissing : MethodName := ⟨RX4, "isMissing", "(I)Z"⟩
abbrev cX4_laneOf : ByteArray := prog_6_method_5_code
def yX4_laneOf : MethodName := ⟨RX4, "laneOf", "(I)I"⟩
abbrev cX4_item : ByteArray := prog_6_method_6_code
def yX4_item : MethodName := ⟨RX4, "item", "(II)I"⟩
abbrev cX4_spans : ByteArray := prog_6_method_7_code
def yX4_spans : MethodName := ⟨RX4, "spans", "(III)Z"⟩
abbrev cX4_lay : ByteArray := prog_6_method_8_code
def yX4_lay : MethodName := ⟨RX4, "lay", "(III)V"⟩
abbrev cX4_put : ByteArray := prog_6_method_9_code
def yX4_put : MethodName := ⟨RX4, "put", "(III)I"⟩
abbrev cX4_bring : ByteArray := prog_6_method_10_code
def yX4_bring : MethodName := ⟨RX4, "bring", "(IIIII)V"⟩
abbrev cX4_takeAway : ByteArray := prog_6_method_11_code
def yX4_takeAway : MethodName := ⟨RX4, "takeAway", "(I)I"⟩
abbrev cX4_present : ByteArray := prog_6_method_12_code
def yX4_present : MethodName := ⟨RX4, "present", "()I"⟩
def RX5 : String := "ElbowQueue$Told"
def TX5 : u_T := fun k => match k with
  | 0 => ("ElbowQueue$Told", "kinds", "[I", true)
  | 1 => ("ElbowQueue$Told", "patience", "[I", true)
  | 2 => ("ElbowQueue$Told", "belief", "[I", true)
  | 3 => ("ElbowQueue$Told", "need", "[I", true)
  | 4 => ("ElbowQueue$Told", "cause", "I", false)
  | 5 => ("ElbowQueue$Told", "serves", "I", false)
  | 6 => ("ElbowQueue$Told", "waiters", "I", false)
  | _ => ("ElbowQueue$Told", "people", "I", false)
def tyX5 : Nat → FieldType := fun k => match k with
  | 0 => .array .int
  | 1 => .array .int
  | 2 => .array .int
  | 3 => .array .int
  | 4 => .int
  | 5 => .int
  | 6 => .int
  | _ => .int
abbrev wsX50 : List Cond := u_ws RX5 TX5 8
theorem nmX5 : ∀ a, a < 8 → ∀ b, b < 8 → a ≠ b → (TX5 a).2.1 ≠ (TX5 b).2.1 := by decide +kernel
theorem tyX5_ok : ∀ k, k < 8 → parseFieldDescriptor (TX5 k).2.2.1 = some (tyX5 k) := by decide +kernel
abbrev cX5_init : ByteArray := prog_7_method_1_code
def yX5_init : MethodName := ⟨RX5, "<init>", "()V"⟩
abbrev cX5_clear : ByteArray := prog_7_method_2_code
def yX5_clear : MethodName := ⟨RX5, "clear", "()V"⟩
abbrev cX5_add : ByteArray := prog_7_method_3_code
def yX5_add : MethodName := ⟨RX5, "add", "(IIII)V"⟩
abbrev cX5_become : ByteArray := prog_7_method_4_code
def yX5_become : MethodName := ⟨RX5, "become", "(LElbowQueue$Told;)V"⟩
def RX6 : String := "ElbowQueue$Town"
def TX6 : u_T := fun k => match k with
  | 0 => ("ElbowQueue$Town", "told", "LElbowQueue$Told;", true)
  | 1 => ("ElbowQueue$Town", "queue", "[I", true)
  | 2 => ("ElbowQueue$Town", "belief", "[I", true)
  | 3 => ("ElbowQueue$Town", "where", "[I", true)
  | 4 => ("ElbowQueue$Town", "stood", "[I", true)
  | 5 => ("ElbowQueue$Town", "origin", "[I", true)
  | 6 => ("ElbowQueue$Town", "minute", "I", false)
  | 7 => ("ElbowQueue$Town", "cause", "I", false)
  | 8 => ("ElbowQueue$Town", "serves", "I", false)
  | 9 => ("ElbowQueue$Town", "size", "I", false)
  | _ => ("ElbowQueue$Town", "next", "I", false)
def tyX6 : Nat → FieldType := fun k => match k with
  | 0 => .object "ElbowQueue$Told"
  | 1 => .array .int
  | 2 => .array .int
  | 3 => .array .int
  | 4 => .array .int
  | 5 => .array .int
  | 6 => .int
  | 7 => .int
  | 8 => .int
  | 9 => .int
  | _ => .int
abbrev wsX60 : List Cond := u_ws RX6 TX6 11
theorem nmX6 : ∀ a, a < 11 → ∀ b, b < 11 → a ≠ b → (TX6 a).2.1 ≠ (TX6 b).2.1 := by decide +kernel
theorem tyX6_ok : ∀ k, k < 11 → parseFieldDescriptor (TX6 k).2.2.1 = some (tyX6 k) := by decide +kernel
abbrev cX6_init : ByteArray := prog_8_method_1_code
def yX6_init : MethodName := ⟨RX6, "<init>", "(LElbowQueue$Told;I)V"⟩
abbrev cX6_begin : ByteArray := prog_8_method_2_code
def yX6_begin : MethodName := ⟨RX6, "begin", "()V"⟩
abbrev cX6_become : ByteArray := prog_8_method_3_code
def yX6_become : MethodName := ⟨RX6, "become", "(LElbowQueue$Town;)V"⟩
abbrev cX6_believes : ByteArray := prog_8_method_4_code
def yX6_believes : MethodName := ⟨RX6, "believes", "(I)I"⟩
abbrev cX6_hears : ByteArray := prog_8_method_5_code
def yX6_hears : MethodName := ⟨RX6, "hears", "(II)V"⟩
abbrev cX6_whoIsAt : ByteArray := prog_8_method_6_code
def yX6_whoIsAt : MethodName := ⟨RX6, "whoIsAt", "(I)I"⟩
abbrev cX6_placeOf : ByteArray := prog_8_method_7_code
def yX6_placeOf : MethodName := ⟨RX6, "placeOf", "(I)I"⟩
abbrev cX6_howMany : ByteArray := prog_8_method_8_code
def yX6_howMany : MethodName := ⟨RX6, "howMany", "(I)I"⟩
abbrev cX6_hasPasserToCome : ByteArray := prog_8_method_9_code
def yX6_hasPasserToCome : MethodName := ⟨RX6, "hasPasserToCome", "()Z"⟩
abbrev cX6_isOver : ByteArray := prog_8_method_10_code
def yX6_isOver : MethodName := ⟨RX6, "isOver", "()Z"⟩
abbrev cX6_allBelieve : ByteArray := prog_8_method_11_code
def yX6_allBelieve : MethodName := ⟨RX6, "allBelieve", "(I)Z"⟩
abbrev cX6_hasJust : ByteArray := prog_8_method_12_code
def yX6_hasJust : MethodName := ⟨RX6, "hasJust", "([II)Z"⟩
abbrev cX6_minuteGoesBy : ByteArray := prog_8_method_13_code
def yX6_minuteGoesBy : MethodName := ⟨RX6, "minuteGoesBy", "(Z)V"⟩
abbrev cX6_tellOn : ByteArray := prog_8_method_14_code
def yX6_tellOn : MethodName := ⟨RX6, "tellOn", "()V"⟩
abbrev cX6_takesOn : ByteArray := prog_8_method_15_code
def yX6_takesOn : MethodName := ⟨RX6, "takesOn", "(I)Z"⟩
abbrev cX6_takeOut : ByteArray := prog_8_method_16_code
def yX6_takeOut : MethodName := ⟨RX6, "takeOut", "(II)V"⟩
abbrev cX6_standOn : ByteArray := prog_8_method_17_code
def yX6_standOn : MethodName := ⟨RX6, "standOn", "()V"⟩
abbrev cX6_bears : ByteArray := prog_8_method_18_code
def yX6_bears : MethodName := ⟨RX6, "bears", "(I)I"⟩
abbrev cX6_hoped : ByteArray := prog_8_method_19_code
def yX6_hoped : MethodName := ⟨RX6, "hoped", "(II)I"⟩
abbrev cX6_meetPasser : ByteArray := prog_8_method_20_code
def yX6_meetPasser : MethodName := ⟨RX6, "meetPasser", "(Z)V"⟩
abbrev cX6_isWaiting : ByteArray := prog_8_method_21_code
def yX6_isWaiting : MethodName := ⟨RX6, "isWaiting", "(I)Z"⟩
abbrev cX6_join : ByteArray := prog_8_method_22_code
def yX6_join : MethodName := ⟨RX6, "join", "(I)V"⟩
abbrev cX6_joinElbows : ByteArray := prog_8_method_23_code
def yX6_joinElbows : MethodName := ⟨RX6, "joinElbows", "(I)V"⟩
abbrev cX6_joinersToCome : ByteArray := prog_8_method_24_code
def yX6_joinersToCome : MethodName := ⟨RX6, "joinersToCome", "()I"⟩
def RX7 : String := "ElbowQueue"
def TX7 : u_T := fun k => match k with
  | 0 => ("ElbowQueue", "rows", "LElbowQueue$Rows;", true)
  | 1 => ("ElbowQueue", "reader", "LElbowQueue$Reader;", true)
  | 2 => ("ElbowQueue", "draft", "LElbowQueue$Told;", true)
  | 3 => ("ElbowQueue", "told", "LElbowQueue$Told;", true)
  | 4 => ("ElbowQueue", "town", "LElbowQueue$Town;", true)
  | 5 => ("ElbowQueue", "acts", "LElbowQueue$Acts;", true)
  | 6 => ("ElbowQueue", "foretold", "LElbowQueue$Foretold;", true)
  | 7 => ("ElbowQueue", "asks", "LElbowQueue$Asks;", true)
  | 8 => ("ElbowQueue", "imagesTold", "[LElbowQueue$Told;", true)
  | 9 => ("ElbowQueue", "imagesTown", "[LElbowQueue$Town;", true)
  | 10 => ("ElbowQueue", "imageKept", "[Z", true)
  | 11 => ("ElbowQueue", "hasTown", "Z", false)
  | 12 => ("ElbowQueue", "latestFault", "I", false)
  | _ => ("ElbowQueue", "latestFinding", "I", false)
def tyX7 : Nat → FieldType := fun k => match k with
  | 0 => .object "ElbowQueue$Rows"
  | 1 => .object "ElbowQueue$Reader"
  | 2 => .object "ElbowQueue$Told"
  | 3 => .object "ElbowQueue$Told"
  | 4 => .object "ElbowQueue$Town"
  | 5 => .object "ElbowQueue$Acts"
  | 6 => .object "ElbowQueue$Foretold"
  | 7 => .object "ElbowQueue$Asks"
  | 8 => .array (.object "ElbowQueue$Told")
  | 9 => .array (.object "ElbowQueue$Town")
  | 10 => .array .boolean
  | 11 => .boolean
  | 12 => .int
  | _ => .int
abbrev wsX70 : List Cond := u_ws RX7 TX7 14
theorem nmX7 : ∀ a, a < 14 → ∀ b, b < 14 → a ≠ b → (TX7 a).2.1 ≠ (TX7 b).2.1 := by decide +kernel
theorem tyX7_ok : ∀ k, k < 14 → parseFieldDescriptor (TX7 k).2.2.1 = some (tyX7 k) := by decide +kernel
abbrev cX7_init : ByteArray := prog_1_method_1_code
def yX7_init : MethodName := ⟨RX7, "<init>", "()V"⟩
abbrev cX7_row : ByteArray := prog_1_method_2_code
def yX7_row : MethodName := ⟨RX7, "row", "(III)I"⟩
abbrev cX7_set : ByteArray := prog_1_method_3_code
def yX7_set : MethodName := ⟨RX7, "set", "(III)I"⟩
abbrev cX7_copy : ByteArray := prog_1_method_4_code
def yX7_copy : MethodName := ⟨RX7, "copy", "(IIIII)I"⟩
abbrev cX7_drop : ByteArray := prog_1_method_5_code
def yX7_drop : MethodName := ⟨RX7, "drop", "(I)I"⟩
abbrev cX7_feed : ByteArray := prog_1_method_6_code
def yX7_feed : MethodName := ⟨RX7, "feed", "(I)I"⟩
abbrev cX7_town : ByteArray := prog_1_method_7_code
def yX7_town : MethodName := ⟨RX7, "town", "()I"⟩
abbrev cX7_fault : ByteArray := prog_1_method_8_code
def yX7_fault : MethodName := ⟨RX7, "fault", "()I"⟩
abbrev cX7_minutes : ByteArray := prog_1_method_9_code
def yX7_minutes : MethodName := ⟨RX7, "minutes", "(I)I"⟩
abbrev cX7_say : ByteArray := prog_1_method_10_code
def yX7_say : MethodName := ⟨RX7, "say", "(II)I"⟩
abbrev cX7_go : ByteArray := prog_1_method_11_code
def yX7_go : MethodName := ⟨RX7, "go", "(I)I"⟩
abbrev cX7_hatch : ByteArray := prog_1_method_12_code
def yX7_hatch : MethodName := ⟨RX7, "hatch", "(II)I"⟩
abbrev cX7_undo : ByteArray := prog_1_method_13_code
def yX7_undo : MethodName := ⟨RX7, "undo", "()I"⟩
abbrev cX7_person : ByteArray := prog_1_method_14_code
def yX7_person : MethodName := ⟨RX7, "person", "(II)I"⟩
abbrev cX7_place : ByteArray := prog_1_method_15_code
def yX7_place : MethodName := ⟨RX7, "place", "(I)I"⟩
abbrev cX7_ahead : ByteArray := prog_1_method_16_code
def yX7_ahead : MethodName := ⟨RX7, "ahead", "(II)I"⟩
abbrev cX7_order : ByteArray := prog_1_method_17_code
def yX7_order : MethodName := ⟨RX7, "order", "(II)I"⟩
abbrev cX7_lives : ByteArray := prog_1_method_18_code
def yX7_lives : MethodName := ⟨RX7, "lives", "()I"⟩
abbrev cX7_words : ByteArray := prog_1_method_19_code
def yX7_words : MethodName := ⟨RX7, "words", "(II)I"⟩
abbrev cX7_served : ByteArray := prog_1_method_20_code
def yX7_served : MethodName := ⟨RX7, "served", "(II)I"⟩
abbrev cX7_spread : ByteArray := prog_1_method_21_code
def yX7_spread : MethodName := ⟨RX7, "spread", "(I)I"⟩
abbrev cX7_elbows : ByteArray := prog_1_method_22_code
def yX7_elbows : MethodName := ⟨RX7, "elbows", "(I)I"⟩
abbrev cX7_grows : ByteArray := prog_1_method_23_code
def yX7_grows : MethodName := ⟨RX7, "grows", "(IIII)I"⟩
abbrev cX7_opens : ByteArray := prog_1_method_24_code
def yX7_opens : MethodName := ⟨RX7, "opens", "(II)I"⟩
abbrev cX7_seen : ByteArray := prog_1_method_25_code
def yX7_seen : MethodName := ⟨RX7, "seen", "(III)I"⟩
abbrev cX7_image : ByteArray := prog_1_method_26_code
def yX7_image : MethodName := ⟨RX7, "image", "(I)I"⟩
abbrev cX7_restore : ByteArray := prog_1_method_27_code
def yX7_restore : MethodName := ⟨RX7, "restore", "(I)I"⟩
abbrev cX7_kind : ByteArray := prog_1_method_28_code
def yX7_kind : MethodName := ⟨RX7, "kind", "(I)I"⟩
abbrev cX7_as : ByteArray := prog_1_method_29_code
def yX7_as : MethodName := ⟨RX7, "as", "(II)I"⟩
abbrev cX7_ask : ByteArray := prog_1_method_30_code
def yX7_ask : MethodName := ⟨RX7, "ask", "(II)I"⟩
abbrev cX7_trace : ByteArray := prog_1_method_31_code
def yX7_trace : MethodName := ⟨RX7, "trace", "(I)I"⟩
abbrev cX7_count : ByteArray := prog_1_method_32_code
def yX7_count : MethodName := ⟨RX7, "count", "(I)I"⟩
abbrev cX7_status : ByteArray := prog_1_method_33_code
def yX7_status : MethodName := ⟨RX7, "status", "()I"⟩
abbrev cX7_within : ByteArray := prog_1_method_34_code
def yX7_within : MethodName := ⟨RX7, "within", "(II)Z"⟩
abbrev cX7_isPerson : ByteArray := prog_1_method_35_code
def yX7_isPerson : MethodName := ⟨RX7, "isPerson", "(I)Z"⟩
abbrev cX7_found : ByteArray := prog_1_method_36_code
def yX7_found : MethodName := ⟨RX7, "found", "(I)I"⟩
abbrev cX7_fine : ByteArray := prog_1_method_37_code
def yX7_fine : MethodName := ⟨RX7, "fine", "(I)I"⟩
def RX8 : String := "ElbowQueueModel"
def TX8 : u_T := fun k => match k with
  | 0 => ("ElbowQueueModel", "now", "[I", true)
  | 1 => ("ElbowQueueModel", "kept", "[I", true)
  | 2 => ("ElbowQueueModel", "isKept", "[Z", true)
  | 3 => ("ElbowQueueModel", "acts", "[I", true)
  | 4 => ("ElbowQueueModel", "manyActs", "I", false)
  | 5 => ("ElbowQueueModel", "was", "[I", true)
  | 6 => ("ElbowQueueModel", "status", "I", false)
  | 7 => ("ElbowQueueModel", "lanes", "[I", true)
  | 8 => ("ElbowQueueModel", "longs", "[I", true)
  | 9 => ("ElbowQueueModel", "isThere", "[Z", true)
  | 10 => ("ElbowQueueModel", "items", "[I", true)
  | 11 => ("ElbowQueueModel", "copied", "[I", true)
  | 12 => ("ElbowQueueModel", "tape", "[I", true)
  | 13 => ("ElbowQueueModel", "tapeLong", "I", false)
  | 14 => ("ElbowQueueModel", "fault", "I", false)
  | 15 => ("ElbowQueueModel", "at", "I", false)
  | 16 => ("ElbowQueueModel", "value", "I", false)
  | 17 => ("ElbowQueueModel", "next", "[I", true)
  | 18 => ("ElbowQueueModel", "told", "[I", true)
  | 19 => ("ElbowQueueModel", "from", "[I", true)
  | 20 => ("ElbowQueueModel", "traces", "[I", true)
  | _ => ("ElbowQueueModel", "traced", "I", false)
def tyX8 : Nat → FieldType := fun k => match k with
  | 0 => .array .int
  | 1 => .array .int
  | 2 => .array .boolean
  | 3 => .array .int
  | 4 => .int
  | 5 => .array .int
  | 6 => .int
  | 7 => .array .int
  | 8 => .array .int
  | 9 => .array .boolean
  | 10 => .array .int
  | 11 => .array .int
  | 12 => .array .int
  | 13 => .int
  | 14 => .int
  | 15 => .int
  | 16 => .int
  | 17 => .array .int
  | 18 => .array .int
  | 19 => .array .int
  | 20 => .array .int
  | _ => .int
abbrev wsX80 : List Cond := u_ws RX8 TX8 22
theorem nmX8 : ∀ a, a < 22 → ∀ b, b < 22 → a ≠ b → (TX8 a).2.1 ≠ (TX8 b).2.1 := by decide +kernel
theorem tyX8_ok : ∀ k, k < 22 → parseFieldDescriptor (TX8 k).2.2.1 = some (tyX8 k) := by decide +kernel
abbrev cX8_init : ByteArray := prog_10_method_1_code
def yX8_init : MethodName := ⟨RX8, "<init>", "()V"⟩
abbrev cX8_in : ByteArray := prog_10_method_3_code
def yX8_in : MethodName := ⟨RX8, "in", "(JJJ)Z"⟩
abbrev cX8_found : ByteArray := prog_10_method_4_code
def yX8_found : MethodName := ⟨RX8, "found", "(I)I"⟩
abbrev cX8_well : ByteArray := prog_10_method_5_code
def yX8_well : MethodName := ⟨RX8, "well", "(I)I"⟩
abbrev cX8_isRow : ByteArray := prog_10_method_6_code
def yX8_isRow : MethodName := ⟨RX8, "isRow", "(I)Z"⟩
abbrev cX8_row : ByteArray := prog_10_method_7_code
def yX8_row : MethodName := ⟨RX8, "row", "(III)I"⟩
abbrev cX8_set : ByteArray := prog_10_method_8_code
def yX8_set : MethodName := ⟨RX8, "set", "(III)I"⟩
abbrev cX8_copy : ByteArray := prog_10_method_9_code
def yX8_copy : MethodName := ⟨RX8, "copy", "(IIIII)I"⟩
abbrev cX8_drop : ByteArray := prog_10_method_10_code
def yX8_drop : MethodName := ⟨RX8, "drop", "(I)I"⟩
abbrev cX8_feed : ByteArray := prog_10_method_11_code
def yX8_feed : MethodName := ⟨RX8, "feed", "(I)I"⟩
abbrev cX8_byteAt : ByteArray := prog_10_method_12_code
def yX8_byteAt : MethodName := ⟨RX8, "byteAt", "(I)I"⟩
abbrev cX8_isFigure : ByteArray := prog_10_method_13_code
def yX8_isFigure : MethodName := ⟨RX8, "isFigure", "(I)Z"⟩
abbrev cX8_sign : ByteArray := prog_10_method_14_code
def yX8_sign : MethodName := ⟨RX8, "sign", "(I)I"⟩
abbrev cX8_number : ByteArray := prog_10_method_15_code
def yX8_number : MethodName := ⟨RX8, "number", "(I)I"⟩
abbrev cX8_sortOf : ByteArray := prog_10_method_16_code
def yX8_sortOf : MethodName := ⟨RX8, "sortOf", "(I)I"⟩
abbrev cX8_readOne : ByteArray := prog_10_method_17_code
def yX8_readOne : MethodName := ⟨RX8, "readOne", "(I)I"⟩
abbrev cX8_readWaiter : ByteArray := prog_10_method_18_code
def yX8_readWaiter : MethodName := ⟨RX8, "readWaiter", "()I"⟩
abbrev cX8_readPasser : ByteArray := prog_10_method_19_code
def yX8_readPasser : MethodName := ⟨RX8, "readPasser", "()I"⟩
abbrev cX8_readTown : ByteArray := prog_10_method_20_code
def yX8_readTown : MethodName := ⟨RX8, "readTown", "()I"⟩
abbrev cX8_town : ByteArray := prog_10_method_21_code
def yX8_town : MethodName := ⟨RX8, "town", "()I"⟩
abbrev cX8_fault : ByteArray := prog_10_method_22_code
def yX8_fault : MethodName := ⟨RX8, "fault", "()I"⟩
abbrev cX8_people : ByteArray := prog_10_method_23_code
def yX8_people : MethodName := ⟨RX8, "people", "()I"⟩
abbrev cX8_isPerson : ByteArray := prog_10_method_24_code
def yX8_isPerson : MethodName := ⟨RX8, "isPerson", "(I)Z"⟩
abbrev cX8_isTown : ByteArray := prog_10_method_25_code
def yX8_isTown : MethodName := ⟨RX8, "isTown", "()Z"⟩
abbrev cX8_isFirstOne : ByteArray := prog_10_method_26_code
def yX8_isFirstOne : MethodName := ⟨RX8, "isFirstOne", "(I)Z"⟩
abbrev cX8_believes : ByteArray := prog_10_method_27_code
def yX8_believes : MethodName := ⟨RX8, "believes", "(I)I"⟩
abbrev cX8_takesOn : ByteArray := prog_10_method_28_code
def yX8_takesOn : MethodName := ⟨RX8, "takesOn", "(I)Z"⟩
abbrev cX8_tellOn : ByteArray := prog_10_method_29_code
def yX8_tellOn : MethodName := ⟨RX8, "tellOn", "()V"⟩
abbrev cX8_outOf : ByteArray := prog_10_method_30_code
def yX8_outOf : MethodName := ⟨RX8, "outOf", "(I)V"⟩
abbrev cX8_bears : ByteArray := prog_10_method_31_code
def yX8_bears : MethodName := ⟨RX8, "bears", "(I)I"⟩
abbrev cX8_leave : ByteArray := prog_10_method_32_code
def yX8_leave : MethodName := ⟨RX8, "leave", "()V"⟩
abbrev cX8_join : ByteArray := prog_10_method_33_code
def yX8_join : MethodName := ⟨RX8, "join", "(I)V"⟩
abbrev cX8_goMinute : ByteArray := prog_10_method_34_code
def yX8_goMinute : MethodName := ⟨RX8, "goMinute", "(Z)V"⟩
abbrev cX8_keepAct : ByteArray := prog_10_method_35_code
def yX8_keepAct : MethodName := ⟨RX8, "keepAct", "()V"⟩
abbrev cX8_minutes : ByteArray := prog_10_method_36_code
def yX8_minutes : MethodName := ⟨RX8, "minutes", "(I)I"⟩
abbrev cX8_isInQueue : ByteArray := prog_10_method_37_code
def yX8_isInQueue : MethodName := ⟨RX8, "isInQueue", "(I)Z"⟩
abbrev cX8_tellOne : ByteArray := prog_10_method_38_code
def yX8_tellOne : MethodName := ⟨RX8, "tellOne", "(II)V"⟩
abbrev cX8_say : ByteArray := prog_10_method_39_code
def yX8_say : MethodName := ⟨RX8, "say", "(II)I"⟩
abbrev cX8_placeOf : ByteArray := prog_10_method_40_code
def yX8_placeOf : MethodName := ⟨RX8, "placeOf", "(I)I"⟩
abbrev cX8_go : ByteArray := prog_10_method_41_code
def yX8_go : MethodName := ⟨RX8, "go", "(I)I"⟩
abbrev cX8_hatch : ByteArray := prog_10_method_42_code
def yX8_hatch : MethodName := ⟨RX8, "hatch", "(II)I"⟩
abbrev cX8_undo : ByteArray := prog_10_method_43_code
def yX8_undo : MethodName := ⟨RX8, "undo", "()I"⟩
abbrev cX8_person : ByteArray := prog_10_method_44_code
def yX8_person : MethodName := ⟨RX8, "person", "(II)I"⟩
abbrev cX8_place : ByteArray := prog_10_method_45_code
def yX8_place : MethodName := ⟨RX8, "place", "(I)I"⟩
abbrev cX8_start : ByteArray := prog_10_method_46_code
def yX8_start : MethodName := ⟨RX8, "start", "()V"⟩
abbrev cX8_back : ByteArray := prog_10_method_47_code
def yX8_back : MethodName := ⟨RX8, "back", "()V"⟩
abbrev cX8_goMinutes : ByteArray := prog_10_method_48_code
def yX8_goMinutes : MethodName := ⟨RX8, "goMinutes", "(I)V"⟩
abbrev cX8_howMany : ByteArray := prog_10_method_49_code
def yX8_howMany : MethodName := ⟨RX8, "howMany", "(I)I"⟩
abbrev cX8_ahead : ByteArray := prog_10_method_50_code
def yX8_ahead : MethodName := ⟨RX8, "ahead", "(II)I"⟩
abbrev cX8_order : ByteArray := prog_10_method_51_code
def yX8_order : MethodName := ⟨RX8, "order", "(II)I"⟩
abbrev cX8_goLives : ByteArray := prog_10_method_52_code
def yX8_goLives : MethodName := ⟨RX8, "goLives", "()I"⟩
abbrev cX8_lives : ByteArray := prog_10_method_53_code
def yX8_lives : MethodName := ⟨RX8, "lives", "()I"⟩
abbrev cX8_words : ByteArray := prog_10_method_54_code
def yX8_words : MethodName := ⟨RX8, "words", "(II)I"⟩
abbrev cX8_served : ByteArray := prog_10_method_55_code
def yX8_served : MethodName := ⟨RX8, "served", "(II)I"⟩
abbrev cX8_allBelieve : ByteArray := prog_10_method_56_code
def yX8_allBelieve : MethodName := ⟨RX8, "allBelieve", "(I)Z"⟩
abbrev cX8_spread : ByteArray := prog_10_method_57_code
def yX8_spread : MethodName := ⟨RX8, "spread", "(I)I"⟩
abbrev cX8_joinElbows : ByteArray := prog_10_method_58_code
def yX8_joinElbows : MethodName := ⟨RX8, "joinElbows", "(I)V"⟩
abbrev cX8_passersIn : ByteArray := prog_10_method_59_code
def yX8_passersIn : MethodName := ⟨RX8, "passersIn", "()I"⟩
abbrev cX8_elbows : ByteArray := prog_10_method_60_code
def yX8_elbows : MethodName := ⟨RX8, "elbows", "(I)I"⟩
abbrev cX8_common : ByteArray := prog_10_method_61_code
def yX8_common : MethodName := ⟨RX8, "common", "(II)I"⟩
abbrev cX8_power : ByteArray := prog_10_method_62_code
def yX8_power : MethodName := ⟨RX8, "power", "(II)I"⟩
abbrev cX8_bits : ByteArray := prog_10_method_63_code
def yX8_bits : MethodName := ⟨RX8, "bits", "(I)I"⟩
abbrev cX8_grows : ByteArray := prog_10_method_64_code
def yX8_grows : MethodName := ⟨RX8, "grows", "(IIII)I"⟩
abbrev cX8_opens : ByteArray := prog_10_method_65_code
def yX8_opens : MethodName := ⟨RX8, "opens", "(II)I"⟩
abbrev cX8_isSeen : ByteArray := prog_10_method_66_code
def yX8_isSeen : MethodName := ⟨RX8, "isSeen", "(III)Z"⟩
abbrev cX8_seen : ByteArray := prog_10_method_67_code
def yX8_seen : MethodName := ⟨RX8, "seen", "(III)I"⟩
abbrev cX8_image : ByteArray := prog_10_method_68_code
def yX8_image : MethodName := ⟨RX8, "image", "(I)I"⟩
abbrev cX8_restore : ByteArray := prog_10_method_69_code
def yX8_restore : MethodName := ⟨RX8, "restore", "(I)I"⟩
abbrev cX8_kind : ByteArray := prog_10_method_70_code
def yX8_kind : MethodName := ⟨RX8, "kind", "(I)I"⟩
abbrev cX8_above : ByteArray := prog_10_method_71_code
def yX8_above : MethodName := ⟨RX8, "above", "(I)I"⟩
abbrev cX8_as : ByteArray := prog_10_method_72_code
def yX8_as : MethodName := ⟨RX8, "as", "(II)I"⟩
abbrev cX8_note : ByteArray := prog_10_method_73_code
def yX8_note : MethodName := ⟨RX8, "note", "(I)V"⟩
abbrev cX8_plainSize : ByteArray := prog_10_method_74_code
def yX8_plainSize : MethodName := ⟨RX8, "plainSize", "(I)I"⟩
abbrev cX8_firstSize : ByteArray := prog_10_method_75_code
def yX8_firstSize : MethodName := ⟨RX8, "firstSize", "(I)I"⟩
abbrev cX8_sizeOfFirst : ByteArray := prog_10_method_76_code
def yX8_sizeOfFirst : MethodName := ⟨RX8, "sizeOfFirst", "(I)I"⟩
abbrev cX8_believerSize : ByteArray := prog_10_method_77_code
def yX8_believerSize : MethodName := ⟨RX8, "believerSize", "(I)I"⟩
abbrev cX8_size : ByteArray := prog_10_method_78_code
def yX8_size : MethodName := ⟨RX8, "size", "(I)I"⟩
abbrev cX8_plainMark : ByteArray := prog_10_method_79_code
def yX8_plainMark : MethodName := ⟨RX8, "plainMark", "(I)I"⟩
abbrev cX8_believerMark : ByteArray := prog_10_method_80_code
def yX8_believerMark : MethodName := ⟨RX8, "believerMark", "(I)I"⟩
abbrev cX8_mark : ByteArray := prog_10_method_81_code
def yX8_mark : MethodName := ⟨RX8, "mark", "(I)I"⟩
abbrev cX8_ask : ByteArray := prog_10_method_82_code
def yX8_ask : MethodName := ⟨RX8, "ask", "(II)I"⟩
abbrev cX8_trace : ByteArray := prog_10_method_83_code
def yX8_trace : MethodName := ⟨RX8, "trace", "(I)I"⟩
abbrev cX8_rows : ByteArray := prog_10_method_84_code
def yX8_rows : MethodName := ⟨RX8, "rows", "()I"⟩
abbrev cX8_count : ByteArray := prog_10_method_85_code
def yX8_count : MethodName := ⟨RX8, "count", "(I)I"⟩
abbrev cX8_status : ByteArray := prog_10_method_86_code
def yX8_status : MethodName := ⟨RX8, "status", "()I"⟩
def RJ9 : String := "java/lang/Math"
def TJ9 : u_T := fun k => match k with
  | _ => ("", "", "", false)
def tyJ9 : Nat → FieldType := fun k => match k with
  | _ => .int
abbrev wsJ90 : List Cond := u_ws RJ9 TJ9 0
theorem nmJ9 : ∀ a, a < 0 → ∀ b, b < 0 → a ≠ b → (TJ9 a).2.1 ≠ (TJ9 b).2.1 := by decide +kernel
theorem tyJ9_ok : ∀ k, k < 0 → parseFieldDescriptor (TJ9 k).2.2.1 = some (tyJ9 k) := by decide +kernel
abbrev cJ9_max_7cf53 : ByteArray := prog_11_method_65_code
def yJ9_max_7cf53 : MethodName := ⟨RJ9, "max", "(II)I"⟩
abbrev cJ9_min_7cf53 : ByteArray := prog_11_method_69_code
def yJ9_min_7cf53 : MethodName := ⟨RJ9, "min", "(II)I"⟩
def RJ10 : String := "java/lang/System"
def TJ10 : u_T := fun k => match k with
  | _ => ("", "", "", false)
def tyJ10 : Nat → FieldType := fun k => match k with
  | _ => .int
abbrev wsJ100 : List Cond := u_ws RJ10 TJ10 0
theorem nmJ10 : ∀ a, a < 0 → ∀ b, b < 0 → a ≠ b → (TJ10 a).2.1 ≠ (TJ10 b).2.1 := by decide +kernel
theorem tyJ10_ok : ∀ k, k < 0 → parseFieldDescriptor (TJ10 k).2.2.1 = some (tyJ10 k) := by decide +kernel
end
section
/-- the classes by number; 9: Math -/
def cN : Nat → String := fun k => match k with
  | 0 => RX0
  | 1 => RX1
  | 2 => RX2
  | 3 => RX3
  | 4 => RX4
  | 5 => RX5
  | 6 => RX6
  | 7 => RX7
  | 8 => RX8
  | _ => "java/lang/Math"
abbrev vwCl : List vw_C := [(RX0, TX0, 3), (RX1, TX1, 4), (RX2, TX2, 5), (RX3, TX3, 4), (RX4, TX4, 3), (RX5, TX5, 8), (RX6, TX6, 11), (RX7, TX7, 14), (RX8, TX8, 22)]
def mT : List (Nat × MethodName × ByteArray × Nat × Option FieldType × Nat × Bool) := [
  (0, ⟨"ElbowQueue$Acts", "<init>", "(LElbowQueue$Told;)V"⟩, prog_2_method_1_code, 3, (none : Option FieldType), 1, false),
  (0, ⟨"ElbowQueue$Acts", "kept", "()I"⟩, prog_2_method_2_code, 1, some (FieldType.int), 0, false),
  (0, ⟨"ElbowQueue$Acts", "forget", "()V"⟩, prog_2_method_3_code, 1, (none : Option FieldType), 0, false),
  (0, ⟨"ElbowQueue$Acts", "keep", "(LElbowQueue$Town;)V"⟩, prog_2_method_4_code, 2, (none : Option FieldType), 1, false),
  (0, ⟨"ElbowQueue$Acts", "giveBack", "(LElbowQueue$Town;)V"⟩, prog_2_method_5_code, 2, (none : Option FieldType), 1, false),
  (1, ⟨"ElbowQueue$Asks", "<init>", "(LElbowQueue$Told;LElbowQueue$Town;)V"⟩, prog_3_method_1_code, 3, (none : Option FieldType), 2, false),
  (1, ⟨"ElbowQueue$Asks", "isA", "(II)Z"⟩, prog_3_method_2_code, 4, some (FieldType.boolean), 2, true),
  (1, ⟨"ElbowQueue$Asks", "traced", "(I)I"⟩, prog_3_method_3_code, 2, some (FieldType.int), 1, false),
  (1, ⟨"ElbowQueue$Asks", "begin", "(II)I"⟩, prog_3_method_4_code, 3, some (FieldType.int), 2, false),
  (1, ⟨"ElbowQueue$Asks", "asked", "(III)I"⟩, prog_3_method_5_code, 6, some (FieldType.int), 3, false),
  (1, ⟨"ElbowQueue$Asks", "bodyOf", "(II)I"⟩, prog_3_method_6_code, 3, some (FieldType.int), 2, true),
  (1, ⟨"ElbowQueue$Asks", "given", "(III)I"⟩, prog_3_method_7_code, 4, some (FieldType.int), 3, false),
  (1, ⟨"ElbowQueue$Asks", "leave", "(I)V"⟩, prog_3_method_8_code, 2, (none : Option FieldType), 1, false),
  (2, ⟨"ElbowQueue$Foretold", "<init>", "(LElbowQueue$Told;LElbowQueue$Town;)V"⟩, prog_4_method_1_code, 4, (none : Option FieldType), 2, false),
  (2, ⟨"ElbowQueue$Foretold", "letGoBy", "(LElbowQueue$Town;I)V"⟩, prog_4_method_2_code, 3, (none : Option FieldType), 2, true),
  (2, ⟨"ElbowQueue$Foretold", "behind", "(I)LElbowQueue$Town;"⟩, prog_4_method_3_code, 2, some (FieldType.object "ElbowQueue$Town"), 1, false),
  (2, ⟨"ElbowQueue$Foretold", "firstMinute", "(IIII)I"⟩, prog_4_method_4_code, 6, some (FieldType.int), 4, false),
  (2, ⟨"ElbowQueue$Foretold", "shows", "(III)Z"⟩, prog_4_method_5_code, 4, some (FieldType.boolean), 3, false),
  (2, ⟨"ElbowQueue$Foretold", "life", "()I"⟩, prog_4_method_6_code, 1, some (FieldType.int), 0, false),
  (2, ⟨"ElbowQueue$Foretold", "whenIs", "(II)I"⟩, prog_4_method_7_code, 3, some (FieldType.int), 2, false),
  (2, ⟨"ElbowQueue$Foretold", "whenAllBelieve", "(I)I"⟩, prog_4_method_8_code, 2, some (FieldType.int), 1, false),
  (2, ⟨"ElbowQueue$Foretold", "whenAreJust", "(I)I"⟩, prog_4_method_9_code, 2, some (FieldType.int), 1, false),
  (2, ⟨"ElbowQueue$Foretold", "bestWord", "(IZ)I"⟩, prog_4_method_10_code, 7, some (FieldType.int), 2, false),
  (2, ⟨"ElbowQueue$Foretold", "fewestElbows", "(I)I"⟩, prog_4_method_11_code, 3, some (FieldType.int), 1, false),
  (2, ⟨"ElbowQueue$Foretold", "odds", "(IIIZ)I"⟩, prog_4_method_12_code, 11, some (FieldType.int), 4, false),
  (2, ⟨"ElbowQueue$Foretold", "fitting", "(IIII)J"⟩, prog_4_method_13_code, 9, some (FieldType.long), 4, false),
  (2, ⟨"ElbowQueue$Foretold", "goOn", "(IZ)V"⟩, prog_4_method_14_code, 4, (none : Option FieldType), 2, false),
  (2, ⟨"ElbowQueue$Foretold", "greatestDivisor", "(JJ)J"⟩, prog_4_method_15_code, 11, some (FieldType.long), 2, true),
  (2, ⟨"ElbowQueue$Foretold", "bestOpening", "(IZ)I"⟩, prog_4_method_16_code, 8, some (FieldType.int), 2, false),
  (3, ⟨"ElbowQueue$Reader", "<init>", "()V"⟩, prog_5_method_1_code, 1, (none : Option FieldType), 0, false),
  (3, ⟨"ElbowQueue$Reader", "isFull", "()Z"⟩, prog_5_method_2_code, 1, some (FieldType.boolean), 0, false),
  (3, ⟨"ElbowQueue$Reader", "take", "(I)I"⟩, prog_5_method_3_code, 2, some (FieldType.int), 1, false),
  (3, ⟨"ElbowQueue$Reader", "length", "()I"⟩, prog_5_method_4_code, 1, some (FieldType.int), 0, false),
  (3, ⟨"ElbowQueue$Reader", "at", "()I"⟩, prog_5_method_5_code, 1, some (FieldType.int), 0, false),
  (3, ⟨"ElbowQueue$Reader", "read", "(LElbowQueue$Told;)I"⟩, prog_5_method_6_code, 2, some (FieldType.int), 1, false),
  (3, ⟨"ElbowQueue$Reader", "readHead", "(LElbowQueue$Told;)V"⟩, prog_5_method_7_code, 2, (none : Option FieldType), 1, false),
  (3, ⟨"ElbowQueue$Reader", "readWaiters", "(LElbowQueue$Told;)V"⟩, prog_5_method_8_code, 6, (none : Option FieldType), 1, false),
  (3, ⟨"ElbowQueue$Reader", "readPassers", "(LElbowQueue$Told;)V"⟩, prog_5_method_9_code, 7, (none : Option FieldType), 1, false),
  (3, ⟨"ElbowQueue$Reader", "byteAt", "(I)I"⟩, prog_5_method_10_code, 2, some (FieldType.int), 1, false),
  (3, ⟨"ElbowQueue$Reader", "sign", "(I)V"⟩, prog_5_method_11_code, 2, (none : Option FieldType), 1, false),
  (3, ⟨"ElbowQueue$Reader", "sort", "()I"⟩, prog_5_method_12_code, 2, some (FieldType.int), 0, false),
  (3, ⟨"ElbowQueue$Reader", "number", "(I)I"⟩, prog_5_method_13_code, 4, some (FieldType.int), 1, false),
  (3, ⟨"ElbowQueue$Reader", "isFigure", "(I)Z"⟩, prog_5_method_14_code, 1, some (FieldType.boolean), 1, true),
  (3, ⟨"ElbowQueue$Reader", "kindOf", "(I)I"⟩, prog_5_method_15_code, 1, some (FieldType.int), 1, true),
  (4, ⟨"ElbowQueue$Rows", "<init>", "()V"⟩, prog_6_method_1_code, 2, (none : Option FieldType), 0, false),
  (4, ⟨"ElbowQueue$Rows", "isNumber", "(I)Z"⟩, prog_6_method_2_code, 1, some (FieldType.boolean), 1, true),
  (4, ⟨"ElbowQueue$Rows", "isLane", "(I)Z"⟩, prog_6_method_3_code, 1, some (FieldType.boolean), 1, true),
  (4, ⟨"ElbowQueue$Rows", "isMissing", "(I)Z"⟩, prog_6_method_4_code, 2, some (FieldType.boolean), 1, false),
  (4, ⟨"ElbowQueue$Rows", "laneOf", "(I)I"⟩, prog_6_method_5_code, 2, some (FieldType.int), 1, false),
  (4, ⟨"ElbowQueue$Rows", "item", "(II)I"⟩, prog_6_method_6_code, 3, some (FieldType.int), 2, false),
  (4, ⟨"ElbowQueue$Rows", "spans", "(III)Z"⟩, prog_6_method_7_code, 4, some (FieldType.boolean), 3, false),
  (4, ⟨"ElbowQueue$Rows", "lay", "(III)V"⟩, prog_6_method_8_code, 5, (none : Option FieldType), 3, false),
  (4, ⟨"ElbowQueue$Rows", "put", "(III)I"⟩, prog_6_method_9_code, 5, some (FieldType.int), 3, false),
  (4, ⟨"ElbowQueue$Rows", "bring", "(IIIII)V"⟩, prog_6_method_10_code, 6, (none : Option FieldType), 5, false),
  (4, ⟨"ElbowQueue$Rows", "takeAway", "(I)I"⟩, prog_6_method_11_code, 3, some (FieldType.int), 1, false),
  (4, ⟨"ElbowQueue$Rows", "present", "()I"⟩, prog_6_method_12_code, 3, some (FieldType.int), 0, false),
  (5, ⟨"ElbowQueue$Told", "<init>", "()V"⟩, prog_7_method_1_code, 2, (none : Option FieldType), 0, false),
  (5, ⟨"ElbowQueue$Told", "clear", "()V"⟩, prog_7_method_2_code, 1, (none : Option FieldType), 0, false),
  (5, ⟨"ElbowQueue$Told", "add", "(IIII)V"⟩, prog_7_method_3_code, 5, (none : Option FieldType), 4, false),
  (5, ⟨"ElbowQueue$Told", "become", "(LElbowQueue$Told;)V"⟩, prog_7_method_4_code, 2, (none : Option FieldType), 1, false),
  (6, ⟨"ElbowQueue$Town", "<init>", "(LElbowQueue$Told;I)V"⟩, prog_8_method_1_code, 3, (none : Option FieldType), 2, false),
  (6, ⟨"ElbowQueue$Town", "begin", "()V"⟩, prog_8_method_2_code, 2, (none : Option FieldType), 0, false),
  (6, ⟨"ElbowQueue$Town", "become", "(LElbowQueue$Town;)V"⟩, prog_8_method_3_code, 3, (none : Option FieldType), 1, false),
  (6, ⟨"ElbowQueue$Town", "believes", "(I)I"⟩, prog_8_method_4_code, 2, some (FieldType.int), 1, false),
  (6, ⟨"ElbowQueue$Town", "hears", "(II)V"⟩, prog_8_method_5_code, 3, (none : Option FieldType), 2, false),
  (6, ⟨"ElbowQueue$Town", "whoIsAt", "(I)I"⟩, prog_8_method_6_code, 2, some (FieldType.int), 1, false),
  (6, ⟨"ElbowQueue$Town", "placeOf", "(I)I"⟩, prog_8_method_7_code, 3, some (FieldType.int), 1, false),
  (6, ⟨"ElbowQueue$Town", "howMany", "(I)I"⟩, prog_8_method_8_code, 4, some (FieldType.int), 1, false),
  (6, ⟨"ElbowQueue$Town", "hasPasserToCome", "()Z"⟩, prog_8_method_9_code, 1, some (FieldType.boolean), 0, false),
  (6, ⟨"ElbowQueue$Town", "isOver", "()Z"⟩, prog_8_method_10_code, 1, some (FieldType.boolean), 0, false),
  (6, ⟨"ElbowQueue$Town", "allBelieve", "(I)Z"⟩, prog_8_method_11_code, 3, some (FieldType.boolean), 1, false),
  (6, ⟨"ElbowQueue$Town", "hasJust", "([II)Z"⟩, prog_8_method_12_code, 4, some (FieldType.boolean), 2, false),
  (6, ⟨"ElbowQueue$Town", "minuteGoesBy", "(Z)V"⟩, prog_8_method_13_code, 2, (none : Option FieldType), 1, false),
  (6, ⟨"ElbowQueue$Town", "tellOn", "()V"⟩, prog_8_method_14_code, 4, (none : Option FieldType), 0, false),
  (6, ⟨"ElbowQueue$Town", "takesOn", "(I)Z"⟩, prog_8_method_15_code, 3, some (FieldType.boolean), 1, false),
  (6, ⟨"ElbowQueue$Town", "takeOut", "(II)V"⟩, prog_8_method_16_code, 4, (none : Option FieldType), 2, false),
  (6, ⟨"ElbowQueue$Town", "standOn", "()V"⟩, prog_8_method_17_code, 6, (none : Option FieldType), 0, false),
  (6, ⟨"ElbowQueue$Town", "bears", "(I)I"⟩, prog_8_method_18_code, 3, some (FieldType.int), 1, false),
  (6, ⟨"ElbowQueue$Town", "hoped", "(II)I"⟩, prog_8_method_19_code, 3, some (FieldType.int), 2, false),
  (6, ⟨"ElbowQueue$Town", "meetPasser", "(Z)V"⟩, prog_8_method_20_code, 3, (none : Option FieldType), 1, false),
  (6, ⟨"ElbowQueue$Town", "isWaiting", "(I)Z"⟩, prog_8_method_21_code, 2, some (FieldType.boolean), 1, false),
  (6, ⟨"ElbowQueue$Town", "join", "(I)V"⟩, prog_8_method_22_code, 2, (none : Option FieldType), 1, false),
  (6, ⟨"ElbowQueue$Town", "joinElbows", "(I)V"⟩, prog_8_method_23_code, 3, (none : Option FieldType), 1, false),
  (6, ⟨"ElbowQueue$Town", "joinersToCome", "()I"⟩, prog_8_method_24_code, 4, some (FieldType.int), 0, false),
  (7, ⟨"ElbowQueue", "<init>", "()V"⟩, prog_1_method_1_code, 2, (none : Option FieldType), 0, false),
  (7, ⟨"ElbowQueue", "row", "(III)I"⟩, prog_1_method_2_code, 4, some (FieldType.int), 3, false),
  (7, ⟨"ElbowQueue", "set", "(III)I"⟩, prog_1_method_3_code, 4, some (FieldType.int), 3, false),
  (7, ⟨"ElbowQueue", "copy", "(IIIII)I"⟩, prog_1_method_4_code, 6, some (FieldType.int), 5, false),
  (7, ⟨"ElbowQueue", "drop", "(I)I"⟩, prog_1_method_5_code, 2, some (FieldType.int), 1, false),
  (7, ⟨"ElbowQueue", "feed", "(I)I"⟩, prog_1_method_6_code, 2, some (FieldType.int), 1, false),
  (7, ⟨"ElbowQueue", "town", "()I"⟩, prog_1_method_7_code, 2, some (FieldType.int), 0, false),
  (7, ⟨"ElbowQueue", "fault", "()I"⟩, prog_1_method_8_code, 1, some (FieldType.int), 0, false),
  (7, ⟨"ElbowQueue", "minutes", "(I)I"⟩, prog_1_method_9_code, 3, some (FieldType.int), 1, false),
  (7, ⟨"ElbowQueue", "say", "(II)I"⟩, prog_1_method_10_code, 4, some (FieldType.int), 2, false),
  (7, ⟨"ElbowQueue", "go", "(I)I"⟩, prog_1_method_11_code, 3, some (FieldType.int), 1, false),
  (7, ⟨"ElbowQueue", "hatch", "(II)I"⟩, prog_1_method_12_code, 4, some (FieldType.int), 2, false),
  (7, ⟨"ElbowQueue", "undo", "()I"⟩, prog_1_method_13_code, 1, some (FieldType.int), 0, false),
  (7, ⟨"ElbowQueue", "person", "(II)I"⟩, prog_1_method_14_code, 3, some (FieldType.int), 2, false),
  (7, ⟨"ElbowQueue", "place", "(I)I"⟩, prog_1_method_15_code, 2, some (FieldType.int), 1, false),
  (7, ⟨"ElbowQueue", "ahead", "(II)I"⟩, prog_1_method_16_code, 3, some (FieldType.int), 2, false),
  (7, ⟨"ElbowQueue", "order", "(II)I"⟩, prog_1_method_17_code, 3, some (FieldType.int), 2, false),
  (7, ⟨"ElbowQueue", "lives", "()I"⟩, prog_1_method_18_code, 1, some (FieldType.int), 0, false),
  (7, ⟨"ElbowQueue", "words", "(II)I"⟩, prog_1_method_19_code, 4, some (FieldType.int), 2, false),
  (7, ⟨"ElbowQueue", "served", "(II)I"⟩, prog_1_method_20_code, 3, some (FieldType.int), 2, false),
  (7, ⟨"ElbowQueue", "spread", "(I)I"⟩, prog_1_method_21_code, 2, some (FieldType.int), 1, false),
  (7, ⟨"ElbowQueue", "elbows", "(I)I"⟩, prog_1_method_22_code, 2, some (FieldType.int), 1, false),
  (7, ⟨"ElbowQueue", "grows", "(IIII)I"⟩, prog_1_method_23_code, 5, some (FieldType.int), 4, false),
  (7, ⟨"ElbowQueue", "opens", "(II)I"⟩, prog_1_method_24_code, 3, some (FieldType.int), 2, false),
  (7, ⟨"ElbowQueue", "seen", "(III)I"⟩, prog_1_method_25_code, 6, some (FieldType.int), 3, false),
  (7, ⟨"ElbowQueue", "image", "(I)I"⟩, prog_1_method_26_code, 2, some (FieldType.int), 1, false),
  (7, ⟨"ElbowQueue", "restore", "(I)I"⟩, prog_1_method_27_code, 2, some (FieldType.int), 1, false),
  (7, ⟨"ElbowQueue", "kind", "(I)I"⟩, prog_1_method_28_code, 2, some (FieldType.int), 1, false),
  (7, ⟨"ElbowQueue", "as", "(II)I"⟩, prog_1_method_29_code, 3, some (FieldType.int), 2, false),
  (7, ⟨"ElbowQueue", "ask", "(II)I"⟩, prog_1_method_30_code, 3, some (FieldType.int), 2, false),
  (7, ⟨"ElbowQueue", "trace", "(I)I"⟩, prog_1_method_31_code, 2, some (FieldType.int), 1, false),
  (7, ⟨"ElbowQueue", "count", "(I)I"⟩, prog_1_method_32_code, 2, some (FieldType.int), 1, false),
  (7, ⟨"ElbowQueue", "status", "()I"⟩, prog_1_method_33_code, 1, some (FieldType.int), 0, false),
  (7, ⟨"ElbowQueue", "within", "(II)Z"⟩, prog_1_method_34_code, 2, some (FieldType.boolean), 2, true),
  (7, ⟨"ElbowQueue", "isPerson", "(I)Z"⟩, prog_1_method_35_code, 2, some (FieldType.boolean), 1, false),
  (7, ⟨"ElbowQueue", "found", "(I)I"⟩, prog_1_method_36_code, 2, some (FieldType.int), 1, false),
  (7, ⟨"ElbowQueue", "fine", "(I)I"⟩, prog_1_method_37_code, 2, some (FieldType.int), 1, false),
  (8, ⟨"ElbowQueueModel", "<init>", "()V"⟩, prog_10_method_1_code, 1, (none : Option FieldType), 0, false),
  (8, ⟨"ElbowQueueModel", "in", "(JJJ)Z"⟩, prog_10_method_3_code, 6, some (FieldType.boolean), 3, true),
  (8, ⟨"ElbowQueueModel", "found", "(I)I"⟩, prog_10_method_4_code, 2, some (FieldType.int), 1, false),
  (8, ⟨"ElbowQueueModel", "well", "(I)I"⟩, prog_10_method_5_code, 2, some (FieldType.int), 1, false),
  (8, ⟨"ElbowQueueModel", "isRow", "(I)Z"⟩, prog_10_method_6_code, 1, some (FieldType.boolean), 1, true),
  (8, ⟨"ElbowQueueModel", "row", "(III)I"⟩, prog_10_method_7_code, 5, some (FieldType.int), 3, false),
  (8, ⟨"ElbowQueueModel", "set", "(III)I"⟩, prog_10_method_8_code, 5, some (FieldType.int), 3, false),
  (8, ⟨"ElbowQueueModel", "copy", "(IIIII)I"⟩, prog_10_method_9_code, 7, some (FieldType.int), 5, false),
  (8, ⟨"ElbowQueueModel", "drop", "(I)I"⟩, prog_10_method_10_code, 2, some (FieldType.int), 1, false),
  (8, ⟨"ElbowQueueModel", "feed", "(I)I"⟩, prog_10_method_11_code, 2, some (FieldType.int), 1, false),
  (8, ⟨"ElbowQueueModel", "byteAt", "(I)I"⟩, prog_10_method_12_code, 2, some (FieldType.int), 1, false),
  (8, ⟨"ElbowQueueModel", "isFigure", "(I)Z"⟩, prog_10_method_13_code, 1, some (FieldType.boolean), 1, true),
  (8, ⟨"ElbowQueueModel", "sign", "(I)I"⟩, prog_10_method_14_code, 3, some (FieldType.int), 1, false),
  (8, ⟨"ElbowQueueModel", "number", "(I)I"⟩, prog_10_method_15_code, 4, some (FieldType.int), 1, false),
  (8, ⟨"ElbowQueueModel", "sortOf", "(I)I"⟩, prog_10_method_16_code, 1, some (FieldType.int), 1, true),
  (8, ⟨"ElbowQueueModel", "readOne", "(I)I"⟩, prog_10_method_17_code, 3, some (FieldType.int), 1, false),
  (8, ⟨"ElbowQueueModel", "readWaiter", "()I"⟩, prog_10_method_18_code, 3, some (FieldType.int), 0, false),
  (8, ⟨"ElbowQueueModel", "readPasser", "()I"⟩, prog_10_method_19_code, 3, some (FieldType.int), 0, false),
  (8, ⟨"ElbowQueueModel", "readTown", "()I"⟩, prog_10_method_20_code, 3, some (FieldType.int), 0, false),
  (8, ⟨"ElbowQueueModel", "town", "()I"⟩, prog_10_method_21_code, 3, some (FieldType.int), 0, false),
  (8, ⟨"ElbowQueueModel", "fault", "()I"⟩, prog_10_method_22_code, 1, some (FieldType.int), 0, false),
  (8, ⟨"ElbowQueueModel", "people", "()I"⟩, prog_10_method_23_code, 1, some (FieldType.int), 0, false),
  (8, ⟨"ElbowQueueModel", "isPerson", "(I)Z"⟩, prog_10_method_24_code, 2, some (FieldType.boolean), 1, false),
  (8, ⟨"ElbowQueueModel", "isTown", "()Z"⟩, prog_10_method_25_code, 1, some (FieldType.boolean), 0, false),
  (8, ⟨"ElbowQueueModel", "isFirstOne", "(I)Z"⟩, prog_10_method_26_code, 2, some (FieldType.boolean), 1, false),
  (8, ⟨"ElbowQueueModel", "believes", "(I)I"⟩, prog_10_method_27_code, 2, some (FieldType.int), 1, false),
  (8, ⟨"ElbowQueueModel", "takesOn", "(I)Z"⟩, prog_10_method_28_code, 3, some (FieldType.boolean), 1, false),
  (8, ⟨"ElbowQueueModel", "tellOn", "()V"⟩, prog_10_method_29_code, 3, (none : Option FieldType), 0, false),
  (8, ⟨"ElbowQueueModel", "outOf", "(I)V"⟩, prog_10_method_30_code, 3, (none : Option FieldType), 1, false),
  (8, ⟨"ElbowQueueModel", "bears", "(I)I"⟩, prog_10_method_31_code, 5, some (FieldType.int), 1, false),
  (8, ⟨"ElbowQueueModel", "leave", "()V"⟩, prog_10_method_32_code, 5, (none : Option FieldType), 0, false),
  (8, ⟨"ElbowQueueModel", "join", "(I)V"⟩, prog_10_method_33_code, 2, (none : Option FieldType), 1, false),
  (8, ⟨"ElbowQueueModel", "goMinute", "(Z)V"⟩, prog_10_method_34_code, 3, (none : Option FieldType), 1, false),
  (8, ⟨"ElbowQueueModel", "keepAct", "()V"⟩, prog_10_method_35_code, 2, (none : Option FieldType), 0, false),
  (8, ⟨"ElbowQueueModel", "minutes", "(I)I"⟩, prog_10_method_36_code, 3, some (FieldType.int), 1, false),
  (8, ⟨"ElbowQueueModel", "isInQueue", "(I)Z"⟩, prog_10_method_37_code, 2, some (FieldType.boolean), 1, false),
  (8, ⟨"ElbowQueueModel", "tellOne", "(II)V"⟩, prog_10_method_38_code, 3, (none : Option FieldType), 2, false),
  (8, ⟨"ElbowQueueModel", "say", "(II)I"⟩, prog_10_method_39_code, 4, some (FieldType.int), 2, false),
  (8, ⟨"ElbowQueueModel", "placeOf", "(I)I"⟩, prog_10_method_40_code, 4, some (FieldType.int), 1, false),
  (8, ⟨"ElbowQueueModel", "go", "(I)I"⟩, prog_10_method_41_code, 2, some (FieldType.int), 1, false),
  (8, ⟨"ElbowQueueModel", "hatch", "(II)I"⟩, prog_10_method_42_code, 4, some (FieldType.int), 2, false),
  (8, ⟨"ElbowQueueModel", "undo", "()I"⟩, prog_10_method_43_code, 2, some (FieldType.int), 0, false),
  (8, ⟨"ElbowQueueModel", "person", "(II)I"⟩, prog_10_method_44_code, 3, some (FieldType.int), 2, false),
  (8, ⟨"ElbowQueueModel", "place", "(I)I"⟩, prog_10_method_45_code, 2, some (FieldType.int), 1, false),
  (8, ⟨"ElbowQueueModel", "start", "()V"⟩, prog_10_method_46_code, 2, (none : Option FieldType), 0, false),
  (8, ⟨"ElbowQueueModel", "back", "()V"⟩, prog_10_method_47_code, 2, (none : Option FieldType), 0, false),
  (8, ⟨"ElbowQueueModel", "goMinutes", "(I)V"⟩, prog_10_method_48_code, 3, (none : Option FieldType), 1, false),
  (8, ⟨"ElbowQueueModel", "howMany", "(I)I"⟩, prog_10_method_49_code, 4, some (FieldType.int), 1, false),
  (8, ⟨"ElbowQueueModel", "ahead", "(II)I"⟩, prog_10_method_50_code, 4, some (FieldType.int), 2, false),
  (8, ⟨"ElbowQueueModel", "order", "(II)I"⟩, prog_10_method_51_code, 4, some (FieldType.int), 2, false),
  (8, ⟨"ElbowQueueModel", "goLives", "()I"⟩, prog_10_method_52_code, 2, some (FieldType.int), 0, false),
  (8, ⟨"ElbowQueueModel", "lives", "()I"⟩, prog_10_method_53_code, 2, some (FieldType.int), 0, false),
  (8, ⟨"ElbowQueueModel", "words", "(II)I"⟩, prog_10_method_54_code, 8, some (FieldType.int), 2, false),
  (8, ⟨"ElbowQueueModel", "served", "(II)I"⟩, prog_10_method_55_code, 6, some (FieldType.int), 2, false),
  (8, ⟨"ElbowQueueModel", "allBelieve", "(I)Z"⟩, prog_10_method_56_code, 4, some (FieldType.boolean), 1, false),
  (8, ⟨"ElbowQueueModel", "spread", "(I)I"⟩, prog_10_method_57_code, 4, some (FieldType.int), 1, false),
  (8, ⟨"ElbowQueueModel", "joinElbows", "(I)V"⟩, prog_10_method_58_code, 4, (none : Option FieldType), 1, false),
  (8, ⟨"ElbowQueueModel", "passersIn", "()I"⟩, prog_10_method_59_code, 3, some (FieldType.int), 0, false),
  (8, ⟨"ElbowQueueModel", "elbows", "(I)I"⟩, prog_10_method_60_code, 4, some (FieldType.int), 1, false),
  (8, ⟨"ElbowQueueModel", "common", "(II)I"⟩, prog_10_method_61_code, 5, some (FieldType.int), 2, true),
  (8, ⟨"ElbowQueueModel", "power", "(II)I"⟩, prog_10_method_62_code, 4, some (FieldType.int), 2, true),
  (8, ⟨"ElbowQueueModel", "bits", "(I)I"⟩, prog_10_method_63_code, 3, some (FieldType.int), 1, true),
  (8, ⟨"ElbowQueueModel", "grows", "(IIII)I"⟩, prog_10_method_64_code, 10, some (FieldType.int), 4, false),
  (8, ⟨"ElbowQueueModel", "opens", "(II)I"⟩, prog_10_method_65_code, 8, some (FieldType.int), 2, false),
  (8, ⟨"ElbowQueueModel", "isSeen", "(III)Z"⟩, prog_10_method_66_code, 6, some (FieldType.boolean), 3, false),
  (8, ⟨"ElbowQueueModel", "seen", "(III)I"⟩, prog_10_method_67_code, 7, some (FieldType.int), 3, false),
  (8, ⟨"ElbowQueueModel", "image", "(I)I"⟩, prog_10_method_68_code, 3, some (FieldType.int), 1, false),
  (8, ⟨"ElbowQueueModel", "restore", "(I)I"⟩, prog_10_method_69_code, 3, some (FieldType.int), 1, false),
  (8, ⟨"ElbowQueueModel", "kind", "(I)I"⟩, prog_10_method_70_code, 2, some (FieldType.int), 1, false),
  (8, ⟨"ElbowQueueModel", "above", "(I)I"⟩, prog_10_method_71_code, 1, some (FieldType.int), 1, true),
  (8, ⟨"ElbowQueueModel", "as", "(II)I"⟩, prog_10_method_72_code, 4, some (FieldType.int), 2, false),
  (8, ⟨"ElbowQueueModel", "note", "(I)V"⟩, prog_10_method_73_code, 2, (none : Option FieldType), 1, false),
  (8, ⟨"ElbowQueueModel", "plainSize", "(I)I"⟩, prog_10_method_74_code, 2, some (FieldType.int), 1, false),
  (8, ⟨"ElbowQueueModel", "firstSize", "(I)I"⟩, prog_10_method_75_code, 2, some (FieldType.int), 1, false),
  (8, ⟨"ElbowQueueModel", "sizeOfFirst", "(I)I"⟩, prog_10_method_76_code, 2, some (FieldType.int), 1, false),
  (8, ⟨"ElbowQueueModel", "believerSize", "(I)I"⟩, prog_10_method_77_code, 3, some (FieldType.int), 1, false),
  (8, ⟨"ElbowQueueModel", "size", "(I)I"⟩, prog_10_method_78_code, 2, some (FieldType.int), 1, false),
  (8, ⟨"ElbowQueueModel", "plainMark", "(I)I"⟩, prog_10_method_79_code, 2, some (FieldType.int), 1, false),
  (8, ⟨"ElbowQueueModel", "believerMark", "(I)I"⟩, prog_10_method_80_code, 2, some (FieldType.int), 1, false),
  (8, ⟨"ElbowQueueModel", "mark", "(I)I"⟩, prog_10_method_81_code, 3, some (FieldType.int), 1, false),
  (8, ⟨"ElbowQueueModel", "ask", "(II)I"⟩, prog_10_method_82_code, 3, some (FieldType.int), 2, false),
  (8, ⟨"ElbowQueueModel", "trace", "(I)I"⟩, prog_10_method_83_code, 2, some (FieldType.int), 1, false),
  (8, ⟨"ElbowQueueModel", "rows", "()I"⟩, prog_10_method_84_code, 3, some (FieldType.int), 0, false),
  (8, ⟨"ElbowQueueModel", "count", "(I)I"⟩, prog_10_method_85_code, 2, some (FieldType.int), 1, false),
  (8, ⟨"ElbowQueueModel", "status", "()I"⟩, prog_10_method_86_code, 1, some (FieldType.int), 0, false)]
def poolF : List (Nat × Nat × Nat) := [(4011, 4, 0), (4014, 4, 1), (4018, 4, 2), (3011, 3, 0), (3015, 3, 1), (3019, 3, 2), (3022, 3, 3), (5009, 5, 0), (6074, 5, 0), (1035, 5, 0), (7262, 5, 0), (5015, 5, 1), (7211, 5, 1), (6107, 5, 1), (5018, 5, 2), (6057, 5, 2), (5021, 5, 3), (6113, 5, 3), (5024, 5, 4), (6035, 5, 4), (3048, 5, 4), (5028, 5, 5), (6041, 5, 5), (3051, 5, 5), (5031, 5, 6), (6048, 5, 6), (3067, 5, 6), (7276, 5, 6), (5034, 5, 7), (6054, 5, 7), (7157, 5, 7), (3064, 5, 7), (6009, 6, 0), (6015, 6, 1), (6019, 6, 2), (6022, 6, 3), (2055, 6, 3), (7178, 6, 3), (6025, 6, 4), (1062, 6, 4), (7208, 6, 4), (6028, 6, 5), (7214, 6, 5), (6031, 6, 6), (7161, 6, 6), (6040, 6, 7), (7196, 6, 7), (6044, 6, 8), (7199, 6, 8), (2108, 6, 8), (6045, 6, 9), (7172, 6, 9), (2093, 6, 9), (6051, 6, 10), (13, 0, 0), (24, 0, 1), (20, 0, 2), (2009, 2, 0), (7254, 2, 0), (2015, 2, 1), (2024, 2, 2), (2027, 2, 3), (2030, 2, 4), (1015, 1, 0), (1019, 1, 1), (1011, 1, 2), (1026, 1, 3), (7010, 7, 0), (7019, 7, 1), (7026, 7, 2), (7030, 7, 3), (7038, 7, 4), (7047, 7, 5), (7056, 7, 6), (7063, 7, 7), (7067, 7, 8), (7071, 7, 9), (7075, 7, 10), (7153, 7, 11), (7135, 7, 12), (7282, 7, 13), (8007, 8, 0), (8013, 8, 1), (8016, 8, 2), (8020, 8, 3), (8129, 8, 4), (8023, 8, 5), (8056, 8, 6), (8026, 8, 7), (8029, 8, 8), (8032, 8, 9), (8035, 8, 10), (8038, 8, 11), (8041, 8, 12), (8083, 8, 13), (8125, 8, 14), (8091, 8, 15), (8097, 8, 16), (8044, 8, 17), (8047, 8, 18), (8050, 8, 19), (8053, 8, 20), (8240, 8, 21)]
def poolM : List (Nat × Nat) := [(7001, 1001), (7009, 44), (4001, 1001), (3003, 1001), (7025, 56), (5003, 1001), (7035, 60), (6003, 1001), (7044, 0), (3, 1001), (17, 60), (7053, 13), (2003, 1001), (2021, 60), (7062, 5), (1003, 1001), (7079, 45), (7083, 46), (7087, 119), (7091, 51), (7095, 120), (7098, 47), (7101, 50), (7105, 52), (7109, 48), (7112, 53), (4021, 1000), (7116, 54), (7119, 117), (7123, 30), (7128, 31), (7131, 34), (3025, 57), (3030, 35), (3040, 39), (3054, 38), (3044, 41), (3074, 42), (3034, 36), (3057, 43), (3060, 58), (3037, 37), (3070, 40), (7140, 33), (7144, 59), (5037, 1000), (7147, 61), (6058, 81), (7150, 2), (7164, 3), (27, 62), (6062, 1003), (6068, 1000), (31, 1003), (7168, 72), (6086, 73), (6082, 63), (6100, 74), (6089, 75), (6093, 76), (6104, 77), (6110, 78), (6096, 79), (6078, 68), (7175, 118), (7182, 63), (7185, 64), (7189, 66), (7193, 75), (7202, 1), (7205, 4), (7217, 65), (7220, 15), (2042, 62), (2046, 14), (2034, 69), (2038, 72), (7224, 67), (7227, 18), (2066, 16), (2050, 17), (2058, 70), (2062, 71), (7230, 22), (2070, 64), (7234, 19), (7238, 20), (7241, 23), (2074, 82), (2078, 83), (6116, 72), (6119, 80), (7244, 24), (2082, 25), (2097, 68), (2100, 26), (2088, 27), (7248, 28), (2104, 67), (7251, 49), (7257, 21), (7260, 62), (7265, 6), (7268, 8), (1031, 9), (1040, 10), (1047, 1002), (1044, 11), (1058, 12), (1067, 63), (7270, 7), (7273, 55), (7279, 32), (8001, 1001), (8067, 125), (8063, 122), (8074, 123), (8078, 124), (8122, 139), (8109, 133), (8094, 131), (8106, 134), (8100, 132), (8115, 138), (8112, 136), (8103, 135), (8119, 137), (8132, 142), (8157, 144), (8164, 154), (8167, 153), (8148, 148), (8135, 146), (8138, 147), (8144, 149), (8151, 151), (8141, 150), (8154, 152), (8171, 143), (8176, 156), (8179, 157), (8184, 159), (8193, 165), (8196, 167), (8199, 168), (8202, 166), (8205, 171), (8208, 175), (8213, 177), (8216, 178), (8223, 182), (8226, 181), (8230, 180), (8233, 185), (8237, 190), (8270, 197), (8255, 145), (8258, 195), (8243, 192), (8249, 194), (8246, 193), (8261, 196), (8252, 200), (8267, 199), (8264, 198), (8273, 203), (7018, 29)]
def poolC : List (Nat × Int) := [(7086, (-1000001)), (7285, (-1000010)), (7127, (-1000003)), (7139, (-1000100)), (7160, (-1000002)), (6077, (-1000000)), (7192, (-1000000)), (2054, (-1000000)), (2092, (-1000001)), (1030, (-1000000)), (8073, (-1000001)), (8060, (-1000010)), (8086, (-1000003)), (8128, (-1000100)), (8161, (-1000002)), (8183, (-1000000))]
def poolL : List (Nat × Int) := [(2086, 10), (8061, 7), (8071, 2), (8081, 255), (8087, 48), (8089, 57), (8162, 20), (8174, 3), (8187, 9), (8189, 5), (8191, 60), (8211, 8), (8219, 16), (8221, 10)]
def poolK : List (Nat × Nat) := [(7007, 4), (4009, 22), (7016, 3), (7023, 5), (7033, 6), (7042, 0), (11, 6), (7051, 2), (2019, 6), (7060, 1)]
def poolS : List (Nat × Nat) := [(1023, 0), (1052, 1), (1055, 2)]
/-! THE LITTLE MACHINE: ints are Int (a step that would leave 32 bits is stuck), an address is a place in a list of shapes, what the cells hold is one function -/
abbrev Vv : Type := Int ⊕ (Int ⊕ Option Nat)
abbrev vI (x : Int) : Vv := .inl x
abbrev vL (x : Int) : Vv := .inr (.inl x)
abbrev vR (r : Option Nat) : Vv := .inr (.inr r)
/-- kind (0..8 a class; 20 int[], 21 boolean[], 22 int[][], 23 Told[], 24 Town[]), length, references -/
abbrev Sh : Type := Nat × Nat × List (Option Nat)
abbrev Mem : Type := Nat → Int → Int
abbrev inR (x : Int) : Prop := -2147483648 ≤ x ∧ x ≤ 2147483647
abbrev inL (x : Int) : Prop := -9223372036854775808 ≤ x ∧ x ≤ 9223372036854775807
def mu (M : Mem) (a : Nat) (i v : Int) : Mem := fun b j => if b = a ∧ j = i then v else M b j
/-- all of one cell 0 -/
def mz (M : Mem) (a : Nat) : Mem := fun b j => if b = a then 0 else M b j
/-- all cells from a on 0 -/
def mzs (M : Mem) (a : Nat) : Mem := fun b j => if a ≤ b then 0 else M b j
def mcp (M : Mem) (a : Nat) (sp : Int) (b : Nat) (dp n : Int) : Mem := fun c j => if c = b ∧ dp ≤ j ∧ j < dp + n then M a (sp + (j - dp)) else M c j
def mOwn (mid : Nat) : Nat := (mT.getD mid (0, ⟨"", "", ""⟩, ⟨#[]⟩, 0, none, 0, false)).1
def mY (mid : Nat) : MethodName := (mT.getD mid (0, ⟨"", "", ""⟩, ⟨#[]⟩, 0, none, 0, false)).2.1
def mB (mid : Nat) : ByteArray := (mT.getD mid (0, ⟨"", "", ""⟩, ⟨#[]⟩, 0, none, 0, false)).2.2.1
def mL (mid : Nat) : Nat := (mT.getD mid (0, ⟨"", "", ""⟩, ⟨#[]⟩, 0, none, 0, false)).2.2.2.1
def mR (mid : Nat) : Option FieldType := (mT.getD mid (0, ⟨"", "", ""⟩, ⟨#[]⟩, 0, none, 0, false)).2.2.2.2.1
def mP (mid : Nat) : Nat := (mT.getD mid (0, ⟨"", "", ""⟩, ⟨#[]⟩, 0, none, 0, false)).2.2.2.2.2.1
def mS (mid : Nat) : Bool := (mT.getD mid (0, ⟨"", "", ""⟩, ⟨#[]⟩, 0, none, 0, false)).2.2.2.2.2.2
def lk {α : Type} : List (Nat × α) → Nat → Option α
  | [], _ => none
  | (k, v) :: r, x => if k = x then some v else lk r x
def sT : Nat → List Int := fun j => match j with
  | 0 => [-1, 0, 1, 1, 0, 4]
  | 1 => [10, 11, 12, 0, 13, 14]
  | _ => [20, 21, 24, 22, 23, 0]
/-- of a class's field: 0 int, 1 a reference, 2 boolean -/
def fT : List (List Nat) := [[1, 0, 0], [1, 1, 1, 0], [1, 1, 1, 1, 1], [1, 0, 0, 0], [1, 1, 1], [1, 1, 1, 1, 0, 0, 0, 0], [1, 1, 1, 1, 1, 1, 0, 0, 0, 0, 0], [1, 1, 1, 1, 1, 1, 1, 1, 1, 1, 1, 2, 0, 0], [1, 1, 1, 1, 0, 1, 0, 1, 1, 1, 1, 1, 1, 0, 0, 0, 0, 1, 1, 1, 1, 0]]
/-- is it final -/
def fF : List (List Bool) := [[true, false, false], [true, true, true, false], [true, true, true, true, true], [true, false, false, false], [true, true, true], [true, true, true, true, false, false, false, false], [true, true, true, true, true, true, false, false, false, false, false], [true, true, true, true, true, true, true, true, true, true, true, false, false, false], [true, true, true, true, false, true, false, true, true, true, true, true, true, false, false, false, false, true, true, true, true, false]]
def fty (ci k : Nat) : Nat := (fT.getD ci []).getD k 9
def ffi (ci k : Nat) : Bool := (fF.getD ci []).getD k true
def fnum (ci : Nat) : Nat := (fT.getD ci []).length
abbrev Lv : Type := List (Option Vv)
abbrev Cfg : Type := Nat × Lv × List Vv × List Sh × Mem
abbrev Act : Type := Cfg ⊕ ((Nat × List Vv × List Vv) ⊕ Option Vv)
def go (pc : Nat) (ls : Lv) (st : List Vv) (S : List Sh) (M : Mem) : Option Act := some (.inl (pc, ls, st, S, M))
def isL (v : Vv) : Bool := match v with
  | .inr (.inl _) => true
  | _ => false
def cat (v : Vv) : Nat := if isL v then 2 else 1
def catS (st : List Vv) : Nat := (st.map cat).sum
def prevL (ls : Lv) (k : Nat) : Bool := match k with
  | 0 => false
  | j + 1 => match ls[j]? with
    | some (some v) => isL v
    | _ => false
def st1 (ls : Lv) (k : Nat) (v : Vv) : Option Lv := if k < ls.length ∧ prevL ls k = false then some (ls.set k (some v)) else none
def st2 (ls : Lv) (k : Nat) (v : Vv) : Option Lv := if k + 1 < ls.length ∧ prevL ls k = false then some ((ls.set k (some v)).set (k + 1) none) else none
def pI (pc : Nat) (ls : Lv) (st : List Vv) (S : List Sh) (M : Mem) (x : Int) : Option Act := if inR x then go pc ls (vI x :: st) S M else none
def pL (pc : Nat) (ls : Lv) (st : List Vv) (S : List Sh) (M : Mem) (x : Int) : Option Act := if inL x then go pc ls (vL x :: st) S M else none
def jmp (pc : Nat) (off : Int) (ls : Lv) (st : List Vv) (S : List Sh) (M : Mem) : Option Act := if 0 ≤ (pc : Int) + off then go ((pc : Int) + off).toNat ls st S M else none
def br (b : Bool) (pc : Nat) (off : Int) (ls : Lv) (st : List Vv) (S : List Sh) (M : Mem) : Option Act := if 0 ≤ (pc : Int) + off then (if b then go ((pc : Int) + off).toNat ls st S M else go (pc + 3) ls st S M) else none
def ldI (pc : Nat) (k : Nat) (ls : Lv) (st : List Vv) (S : List Sh) (M : Mem) : Option Act := match ls[k]? with
  | some (some (.inl x)) => go pc ls (vI x :: st) S M
  | _ => none
def ldL (pc : Nat) (k : Nat) (ls : Lv) (st : List Vv) (S : List Sh) (M : Mem) : Option Act := match ls[k]? with
  | some (some (.inr (.inl x))) => go pc ls (vL x :: st) S M
  | _ => none
def ldA (pc : Nat) (k : Nat) (ls : Lv) (st : List Vv) (S : List Sh) (M : Mem) : Option Act := match ls[k]? with
  | some (some (.inr (.inr (some r)))) => go pc ls (vR (some r) :: st) S M
  | _ => none
def stI (pc : Nat) (k : Nat) (ls : Lv) (st : List Vv) (S : List Sh) (M : Mem) : Option Act := match st with
  | .inl x :: rest => (match st1 ls k (vI x) with
    | some ls' => go pc ls' rest S M
    | none => none)
  | _ => none
def stL (pc : Nat) (k : Nat) (ls : Lv) (st : List Vv) (S : List Sh) (M : Mem) : Option Act := match st with
  | .inr (.inl x) :: rest => (match st2 ls k (vL x) with
    | some ls' => go pc ls' rest S M
    | none => none)
  | _ => none
def stA (pc : Nat) (k : Nat) (ls : Lv) (st : List Vv) (S : List Sh) (M : Mem) : Option Act := match st with
  | .inr (.inr (some r)) :: rest => (match st1 ls k (vR (some r)) with
    | some ls' => go pc ls' rest S M
    | none => none)
  | _ => none
def bI (pc : Nat) (ls : Lv) (st : List Vv) (S : List Sh) (M : Mem) (f : Int → Int → Option Int) : Option Act := match st with
  | .inl y :: .inl x :: rest => (match f x y with
    | some z => pI pc ls rest S M z
    | none => none)
  | _ => none
def bL (pc : Nat) (ls : Lv) (st : List Vv) (S : List Sh) (M : Mem) (f : Int → Int → Option Int) : Option Act := match st with
  | .inr (.inl y) :: .inr (.inl x) :: rest => (match f x y with
    | some z => pL pc ls rest S M z
    | none => none)
  | _ => none
def uI (pc : Nat) (ls : Lv) (st : List Vv) (S : List Sh) (M : Mem) (f : Int → Int) : Option Act := match st with
  | .inl x :: rest => pI pc ls rest S M (f x)
  | _ => none
def cI (pc : Nat) (off : Int) (ls : Lv) (st : List Vv) (S : List Sh) (M : Mem) (f : Int → Int → Bool) : Option Act := match st with
  | .inl y :: .inl x :: rest => br (f x y) pc off ls rest S M
  | _ => none
def c0 (pc : Nat) (off : Int) (ls : Lv) (st : List Vv) (S : List Sh) (M : Mem) (f : Int → Bool) : Option Act := match st with
  | .inl x :: rest => br (f x) pc off ls rest S M
  | _ => none
def aGetf (key pc : Nat) (ls : Lv) (st : List Vv) (S : List Sh) (M : Mem) : Option Act := match st, lk poolF key with
  | .inr (.inr (some a)) :: rest, some (ci, k) => (match S[a]? with
    | some (kd, _, rf) => if kd = ci ∧ k < fnum ci then (if fty ci k = 1 then go (pc + 3) ls (vR (rf.getD k none) :: rest) S M else go (pc + 3) ls (vI (M a k) :: rest) S M) else none
    | none => none)
  | _, _ => none
def aPutf (own : Nat) (ini : Bool) (key pc : Nat) (ls : Lv) (st : List Vv) (S : List Sh) (M : Mem) : Option Act := match st, lk poolF key with
  | v :: .inr (.inr (some a)) :: rest, some (ci, k) => (match S[a]? with
    | some (kd, n, rf) => if kd = ci ∧ k < fnum ci ∧ (ffi ci k = false ∨ (ini = true ∧ own = ci)) then (match v with
        | .inl x => if fty ci k = 0 ∨ (fty ci k = 2 ∧ (x = 0 ∨ x = 1)) then go (pc + 3) ls rest S (mu M a k x) else none
        | .inr (.inr (some r)) => if fty ci k = 1 ∧ k < rf.length then go (pc + 3) ls rest (S.set a (kd, n, rf.set k (some r))) M else none
        | _ => none) else none
    | none => none)
  | _, _ => none
def aIald (pc : Nat) (ls : Lv) (st : List Vv) (S : List Sh) (M : Mem) : Option Act := match st with
  | .inl i :: .inr (.inr (some a)) :: rest => if 0 ≤ i then (if 1000000 ≤ a then (if a < 1000003 then (match (sT (a - 1000000))[i.toNat]? with
      | some x => go (pc + 1) ls (vI x :: rest) S M
      | none => none) else none) else (match S[a]? with
    | some (kd, n, _) => if kd = 20 ∧ i < n then go (pc + 1) ls (vI (M a i) :: rest) S M else none
    | none => none)) else none
  | _ => none
def aIast (pc : Nat) (ls : Lv) (st : List Vv) (S : List Sh) (M : Mem) : Option Act := match st with
  | .inl x :: .inl i :: .inr (.inr (some a)) :: rest => (match S[a]? with
    | some (kd, n, _) => if kd = 20 ∧ 0 ≤ i ∧ i < n then go (pc + 1) ls rest S (mu M a i x) else none
    | none => none)
  | _ => none
def aBald (pc : Nat) (ls : Lv) (st : List Vv) (S : List Sh) (M : Mem) : Option Act := match st with
  | .inl i :: .inr (.inr (some a)) :: rest => (match S[a]? with
    | some (kd, n, _) => if kd = 21 ∧ 0 ≤ i ∧ i < n then go (pc + 1) ls (vI (M a i) :: rest) S M else none
    | none => none)
  | _ => none
def aBast (pc : Nat) (ls : Lv) (st : List Vv) (S : List Sh) (M : Mem) : Option Act := match st with
  | .inl x :: .inl i :: .inr (.inr (some a)) :: rest => (match S[a]? with
    | some (kd, n, _) => if kd = 21 ∧ 0 ≤ i ∧ i < n ∧ (x = 0 ∨ x = 1) then go (pc + 1) ls rest S (mu M a i x) else none
    | none => none)
  | _ => none
def aAald (pc : Nat) (ls : Lv) (st : List Vv) (S : List Sh) (M : Mem) : Option Act := match st with
  | .inl i :: .inr (.inr (some a)) :: rest => (match S[a]? with
    | some (kd, n, rf) => if (kd = 22 ∨ kd = 23 ∨ kd = 24) ∧ 0 ≤ i ∧ i < n then go (pc + 1) ls (vR (rf.getD i.toNat none) :: rest) S M else none
    | none => none)
  | _ => none
def aAast (pc : Nat) (ls : Lv) (st : List Vv) (S : List Sh) (M : Mem) : Option Act := match st with
  | .inr (.inr (some v)) :: .inl i :: .inr (.inr (some a)) :: rest => (match S[a]?, S[v]? with
    | some (kd, n, rf), some (kv, _, _) => if ((kd = 23 ∧ kv = 5) ∨ (kd = 24 ∧ kv = 6)) ∧ 0 ≤ i ∧ i < n ∧ i.toNat < rf.length then go (pc + 1) ls rest (S.set a (kd, n, rf.set i.toNat (some v))) M else none
    | _, _ => none)
  | _ => none
def aAlen (pc : Nat) (ls : Lv) (st : List Vv) (S : List Sh) (M : Mem) : Option Act := match st with
  | .inr (.inr (some a)) :: rest => (match S[a]? with
    | some (kd, n, _) => if 20 ≤ kd ∧ kd ≤ 24 ∧ n < 2147483648 then go (pc + 1) ls (vI n :: rest) S M else none
    | none => none)
  | _ => none
def aNewa (kd pc : Nat) (ls : Lv) (st : List Vv) (S : List Sh) (M : Mem) : Option Act := match st with
  | .inl n :: rest => if 0 ≤ n ∧ n ≤ 10000 ∧ S.length < 1000000 then go (pc + 2) ls (vR (some S.length) :: rest) (S ++ [(kd, n.toNat, [])]) (mzs M S.length) else none
  | _ => none
def aNewq (key pc : Nat) (ls : Lv) (st : List Vv) (S : List Sh) (M : Mem) : Option Act := match st, lk poolK key with
  | .inl n :: rest, some ci => if 0 ≤ n ∧ n ≤ 10000 ∧ (ci = 5 ∨ ci = 6) ∧ S.length < 1000000 then go (pc + 3) ls (vR (some S.length) :: rest) (S ++ [(ci + 18, n.toNat, List.replicate n.toNat none)]) (mzs M S.length) else none
  | _, _ => none
def aNewm (key pc : Nat) (ls : Lv) (st : List Vv) (S : List Sh) (M : Mem) : Option Act := match st, lk poolK key with
  | .inl k :: .inl n :: rest, some ci => if 0 ≤ n ∧ n ≤ 10000 ∧ 0 ≤ k ∧ k ≤ 10000 ∧ ci = 22 ∧ S.length + n.toNat < 1000000 then go (pc + 4) ls (vR (some S.length) :: rest) (S ++ ((22, n.toNat, (List.range n.toNat).map (fun i => some (S.length + 1 + i))) :: List.replicate n.toNat (20, k.toNat, []))) (mzs M S.length) else none
  | _, _ => none
def aNew (key pc : Nat) (ls : Lv) (st : List Vv) (S : List Sh) (M : Mem) : Option Act := match lk poolK key with
  | some ci => if ci < 9 ∧ S.length < 1000000 then go (pc + 3) ls (vR (some S.length) :: st) (S ++ [(ci, fnum ci, List.replicate (fnum ci) none)]) (mzs M S.length) else none
  | none => none
def aInvV (key : Nat) (st : List Vv) (S : List Sh) : Option Act := match lk poolM key with
  | some mid => if mid < 1000 ∧ mS mid = false ∧ (mY mid).name ≠ "<init>" then (match st.drop (mP mid) with
    | .inr (.inr (some a)) :: rest => (match S[a]? with
      | some (kd, _, _) => if kd = mOwn mid ∧ catS rest ≤ 8 ∧ mP mid ≤ st.length then some (.inr (.inl (mid, vR (some a) :: (st.take (mP mid)).reverse, rest))) else none
      | none => none)
    | _ => none) else none
  | none => none
def aInvS (key pc : Nat) (ls : Lv) (st : List Vv) (S : List Sh) (M : Mem) : Option Act := match lk poolM key with
  | some mid => if mid = 1000 then (match st with
      | .inl n :: .inl dp :: .inr (.inr (some b)) :: .inl sp :: .inr (.inr (some a)) :: rest => (match S[a]?, S[b]? with
        | some (ka, na, _), some (kb, nb, _) => if ka = 20 ∧ kb = 20 ∧ 0 ≤ n ∧ 0 ≤ sp ∧ 0 ≤ dp ∧ sp + n ≤ na ∧ dp + n ≤ nb ∧ catS rest ≤ 8 then go (pc + 3) ls rest S (mcp M a sp b dp n) else none
        | _, _ => none)
      | _ => none)
    else if mid = 1002 then (match st with
      | .inl y :: .inl x :: rest => if catS rest ≤ 8 then go (pc + 3) ls (vI (if x < y then y else x) :: rest) S M else none
      | _ => none)
    else if mid = 1003 then (match st with
      | .inl y :: .inl x :: rest => if catS rest ≤ 8 then go (pc + 3) ls (vI (if y < x then y else x) :: rest) S M else none
      | _ => none)
    else if mid < 1000 ∧ mS mid = true ∧ catS (st.drop (mP mid)) ≤ 8 ∧ mP mid ≤ st.length then some (.inr (.inl (mid, (st.take (mP mid)).reverse, st.drop (mP mid)))) else none
  | none => none
def aInvI (key pc : Nat) (ls : Lv) (st : List Vv) (S : List Sh) (M : Mem) : Option Act := match lk poolM key with
  | some mid => if mid = 1001 then (match st with
      | .inr (.inr (some _)) :: rest => if catS rest ≤ 8 then go (pc + 3) ls rest S M else none
      | _ => none)
    else if mid < 1000 ∧ mS mid = false ∧ (mY mid).name = "<init>" ∧ mP mid ≤ st.length then (match st.drop (mP mid) with
      | .inr (.inr (some a)) :: rest => if catS rest ≤ 8 then some (.inr (.inl (mid, vR (some a) :: (st.take (mP mid)).reverse, rest))) else none
      | _ => none) else none
  | none => none
def aIret (rt : Option FieldType) (st : List Vv) : Option Act := match st with
  | [.inl x] => (match rt with
    | some .int => some (.inr (.inr (some (vI x))))
    | some .boolean => if x = 0 ∨ x = 1 then some (.inr (.inr (some (vI x)))) else none
    | _ => none)
  | _ => none
def aLret (rt : Option FieldType) (st : List Vv) : Option Act := match st with
  | [.inr (.inl x)] => (match rt with
    | some .long => some (.inr (.inr (some (vL x))))
    | _ => none)
  | _ => none
def aAret (rt : Option FieldType) (st : List Vv) : Option Act := match st with
  | [.inr (.inr (some x))] => (match rt with
    | some (.object _) => some (.inr (.inr (some (vR (some x)))))
    | _ => none)
  | _ => none
def aVret (rt : Option FieldType) (st : List Vv) : Option Act := match st, rt with
  | [], none => some (.inr (.inr none))
  | _, _ => none
def aTab (dflt lo hi : Int) (offs : Array Int) (pc : Nat) (ls : Lv) (st : List Vv) (S : List Sh) (M : Mem) : Option Act := match st with
  | .inl x :: rest => if x < lo ∨ hi < x then jmp pc dflt ls rest S M else (match offs[(x - lo).toNat]? with
    | some off => jmp pc off ls rest S M
    | none => none)
  | _ => none
def aLook (dflt : Int) (ps : Array (Int × Int)) (pc : Nat) (ls : Lv) (st : List Vv) (S : List Sh) (M : Mem) : Option Act := match st with
  | .inl x :: rest => if (ps.toList.zip (ps.toList.drop 1)).all (fun (a, next) => a.1 < next.1) = true then jmp pc (Op.lookupswitch.offset ps.toList dflt x) ls rest S M else none
  | _ => none
def aDup (pc : Nat) (ls : Lv) (st : List Vv) (S : List Sh) (M : Mem) : Option Act := match st with
  | v :: rest => if isL v then none else go (pc + 1) ls (v :: v :: rest) S M
  | _ => none
def aDup2 (pc : Nat) (ls : Lv) (st : List Vv) (S : List Sh) (M : Mem) : Option Act := match st with
  | v :: w :: rest => if isL v ∨ isL w then none else go (pc + 1) ls (v :: w :: v :: w :: rest) S M
  | _ => none
def aInc (pc : Nat) (k : Nat) (n : Int) (ls : Lv) (st : List Vv) (S : List Sh) (M : Mem) : Option Act := match ls[k]? with
  | some (some (.inl x)) => if inR n ∧ inR (x + n) then (match st1 ls k (vI (x + n)) with
    | some ls' => go (pc + 3) ls' st S M
    | none => none) else none
  | _ => none
def aLcmp (pc : Nat) (ls : Lv) (st : List Vv) (S : List Sh) (M : Mem) : Option Act := match st with
  | .inr (.inl y) :: .inr (.inl x) :: rest => go (pc + 1) ls (vI (if x < y then -1 else if x = y then 0 else 1) :: rest) S M
  | _ => none
def aI2l (pc : Nat) (ls : Lv) (st : List Vv) (S : List Sh) (M : Mem) : Option Act := match st with
  | .inl x :: rest => go (pc + 1) ls (vL x :: rest) S M
  | _ => none
def aL2i (pc : Nat) (ls : Lv) (st : List Vv) (S : List Sh) (M : Mem) : Option Act := match st with
  | .inr (.inl x) :: rest => pI (pc + 1) ls rest S M x
  | _ => none
def aLdc (key pc len : Nat) (ls : Lv) (st : List Vv) (S : List Sh) (M : Mem) : Option Act := match lk poolC key with
  | some x => pI (pc + len) ls st S M x
  | none => none
def aLdc2 (key pc : Nat) (ls : Lv) (st : List Vv) (S : List Sh) (M : Mem) : Option Act := match lk poolL key with
  | some x => pL (pc + 3) ls st S M x
  | none => none
def aGets (key pc : Nat) (ls : Lv) (st : List Vv) (S : List Sh) (M : Mem) : Option Act := match lk poolS key with
  | some j => if j < 3 then go (pc + 3) ls (vR (some (1000000 + j)) :: st) S M else none
  | none => none
def actI (own : Nat) (ini : Bool) (rt : Option FieldType) (i : Instr) (pc : Nat) (ls : Lv) (st : List Vv) (S : List Sh) (M : Mem) : Option Act := match i with
  | .iconst n => pI (pc + 1) ls st S M n
  | .bipush n => if -128 ≤ n ∧ n ≤ 127 then go (pc + 2) ls (vI n :: st) S M else none
  | .sipush n => if -32768 ≤ n ∧ n ≤ 32767 then go (pc + 3) ls (vI n :: st) S M else none
  | .lconst n => go (pc + 1) ls (vL (n.val : Int) :: st) S M
  | .ldc idx => aLdc (own * 1000 + idx) pc 2 ls st S M
  | .ldc_w idx => aLdc (own * 1000 + idx) pc 3 ls st S M
  | .ldc2_w idx => aLdc2 (own * 1000 + idx) pc ls st S M
  | .iload_n k => ldI (pc + 1) k.val ls st S M
  | .iload k => ldI (pc + 2) k ls st S M
  | .lload_n k => ldL (pc + 1) k.val ls st S M
  | .lload k => ldL (pc + 2) k ls st S M
  | .aload_n k => ldA (pc + 1) k.val ls st S M
  | .aload k => ldA (pc + 2) k ls st S M
  | .istore_n k => stI (pc + 1) k.val ls st S M
  | .istore k => stI (pc + 2) k ls st S M
  | .lstore_n k => stL (pc + 1) k.val ls st S M
  | .lstore k => stL (pc + 2) k ls st S M
  | .astore_n k => stA (pc + 1) k.val ls st S M
  | .astore k => stA (pc + 2) k ls st S M
  | .iinc k n => aInc pc k n ls st S M
  | .iadd => bI (pc + 1) ls st S M (fun x y => some (x + y))
  | .isub => bI (pc + 1) ls st S M (fun x y => some (x - y))
  | .imul => bI (pc + 1) ls st S M (fun x y => some (x * y))
  | .idiv => bI (pc + 1) ls st S M (fun x y => if y = 0 then none else some (x.tdiv y))
  | .irem => bI (pc + 1) ls st S M (fun x y => if y = 0 then none else some (x.tmod y))
  | .iand => bI (pc + 1) ls st S M (fun x y => some (Int32.ofInt x &&& Int32.ofInt y).toInt)
  | .ishl => bI (pc + 1) ls st S M (fun x y => some (Int32.ofInt x <<< (Int32.ofInt y &&& 31)).toInt)
  | .ishr => bI (pc + 1) ls st S M (fun x y => some (Int32.ofInt x >>> (Int32.ofInt y &&& 31)).toInt)
  | .ineg => uI (pc + 1) ls st S M (fun x => -x)
  | .i2b => uI (pc + 1) ls st S M (fun x => (Int32.ofInt x).toInt8.toInt32.toInt)
  | .i2s => uI (pc + 1) ls st S M (fun x => (Int32.ofInt x).toInt16.toInt32.toInt)
  | .i2l => aI2l pc ls st S M
  | .l2i => aL2i pc ls st S M
  | .ladd => bL (pc + 1) ls st S M (fun x y => some (x + y))
  | .lmul => bL (pc + 1) ls st S M (fun x y => some (x * y))
  | .ldiv => bL (pc + 1) ls st S M (fun x y => if y = 0 then none else some (x.tdiv y))
  | .lrem => bL (pc + 1) ls st S M (fun x y => if y = 0 then none else some (x.tmod y))
  | .lcmp => aLcmp pc ls st S M
  | .dup => aDup pc ls st S M
  | .dup2 => aDup2 pc ls st S M
  | .goto off => jmp pc off ls st S M
  | .ifCond .eq off => c0 pc off ls st S M (fun x => decide (x = 0))
  | .ifCond .ne off => c0 pc off ls st S M (fun x => decide (¬ x = 0))
  | .ifCond .lt off => c0 pc off ls st S M (fun x => decide (x < 0))
  | .ifCond .ge off => c0 pc off ls st S M (fun x => decide (0 ≤ x))
  | .ifCond .gt off => c0 pc off ls st S M (fun x => decide (0 < x))
  | .ifCond .le off => c0 pc off ls st S M (fun x => decide (x ≤ 0))
  | .if_icmp .eq off => cI pc off ls st S M (fun x y => decide (x = y))
  | .if_icmp .ne off => cI pc off ls st S M (fun x y => decide (¬ x = y))
  | .if_icmp .lt off => cI pc off ls st S M (fun x y => decide (x < y))
  | .if_icmp .ge off => cI pc off ls st S M (fun x y => decide (y ≤ x))
  | .if_icmp .gt off => cI pc off ls st S M (fun x y => decide (y < x))
  | .if_icmp .le off => cI pc off ls st S M (fun x y => decide (x ≤ y))
  | .tableswitch dflt lo hi offs => aTab dflt lo hi offs pc ls st S M
  | .lookupswitch dflt ps => aLook dflt ps pc ls st S M
  | .getfield idx => aGetf (own * 1000 + idx) pc ls st S M
  | .putfield idx => aPutf own ini (own * 1000 + idx) pc ls st S M
  | .getstatic idx => aGets (own * 1000 + idx) pc ls st S M
  | .iaload => aIald pc ls st S M
  | .iastore => aIast pc ls st S M
  | .baload => aBald pc ls st S M
  | .bastore => aBast pc ls st S M
  | .aaload => aAald pc ls st S M
  | .aastore => aAast pc ls st S M
  | .arraylength => aAlen pc ls st S M
  | .newarray .int => aNewa 20 pc ls st S M
  | .newarray .boolean => aNewa 21 pc ls st S M
  | .anewarray idx => aNewq (own * 1000 + idx) pc ls st S M
  | .multianewarray idx 2 => aNewm (own * 1000 + idx) pc ls st S M
  | .new idx => aNew (own * 1000 + idx) pc ls st S M
  | .invokevirtual idx => aInvV (own * 1000 + idx) st S
  | .invokestatic idx => aInvS (own * 1000 + idx) pc ls st S M
  | .invokespecial idx => aInvI (own * 1000 + idx) pc ls st S M
  | .ireturn => aIret rt st
  | .lreturn => aLret rt st
  | .areturn => aAret rt st
  | .return_ => aVret rt st
  | _ => none
def ilen : Instr → Nat := fun i => match i with
  | .bipush _ | .ldc _ | .iload _ | .lload _ | .aload _ | .istore _ | .lstore _ | .astore _ | .newarray _ => 2
  | .sipush _ | .ldc_w _ | .ldc2_w _ | .iinc _ _ | .goto _ | .ifCond _ _ | .if_icmp _ _ | .getfield _ | .putfield _ | .getstatic _ | .anewarray _ | .new _ | .invokevirtual _ | .invokestatic _ | .invokespecial _ => 3
  | .multianewarray _ _ => 4
  | _ => 1
def isSw : Instr → Bool := fun i => match i with
  | .tableswitch _ _ _ _ | .lookupswitch _ _ => true
  | _ => false
def pidx : Instr → Nat := fun i => match i with
  | .ldc k | .ldc_w k | .ldc2_w k | .getfield k | .putfield k | .getstatic k | .anewarray k | .new k | .invokevirtual k | .invokestatic k | .invokespecial k => k
  | .multianewarray k _ => k
  | _ => 0
def ins (mid pc : Nat) : Option Instr := match decode (mB mid) pc with
  | .ok (i, len) => if (len = ilen i ∨ isSw i = true) ∧ pidx i < 1000 then some i else none
  | .error _ => none
def act (mid pc : Nat) (ls : Lv) (st : List Vv) (S : List Sh) (M : Mem) : Option Act := match ins mid pc with
  | some i => actI (mOwn mid) (decide ((mY mid).name = "<init>")) (mR mid) i pc ls st S M
  | none => none
def eLoc : List Vv → Lv
  | [] => []
  | v :: r => if isL v then some v :: none :: eLoc r else some v :: eLoc r
def entryL (mid : Nat) (args : List Vv) : Lv := eLoc args ++ List.replicate (mL mid - (eLoc args).length) none
def run : Nat → Nat → Nat → Nat → Lv → List Vv → List Sh → Mem → Option (Option Vv × List Sh × Mem)
  | 0, _, _, _, _, _, _, _ => none
  | n + 1, d, mid, pc, ls, st, S, M => match act mid pc ls st S M with
    | none => none
    | some (.inl (pc', ls', st', S', M')) => run n d mid pc' ls' st' S' M'
    | some (.inr (.inl (mid', args, rest))) => (match d with
      | 0 => none
      | d' + 1 => if (eLoc args).length ≤ mL mid' then (match run n d' mid' 0 (entryL mid' args) [] S M with
        | none => none
        | some (r, S', M') => run n d mid (pc + 3) ls (r.toList ++ rest) S' M') else none)
    | some (.inr (.inr r)) => some (r, S, M)
end
section
/-! numbers -/
theorem i32_of {x : Int} (h : inR x) : (Int32.ofInt x).toInt = x := Int32.toInt_ofInt_of_le (by have := h.1; omega) (by have := h.2; omega)
theorem i64_of {x : Int} (h : inL x) : (Int64.ofInt x).toInt = x := Int64.toInt_ofInt_of_le (by have := h.1; omega) (by have := h.2; omega)
theorem i32_eq {x y : Int} (hx : inR x) (hy : inR y) : Int32.ofInt x = Int32.ofInt y ↔ x = y := ⟨fun h => by have h2 := congrArg Int32.toInt h; rwa [i32_of hx, i32_of hy] at h2, fun h => by rw [h]⟩
theorem i32_lt {x y : Int} (hx : inR x) (hy : inR y) : Int32.ofInt x < Int32.ofInt y ↔ x < y := by rw [Int32.lt_iff_toInt_lt, i32_of hx, i32_of hy]
theorem i32_le {x y : Int} (hx : inR x) (hy : inR y) : Int32.ofInt x ≤ Int32.ofInt y ↔ x ≤ y := by rw [Int32.le_iff_toInt_le, i32_of hx, i32_of hy]
theorem i64_eq {x y : Int} (hx : inL x) (hy : inL y) : Int64.ofInt x = Int64.ofInt y ↔ x = y := ⟨fun h => by have h2 := congrArg Int64.toInt h; rwa [i64_of hx, i64_of hy] at h2, fun h => by rw [h]⟩
theorem i64_lt {x y : Int} (hx : inL x) (hy : inL y) : Int64.ofInt x < Int64.ofInt y ↔ x < y := by rw [Int64.lt_iff_toInt_lt, i64_of hx, i64_of hy]
theorem inR_0 : inR 0 := by decide
theorem inL_0 : inL 0 := by decide
theorem i32_0 : Int32.ofInt 0 = 0 := rfl
theorem i64_0 : Int64.ofInt 0 = 0 := rfl
theorem inR_toInt (x : Int32) : inR x.toInt := ⟨by have := Int32.le_toInt x; omega, by have := Int32.toInt_lt x; omega⟩
theorem inL_R {x : Int} (h : inR x) : inL x := ⟨by have := h.1; omega, by have := h.2; omega⟩
theorem i32_clamp {x : Int} (h : inR x) : (Int32.ofInt x).toNatClampNeg = x.toNat := Int32.toNatClampNeg_ofInt_of_le (by have := h.1; omega) (by have := h.2; omega)
theorem i32_neg {x : Int} (h : inR x) (h0 : 0 ≤ x) : ¬ Int32.ofInt x < 0 := by
  rw [← i32_0, i32_lt h inR_0]; omega
theorem i32_in {x : Int} {n : Nat} (h : inR x) (h0 : 0 ≤ x) (h1 : x < n) : vp_in (Int32.ofInt x) n := by
  intro q
  rcases q with q | q
  · exact i32_neg h h0 q
  · rw [i32_clamp h] at q; omega
theorem i32_div {x y : Int} (hx : inR x) (hy : inR y) : Int32.ofInt x / Int32.ofInt y = Int32.ofInt (x.tdiv y) := (Int32.ofInt_tdiv (by have := hx.1; show (-2147483648 : Int) ≤ x; omega) (by have := hx.2; show x ≤ (2147483647 : Int); omega) (by have := hy.1; show (-2147483648 : Int) ≤ y; omega) (by have := hy.2; show y ≤ (2147483647 : Int); omega)).symm
theorem i64_div {x y : Int} (hx : inL x) (hy : inL y) : Int64.ofInt x / Int64.ofInt y = Int64.ofInt (x.tdiv y) := (Int64.ofInt_tdiv (by have := hx.1; show (-9223372036854775808 : Int) ≤ x; omega) (by have := hx.2; show x ≤ (9223372036854775807 : Int); omega) (by have := hy.1; show (-9223372036854775808 : Int) ≤ y; omega) (by have := hy.2; show y ≤ (9223372036854775807 : Int); omega)).symm
theorem i32_rem {x y : Int} (hx : inR x) (hy : inR y) : Int32.ofInt x - Int32.ofInt x / Int32.ofInt y * Int32.ofInt y = Int32.ofInt (x.tmod y) := by
  rw [i32_div hx hy, ← Int32.ofInt_mul, ← Int32.ofInt_sub]
  congr 1
  have h := Int.tdiv_mul_add_tmod x y
  omega
theorem i64_rem {x y : Int} (hx : inL x) (hy : inL y) : Int64.ofInt x - Int64.ofInt x / Int64.ofInt y * Int64.ofInt y = Int64.ofInt (x.tmod y) := by
  rw [i64_div hx hy, ← Int64.ofInt_mul, ← Int64.ofInt_sub]
  congr 1
  have h := Int.tdiv_mul_add_tmod x y
  omega
/-! values, worlds -/
def ph (base : Nat) (tt : Nat → Nat) (a : Nat) : Nat := if 1000000 ≤ a then tt (a - 1000000) else base + a
def rv (f : Nat → Nat) : Vv → Value
  | .inl x => .int (Int32.ofInt x)
  | .inr (.inl x) => .long (Int64.ofInt x)
  | .inr (.inr r) => va_rf (r.map f)
def okV : Vv → Prop
  | .inl x => inR x
  | .inr (.inl x) => inL x
  | .inr (.inr _) => True
theorem rv_cat {f : Nat → Nat} (v : Vv) : (rv f v).category = cat v := by
  rcases v with x | x | x
  · rfl
  · rfl
  · cases x <;> rfl
def slotV (f : Nat → Nat) (M : Mem) (a ci : Nat) (rf : List (Option Nat)) (k : Nat) : Value := if fty ci k = 1 then va_rf ((rf.getD k none).map f) else .int (Int32.ofInt (M a (k : Int)))
def cellE (f : Nat → Nat) (cA : Nat → ClassId) (M : Mem) (a : Nat) (h : Sh) : va_E :=
  if h.1 < 9 then .inr (h.1, (List.range (fnum h.1)).map (slotV f M a h.1 h.2.2))
  else if h.1 ≤ 21 then .inl (cA h.1, h.2.1, .inl (fun i => Int32.ofInt (M a (i : Int))))
  else .inl (cA h.1, h.2.1, .inr (.inr (.inr (.inr (fun i => (h.2.2.getD i none).map f)))))
def world (base : Nat) (f : Nat → Nat) (cA : Nat → ClassId) (S : List Sh) (M : Mem) : va_W := S.mapIdx (fun a h => (base + a, cellE f cA M a h))
theorem world_at {base : Nat} {f : Nat → Nat} {cA : Nat → ClassId} {S : List Sh} {M : Mem} {a : Nat} {h : Sh} (hs : S[a]? = some h) : (world base f cA S M)[a]? = some (base + a, cellE f cA M a h) := by
  simp [world, List.getElem?_mapIdx, hs]
theorem cellE_congr {f : Nat → Nat} {cA : Nat → ClassId} {M N : Mem} {a : Nat} {h : Sh} (e : ∀ i, M a i = N a i) : cellE f cA M a h = cellE f cA N a h := by
  have h1 : slotV f M a h.1 h.2.2 = slotV f N a h.1 h.2.2 := by funext k; simp only [slotV, e]
  simp only [cellE, h1, e]
theorem world_set {base : Nat} {f : Nat → Nat} {cA : Nat → ClassId} {S S' : List Sh} {M N : Mem} {a : Nat} {h : Sh} {E : va_E} (ha : S'[a]? = some h) (hE : E = cellE f cA N a h) (ho : ∀ b, b ≠ a → S'[b]? = S[b]?) (hM : ∀ b, b ≠ a → ∀ i, N b i = M b i) (hlt : a < S.length) : (world base f cA S M).set a (base + a, E) = world base f cA S' N := by
  apply List.ext_getElem?
  intro b
  by_cases e : b = a
  · subst e
    rw [List.getElem?_set_self (by simpa [world] using hlt), world_at ha, hE]
  · rw [List.getElem?_set_ne (fun q => e q.symm)]
    simp only [world, List.getElem?_mapIdx, ho b e]
    cases S[b]? with
    | none => rfl
    | some h' => simp only [Option.map_some]; rw [cellE_congr (fun i => hM b e i)]
theorem world_app {base : Nat} {f : Nat → Nat} {cA : Nat → ClassId} {S : List Sh} {M N : Mem} {h : Sh} {E : va_E} (hE : E = cellE f cA N S.length h) (hM : ∀ b, b < S.length → ∀ i, N b i = M b i) : world base f cA S M ++ [(base + S.length, E)] = world base f cA (S ++ [h]) N := by
  apply List.ext_getElem?
  intro b
  have hl : (world base f cA S M).length = S.length := by simp [world]
  by_cases e : b < S.length
  · rw [List.getElem?_append_left (by rw [hl]; exact e)]
    simp only [world, List.getElem?_mapIdx, List.getElem?_append_left e]
    cases S[b]? with
    | none => rfl
    | some h' => simp only [Option.map_some]; rw [cellE_congr (fun i => hM b e i)]
  · rw [List.getElem?_append_right (by rw [hl]; omega), hl]
    by_cases e2 : b = S.length
    · subst e2
      rw [world_at (h := h) (by simp)]
      simp [hE]
    · have h1 : ¬ b - S.length < 1 := by omega
      rw [List.getElem?_eq_none (by simp; omega)]
      symm
      apply List.getElem?_eq_none
      simp [world]
      omega
theorem world_D {base : Nat} {f : Nat → Nat} {cA : Nat → ClassId} {S : List Sh} {M : Mem} : va_D (fun q => base ≤ q) (world base f cA S M) := by
  refine ⟨fun i j p q hi hj hpq => ?_, fun k q hk => ?_⟩
  · simp only [world, List.getElem?_mapIdx, Option.map_eq_some_iff] at hi hj
    obtain ⟨x, -, rfl⟩ := hi
    obtain ⟨y, -, rfl⟩ := hj
    simp only at hpq
    omega
  · simp only [world, List.getElem?_mapIdx, Option.map_eq_some_iff] at hk
    obtain ⟨x, -, rfl⟩ := hk
    exact Nat.le_add_right _ _
def tot (S : List Sh) : Nat := (S.map (fun h => h.2.1)).sum
/-! locals -/
def LR (f : Nat → Nat) (nL : Nat) (mls : Lv) (ls : Array Slot) : Prop := mls.length = nL ∧ ls.size = nL ∧ lv_wf ls ∧ ∀ (i : Nat) (v : Vv), mls[i]? = some (some v) → okV v ∧ ls[i]? = some (.val (rv f v))
def lvOf (f : Nat → Nat) (mls : Lv) : List (Nat × Value) := (List.range mls.length).filterMap (fun i => match mls[i]? with
  | some (some v) => some (i, rv f v)
  | _ => none)
theorem mem_lvOf {f : Nat → Nat} {mls : Lv} {q : Nat × Value} : q ∈ lvOf f mls ↔ ∃ v, mls[q.1]? = some (some v) ∧ q.2 = rv f v := by
  simp only [lvOf, List.mem_filterMap, List.mem_range]
  constructor
  · rintro ⟨i, hi, h⟩
    split at h
    · next v hv =>
      cases h
      exact ⟨v, hv, rfl⟩
    · cases h
  · rintro ⟨v, h, e⟩
    refine ⟨q.1, (List.getElem?_eq_some_iff.mp h).1, ?_⟩
    rw [h]
    simp only [← e]
theorem LR.has {f : Nat → Nat} {nL : Nat} {mls : Lv} {ls : Array Slot} (h : LR f nL mls ls) : lv_has ls nL (lvOf f mls) := by
  refine ⟨h.2.1, h.2.2.1, fun q hq => ?_⟩
  obtain ⟨v, h1, h2⟩ := mem_lvOf.mp hq
  rw [h2]
  exact (h.2.2.2 _ _ h1).2
theorem prevL_ne {mls : Lv} {k j : Nat} {v : Vv} (h : prevL mls k = false) (hj : mls[j]? = some (some v)) (e : j + 1 = k) : isL v = false := by
  subst e
  simp only [prevL, hj] at h
  exact h
theorem LRst1 {f : Nat → Nat} {nL k : Nat} {mls mls' : Lv} {ls ls' : Array Slot} {v : Vv} (h : LR f nL mls ls) (h1 : st1 mls k v = some mls') (hv : okV v)
    (h' : lv_has ls' nL ((k, rv f v) :: (lvOf f mls).filter (fun q => !(q.1 == k) && !(q.1 + 1 == k && q.2.category == 2)))) : LR f nL mls' ls' := by
  unfold st1 at h1
  split at h1
  · next hc =>
    cases h1
    refine ⟨by rw [List.length_set]; exact h.1, h'.1, h'.2.1, fun i w hi => ?_⟩
    by_cases e : i = k
    · subst e
      rw [List.getElem?_set_self hc.1] at hi
      cases hi
      exact ⟨hv, h'.2.2 _ List.mem_cons_self⟩
    · rw [List.getElem?_set_ne (fun q => e q.symm)] at hi
      refine ⟨(h.2.2.2 i w hi).1, h'.2.2 (i, rv f w) (List.mem_cons_of_mem _ (List.mem_filter.mpr ⟨mem_lvOf.mpr ⟨w, hi, rfl⟩, ?_⟩))⟩
      have h2 : ¬ (i + 1 = k ∧ (rv f w).category = 2) := by
        rintro ⟨e1, e2⟩
        rw [rv_cat, cat, prevL_ne hc.2 hi e1] at e2
        simp at e2
      by_cases e1 : i + 1 = k
      · have e2 : (rv f w).category ≠ 2 := fun q => h2 ⟨e1, q⟩
        simp [e, e2]
      · simp [e, e1]
  · cases h1
theorem LRst2 {f : Nat → Nat} {nL k : Nat} {mls mls' : Lv} {ls ls' : Array Slot} {v : Vv} (h : LR f nL mls ls) (h1 : st2 mls k v = some mls') (hv : okV v)
    (h' : lv_has ls' nL ((k, rv f v) :: (lvOf f mls).filter (fun q => !(q.1 == k) && (!(q.1 == k + 1) && !(q.1 + 1 == k && q.2.category == 2))))) : LR f nL mls' ls' := by
  unfold st2 at h1
  split at h1
  · next hc =>
    cases h1
    refine ⟨by rw [List.length_set, List.length_set]; exact h.1, h'.1, h'.2.1, fun i w hi => ?_⟩
    by_cases e0 : i = k + 1
    · subst e0
      rw [List.getElem?_set_self (by rw [List.length_set]; exact hc.1)] at hi
      cases hi
    · rw [List.getElem?_set_ne (fun q => e0 q.symm)] at hi
      by_cases e : i = k
      · subst e
        rw [List.getElem?_set_self (by omega)] at hi
        cases hi
        exact ⟨hv, h'.2.2 _ List.mem_cons_self⟩
      · rw [List.getElem?_set_ne (fun q => e q.symm)] at hi
        refine ⟨(h.2.2.2 i w hi).1, h'.2.2 (i, rv f w) (List.mem_cons_of_mem _ (List.mem_filter.mpr ⟨mem_lvOf.mpr ⟨w, hi, rfl⟩, ?_⟩))⟩
        by_cases e1 : i + 1 = k
        · have e2 : (rv f w).category ≠ 2 := by
            intro q
            rw [rv_cat, cat, prevL_ne hc.2 hi e1] at q
            simp at q
          simp [e, e0, e2]
        · simp [e, e0, e1]
  · cases h1
theorem st1_lt {mls mls' : Lv} {k : Nat} {v : Vv} (h : st1 mls k v = some mls') : k < mls.length := by
  unfold st1 at h
  split at h
  · next hc => exact hc.1
  · cases h
theorem st2_lt {mls mls' : Lv} {k : Nat} {v : Vv} (h : st2 mls k v = some mls') : k + 1 < mls.length := by
  unfold st2 at h
  split at h
  · next hc => exact hc.1
  · cases h
end
section
/-- the heap's side of a state of the little machine -/
def HI (D : va_G) (cA : Nat → ClassId) (base : Nat) (tt : Nat → Nat) (s : State) (MC MS : Nat) (Sf : List Sh) (S : List Sh) (M : Mem) (H : Heap) (locs : List Loc) (cells slots : Nat) : Prop :=
  va_P D vwCl (world base (ph base tt) cA S M) H ∧ va_S (fun q => base ≤ q) s.heap H locs ∧ (∀ a i, inR (M a i)) ∧ S.length ≤ 1000000 ∧ s.heap.size + cells = base + S.length ∧ cells + Sf.length = MC + S.length ∧ slots + tot Sf = MS + tot S
section SIMP
variable {p : Program} {l : Launch} {e : Env} {R : Room} {s : State} {m : MethodId} {args : Array Value} {below : List Frame} {meth : Method} {c : Code} {H : Heap} {locs : List Loc} {cells slots : Nat} {Q : State → Prop}
variable {cc : ByteArray} {pc : Nat} {ls : Array Slot}
variable {D : va_G} {cA : Nat → ClassId} {base : Nat} {tt : Nat → Nat} {nL MC MS : Nat} {Sf S S' : List Sh} {M M' : Mem} {mls mls' : Lv} {mst mst' : List Vv} {pc' : Nat}
def KK (p : Program) (l : Launch) (e : Env) (R : Room) (s : State) (m : MethodId) (args : Array Value) (below : List Frame) (meth : Method) (c : Code) (Q : State → Prop) (D : va_G) (cA : Nat → ClassId) (base : Nat) (tt : Nat → Nat) (nL MC MS : Nat) (Sf : List Sh) (pc : Nat) (mls : Lv) (mst : List Vv) (S : List Sh) (M : Mem) : Prop :=
  ∀ (H : Heap) (locs : List Loc) (cells slots : Nat) (ls : Array Slot), HI D cA base tt s MC MS Sf S M H locs cells slots → LR (ph base tt) nL mls ls → (∀ v ∈ mst, okV v) → W p l e R s m args below meth c H locs cells slots Q (F0 m pc ls (mst.map (rv (ph base tt))))
theorem ok1 {v : Vv} {st : List Vv} (h : ∀ w ∈ st, okV w) (hv : okV v) : ∀ w ∈ v :: st, okV w := fun w hw => by
  rcases List.mem_cons.mp hw with rfl | hw
  · exact hv
  · exact h w hw
theorem okt {v : Vv} {st : List Vv} (h : ∀ w ∈ v :: st, okV w) : ∀ w ∈ st, okV w := fun w hw => h w (List.mem_cons_of_mem _ hw)
theorem okh {v : Vv} {st : List Vv} (h : ∀ w ∈ v :: st, okV w) : okV v := h v List.mem_cons_self
theorem go_inj {pc pc' : Nat} {ls ls' : Lv} {st st' : List Vv} {S S' : List Sh} {M M' : Mem} (h : go pc ls st S M = some (.inl (pc', ls', st', S', M'))) : pc = pc' ∧ ls = ls' ∧ st = st' ∧ S = S' ∧ M = M' := by
  unfold go at h
  simpa using h
theorem pI_inj {pc pc' : Nat} {ls ls' : Lv} {st st' : List Vv} {S S' : List Sh} {M M' : Mem} {x : Int} (h : pI pc ls st S M x = some (.inl (pc', ls', st', S', M'))) : inR x ∧ pc = pc' ∧ ls = ls' ∧ vI x :: st = st' ∧ S = S' ∧ M = M' := by
  unfold pI at h
  split at h
  · next hx => exact ⟨hx, go_inj h⟩
  · cases h
theorem pL_inj {pc pc' : Nat} {ls ls' : Lv} {st st' : List Vv} {S S' : List Sh} {M M' : Mem} {x : Int} (h : pL pc ls st S M x = some (.inl (pc', ls', st', S', M'))) : inL x ∧ pc = pc' ∧ ls = ls' ∧ vL x :: st = st' ∧ S = S' ∧ M = M' := by
  unfold pL at h
  split at h
  · next hx => exact ⟨hx, go_inj h⟩
  · cases h
theorem jmp_inj {pc pc' : Nat} {off : Int} {ls ls' : Lv} {st st' : List Vv} {S S' : List Sh} {M M' : Mem} (h : jmp pc off ls st S M = some (.inl (pc', ls', st', S', M'))) : (pc : Int) + off = (pc' : Int) ∧ ls = ls' ∧ st = st' ∧ S = S' ∧ M = M' := by
  unfold jmp at h
  split at h
  · next hx =>
    obtain ⟨h1, h2⟩ := go_inj h
    exact ⟨by omega, h2⟩
  · cases h
theorem i8_of {n : Int} (h : -128 ≤ n ∧ n ≤ 127) : (Int8.ofInt n).toInt32 = Int32.ofInt n := Int8.toInt32_ofInt (show (-128 : Int) ≤ n from h.1) (show n ≤ (127 : Int) from h.2)
theorem i16_of {n : Int} (h : -32768 ≤ n ∧ n ≤ 32767) : (Int16.ofInt n).toInt32 = Int32.ofInt n := Int16.toInt32_ofInt (show (-32768 : Int) ≤ n from h.1) (show n ≤ (32767 : Int) from h.2)
theorem sp_iconst (hx : p.tables.exec = Jvm.exec) (hb : c.code = cc) {n : Int} (hH : HI D cA base tt s MC MS Sf S M H locs cells slots) (hL : LR (ph base tt) nL mls ls) (hst : ∀ v ∈ mst, okV v) (hd : decode cc pc = .ok (.iconst n, 1)) (ha : pI (pc + 1) mls mst S M n = some (.inl (pc', mls', mst', S', M'))) (K : KK p l e R s m args below meth c Q D cA base tt nL MC MS Sf pc' mls' mst' S' M') : W p l e R s m args below meth c H locs cells slots Q (F0 m pc ls (mst.map (rv (ph base tt)))) := by
  obtain ⟨hr, rfl, rfl, rfl, rfl, rfl⟩ := pI_inj ha
  exact lv_iconst hx hb hd rfl (K H locs cells slots ls hH hL (ok1 hst hr))
theorem sp_bipush (hx : p.tables.exec = Jvm.exec) (hb : c.code = cc) {n : Int} (hH : HI D cA base tt s MC MS Sf S M H locs cells slots) (hL : LR (ph base tt) nL mls ls) (hst : ∀ v ∈ mst, okV v) (hd : decode cc pc = .ok (.bipush n, 2)) (ha : (if -128 ≤ n ∧ n ≤ 127 then go (pc + 2) mls (vI n :: mst) S M else none) = some (.inl (pc', mls', mst', S', M'))) (K : KK p l e R s m args below meth c Q D cA base tt nL MC MS Sf pc' mls' mst' S' M') : W p l e R s m args below meth c H locs cells slots Q (F0 m pc ls (mst.map (rv (ph base tt)))) := by
  split at ha
  · next hr =>
    obtain ⟨rfl, rfl, rfl, rfl, rfl⟩ := go_inj ha
    exact lv_bipush hx hb hd (i8_of hr) (K H locs cells slots ls hH hL (ok1 hst (show inR n from ⟨by omega, by omega⟩)))
  · cases ha
theorem sp_sipush (hx : p.tables.exec = Jvm.exec) (hb : c.code = cc) {n : Int} (hH : HI D cA base tt s MC MS Sf S M H locs cells slots) (hL : LR (ph base tt) nL mls ls) (hst : ∀ v ∈ mst, okV v) (hd : decode cc pc = .ok (.sipush n, 3)) (ha : (if -32768 ≤ n ∧ n ≤ 32767 then go (pc + 3) mls (vI n :: mst) S M else none) = some (.inl (pc', mls', mst', S', M'))) (K : KK p l e R s m args below meth c Q D cA base tt nL MC MS Sf pc' mls' mst' S' M') : W p l e R s m args below meth c H locs cells slots Q (F0 m pc ls (mst.map (rv (ph base tt)))) := by
  split at ha
  · next hr =>
    obtain ⟨rfl, rfl, rfl, rfl, rfl⟩ := go_inj ha
    exact lv_sipush hx hb hd (i16_of hr) (K H locs cells slots ls hH hL (ok1 hst (show inR n from ⟨by omega, by omega⟩)))
  · cases ha
theorem sp_lconst (hx : p.tables.exec = Jvm.exec) (hb : c.code = cc) {n : Fin 2} (hH : HI D cA base tt s MC MS Sf S M H locs cells slots) (hL : LR (ph base tt) nL mls ls) (hst : ∀ v ∈ mst, okV v) (hd : decode cc pc = .ok (.lconst n, 1)) (ha : go (pc + 1) mls (vL (n.val : Int) :: mst) S M = some (.inl (pc', mls', mst', S', M'))) (K : KK p l e R s m args below meth c Q D cA base tt nL MC MS Sf pc' mls' mst' S' M') : W p l e R s m args below meth c H locs cells slots Q (F0 m pc ls (mst.map (rv (ph base tt)))) := by
  obtain ⟨rfl, rfl, rfl, rfl, rfl⟩ := go_inj ha
  exact lv_lconst hx hb hd (Int64.ofInt_eq_ofNat (n := n.val)).symm (K H locs cells slots ls hH hL (ok1 hst (show inL n from ⟨by have := n.2; omega, by have := n.2; omega⟩)))
theorem sp_ldI (hx : p.tables.exec = Jvm.exec) (hb : c.code = cc) {k q : Nat} (hH : HI D cA base tt s MC MS Sf S M H locs cells slots) (hL : LR (ph base tt) nL mls ls) (hst : ∀ v ∈ mst, okV v) (hd : (decode cc pc = .ok (.iload k, 2) ∧ q = pc + 2) ∨ (∃ j : Fin 4, j.val = k ∧ decode cc pc = .ok (.iload_n j, 1) ∧ q = pc + 1)) (ha : ldI q k mls mst S M = some (.inl (pc', mls', mst', S', M'))) (K : KK p l e R s m args below meth c Q D cA base tt nL MC MS Sf pc' mls' mst' S' M') : W p l e R s m args below meth c H locs cells slots Q (F0 m pc ls (mst.map (rv (ph base tt)))) := by
  unfold ldI at ha
  split at ha
  · next x hk =>
    obtain ⟨rfl, rfl, rfl, rfl, rfl⟩ := go_inj ha
    obtain ⟨hr, hg⟩ := hL.2.2.2 _ _ hk
    rcases hd with ⟨hd, rfl⟩ | ⟨j, rfl, hd, rfl⟩
    · exact lv_iload hx hb hd hg (K H locs cells slots ls hH hL (ok1 hst hr))
    · exact lv_iload_n hx hb hd rfl hg (K H locs cells slots ls hH hL (ok1 hst hr))
  · cases ha
theorem sp_ldL (hx : p.tables.exec = Jvm.exec) (hb : c.code = cc) {k q : Nat} (hH : HI D cA base tt s MC MS Sf S M H locs cells slots) (hL : LR (ph base tt) nL mls ls) (hst : ∀ v ∈ mst, okV v) (hd : (decode cc pc = .ok (.lload k, 2) ∧ q = pc + 2) ∨ (∃ j : Fin 4, j.val = k ∧ decode cc pc = .ok (.lload_n j, 1) ∧ q = pc + 1)) (ha : ldL q k mls mst S M = some (.inl (pc', mls', mst', S', M'))) (K : KK p l e R s m args below meth c Q D cA base tt nL MC MS Sf pc' mls' mst' S' M') : W p l e R s m args below meth c H locs cells slots Q (F0 m pc ls (mst.map (rv (ph base tt)))) := by
  unfold ldL at ha
  split at ha
  · next x hk =>
    obtain ⟨rfl, rfl, rfl, rfl, rfl⟩ := go_inj ha
    obtain ⟨hr, hg⟩ := hL.2.2.2 _ _ hk
    rcases hd with ⟨hd, rfl⟩ | ⟨j, rfl, hd, rfl⟩
    · exact lv_lload hx hb hd hg (K H locs cells slots ls hH hL (ok1 hst hr))
    · exact lv_lload_n hx hb hd rfl hg (K H locs cells slots ls hH hL (ok1 hst hr))
  · cases ha
theorem sp_ldA (hx : p.tables.exec = Jvm.exec) (hb : c.code = cc) {k q : Nat} (hH : HI D cA base tt s MC MS Sf S M H locs cells slots) (hL : LR (ph base tt) nL mls ls) (hst : ∀ v ∈ mst, okV v) (hd : (decode cc pc = .ok (.aload k, 2) ∧ q = pc + 2) ∨ (∃ j : Fin 4, j.val = k ∧ decode cc pc = .ok (.aload_n j, 1) ∧ q = pc + 1)) (ha : ldA q k mls mst S M = some (.inl (pc', mls', mst', S', M'))) (K : KK p l e R s m args below meth c Q D cA base tt nL MC MS Sf pc' mls' mst' S' M') : W p l e R s m args below meth c H locs cells slots Q (F0 m pc ls (mst.map (rv (ph base tt)))) := by
  unfold ldA at ha
  split at ha
  · next x hk =>
    obtain ⟨rfl, rfl, rfl, rfl, rfl⟩ := go_inj ha
    obtain ⟨hr, hg⟩ := hL.2.2.2 _ _ hk
    rcases hd with ⟨hd, rfl⟩ | ⟨j, rfl, hd, rfl⟩
    · exact lv_aload hx hb hd hg (K H locs cells slots ls hH hL (ok1 hst hr))
    · exact lv_aload_n hx hb hd rfl hg (K H locs cells slots ls hH hL (ok1 hst hr))
  · cases ha
theorem sp_stI (hx : p.tables.exec = Jvm.exec) (hb : c.code = cc) {k q : Nat} (hH : HI D cA base tt s MC MS Sf S M H locs cells slots) (hL : LR (ph base tt) nL mls ls) (hst : ∀ v ∈ mst, okV v) (hd : (decode cc pc = .ok (.istore k, 2) ∧ q = pc + 2) ∨ (∃ j : Fin 4, j.val = k ∧ decode cc pc = .ok (.istore_n j, 1) ∧ q = pc + 1)) (ha : stI q k mls mst S M = some (.inl (pc', mls', mst', S', M'))) (K : KK p l e R s m args below meth c Q D cA base tt nL MC MS Sf pc' mls' mst' S' M') : W p l e R s m args below meth c H locs cells slots Q (F0 m pc ls (mst.map (rv (ph base tt)))) := by
  unfold stI at ha
  split at ha
  · next x rest =>
    split at ha
    · next ls2 h1 =>
      obtain ⟨rfl, rfl, rfl, rfl, rfl⟩ := go_inj ha
      have hk := st1_lt h1
      rw [hL.1] at hk
      rcases hd with ⟨hd, rfl⟩ | ⟨j, rfl, hd, rfl⟩
      · exact lv_istore hx hb hd hL.has hk rfl (fun ls' h' => K H locs cells slots ls' hH (LRst1 hL h1 (okh hst) h') (okt hst))
      · exact lv_istore_n hx hb hd rfl hL.has hk rfl (fun ls' h' => K H locs cells slots ls' hH (LRst1 hL h1 (okh hst) h') (okt hst))
    · cases ha
  · cases ha
theorem sp_stL (hx : p.tables.exec = Jvm.exec) (hb : c.code = cc) {k q : Nat} (hH : HI D cA base tt s MC MS Sf S M H locs cells slots) (hL : LR (ph base tt) nL mls ls) (hst : ∀ v ∈ mst, okV v) (hd : (decode cc pc = .ok (.lstore k, 2) ∧ q = pc + 2) ∨ (∃ j : Fin 4, j.val = k ∧ decode cc pc = .ok (.lstore_n j, 1) ∧ q = pc + 1)) (ha : stL q k mls mst S M = some (.inl (pc', mls', mst', S', M'))) (K : KK p l e R s m args below meth c Q D cA base tt nL MC MS Sf pc' mls' mst' S' M') : W p l e R s m args below meth c H locs cells slots Q (F0 m pc ls (mst.map (rv (ph base tt)))) := by
  unfold stL at ha
  split at ha
  · next x rest =>
    split at ha
    · next ls2 h1 =>
      obtain ⟨rfl, rfl, rfl, rfl, rfl⟩ := go_inj ha
      have hk := st2_lt h1
      rw [hL.1] at hk
      rcases hd with ⟨hd, rfl⟩ | ⟨j, rfl, hd, rfl⟩
      · exact lv_lstore hx hb hd hL.has hk rfl (fun ls' h' => K H locs cells slots ls' hH (LRst2 hL h1 (okh hst) h') (okt hst))
      · exact lv_lstore_n hx hb hd rfl hL.has hk rfl (fun ls' h' => K H locs cells slots ls' hH (LRst2 hL h1 (okh hst) h') (okt hst))
    · cases ha
  · cases ha
theorem sp_stA (hx : p.tables.exec = Jvm.exec) (hb : c.code = cc) {k q : Nat} (hH : HI D cA base tt s MC MS Sf S M H locs cells slots) (hL : LR (ph base tt) nL mls ls) (hst : ∀ v ∈ mst, okV v) (hd : (decode cc pc = .ok (.astore k, 2) ∧ q = pc + 2) ∨ (∃ j : Fin 4, j.val = k ∧ decode cc pc = .ok (.astore_n j, 1) ∧ q = pc + 1)) (ha : stA q k mls mst S M = some (.inl (pc', mls', mst', S', M'))) (K : KK p l e R s m args below meth c Q D cA base tt nL MC MS Sf pc' mls' mst' S' M') : W p l e R s m args below meth c H locs cells slots Q (F0 m pc ls (mst.map (rv (ph base tt)))) := by
  unfold stA at ha
  split at ha
  · next x rest =>
    split at ha
    · next ls2 h1 =>
      obtain ⟨rfl, rfl, rfl, rfl, rfl⟩ := go_inj ha
      have hk := st1_lt h1
      rw [hL.1] at hk
      rcases hd with ⟨hd, rfl⟩ | ⟨j, rfl, hd, rfl⟩
      · exact lv_astore hx hb hd hL.has hk rfl (fun ls' h' => K H locs cells slots ls' hH (LRst1 hL h1 (okh hst) h') (okt hst))
      · exact lv_astore_n hx hb hd rfl hL.has hk rfl (fun ls' h' => K H locs cells slots ls' hH (LRst1 hL h1 (okh hst) h') (okt hst))
    · cases ha
  · cases ha
theorem sp_iinc (hx : p.tables.exec = Jvm.exec) (hb : c.code = cc) {k : Nat} {n : Int} (hH : HI D cA base tt s MC MS Sf S M H locs cells slots) (hL : LR (ph base tt) nL mls ls) (hst : ∀ v ∈ mst, okV v) (hd : decode cc pc = .ok (.iinc k n, 3)) (ha : aInc pc k n mls mst S M = some (.inl (pc', mls', mst', S', M'))) (K : KK p l e R s m args below meth c Q D cA base tt nL MC MS Sf pc' mls' mst' S' M') : W p l e R s m args below meth c H locs cells slots Q (F0 m pc ls (mst.map (rv (ph base tt)))) := by
  unfold aInc at ha
  split at ha
  · next x hk =>
    split at ha
    · next hr =>
      split at ha
      · next ls2 h1 =>
        obtain ⟨rfl, rfl, rfl, rfl, rfl⟩ := go_inj ha
        have hl := st1_lt h1
        rw [hL.1] at hl
        obtain ⟨j, hj⟩ := List.getElem?_of_mem ((mem_lvOf (f := ph base tt) (q := (k, rv (ph base tt) (vI x)))).mpr ⟨_, hk, rfl⟩)
        exact lv_iinc hx hb hd hL.has hj (Int32.ofInt_add x n).symm hl rfl (fun ls' h' => K H locs cells slots ls' hH (LRst1 hL h1 hr.2 h') hst)
      · cases ha
    · cases ha
  · cases ha
theorem bI_inj {pc pc' : Nat} {ls ls' : Lv} {st st' : List Vv} {S S' : List Sh} {M M' : Mem} {f : Int → Int → Option Int} (h : bI pc ls st S M f = some (.inl (pc', ls', st', S', M'))) : ∃ x y z rest, st = vI y :: vI x :: rest ∧ f x y = some z ∧ inR z ∧ pc = pc' ∧ ls = ls' ∧ vI z :: rest = st' ∧ S = S' ∧ M = M' := by
  unfold bI at h
  split at h
  · next y x rest =>
    split at h
    · next z hz => exact ⟨x, y, z, rest, rfl, hz, pI_inj h⟩
    · cases h
  · cases h
theorem bL_inj {pc pc' : Nat} {ls ls' : Lv} {st st' : List Vv} {S S' : List Sh} {M M' : Mem} {f : Int → Int → Option Int} (h : bL pc ls st S M f = some (.inl (pc', ls', st', S', M'))) : ∃ x y z rest, st = vL y :: vL x :: rest ∧ f x y = some z ∧ inL z ∧ pc = pc' ∧ ls = ls' ∧ vL z :: rest = st' ∧ S = S' ∧ M = M' := by
  unfold bL at h
  split at h
  · next y x rest =>
    split at h
    · next z hz => exact ⟨x, y, z, rest, rfl, hz, pL_inj h⟩
    · cases h
  · cases h
theorem uI_inj {pc pc' : Nat} {ls ls' : Lv} {st st' : List Vv} {S S' : List Sh} {M M' : Mem} {f : Int → Int} (h : uI pc ls st S M f = some (.inl (pc', ls', st', S', M'))) : ∃ x rest, st = vI x :: rest ∧ inR (f x) ∧ pc = pc' ∧ ls = ls' ∧ vI (f x) :: rest = st' ∧ S = S' ∧ M = M' := by
  unfold uI at h
  split at h
  · next x rest => exact ⟨x, rest, rfl, pI_inj h⟩
  · cases h
theorem br_inj {b : Bool} {pc pc' : Nat} {off : Int} {ls ls' : Lv} {st st' : List Vv} {S S' : List Sh} {M M' : Mem} (h : br b pc off ls st S M = some (.inl (pc', ls', st', S', M'))) : ∃ tgt : Nat, (pc : Int) + off = (tgt : Int) ∧ ((b = true ∧ tgt = pc') ∨ (b = false ∧ pc + 3 = pc')) ∧ ls = ls' ∧ st = st' ∧ S = S' ∧ M = M' := by
  unfold br at h
  split at h
  · next h0 =>
    split at h
    · next hb =>
      obtain ⟨h1, h2⟩ := go_inj h
      exact ⟨((pc : Int) + off).toNat, by omega, Or.inl ⟨hb, h1⟩, h2⟩
    · next hb =>
      obtain ⟨h1, h2⟩ := go_inj h
      exact ⟨((pc : Int) + off).toNat, by omega, Or.inr ⟨by simpa using hb, h1⟩, h2⟩
  · cases h
end SIMP
end
section
section SIMP
variable {p : Program} {l : Launch} {e : Env} {R : Room} {s : State} {m : MethodId} {args : Array Value} {below : List Frame} {meth : Method} {c : Code} {H : Heap} {locs : List Loc} {cells slots : Nat} {Q : State → Prop}
variable {cc : ByteArray} {pc : Nat} {ls : Array Slot}
variable {D : va_G} {cA : Nat → ClassId} {base : Nat} {tt : Nat → Nat} {nL MC MS : Nat} {Sf S S' : List Sh} {M M' : Mem} {mls mls' : Lv} {mst mst' : List Vv} {pc' : Nat}
theorem sp_iadd (hx : p.tables.exec = Jvm.exec) (hb : c.code = cc) (hH : HI D cA base tt s MC MS Sf S M H locs cells slots) (hL : LR (ph base tt) nL mls ls) (hst : ∀ v ∈ mst, okV v) (hd : decode cc pc = .ok (.iadd, 1)) (ha : bI (pc + 1) mls mst S M (fun x y => some (x + y)) = some (.inl (pc', mls', mst', S', M'))) (K : KK p l e R s m args below meth c Q D cA base tt nL MC MS Sf pc' mls' mst' S' M') : W p l e R s m args below meth c H locs cells slots Q (F0 m pc ls (mst.map (rv (ph base tt)))) := by
  obtain ⟨x, y, z, rest, rfl, hz, hr, rfl, rfl, rfl, rfl, rfl⟩ := bI_inj ha
  cases hz
  have K1 := K H locs cells slots ls hH hL (ok1 (okt (okt hst)) hr)
  simp only [List.map_cons, rv, Int32.ofInt_add] at K1 ⊢
  exact lv_iadd hx hb hd K1
theorem sp_isub (hx : p.tables.exec = Jvm.exec) (hb : c.code = cc) (hH : HI D cA base tt s MC MS Sf S M H locs cells slots) (hL : LR (ph base tt) nL mls ls) (hst : ∀ v ∈ mst, okV v) (hd : decode cc pc = .ok (.isub, 1)) (ha : bI (pc + 1) mls mst S M (fun x y => some (x - y)) = some (.inl (pc', mls', mst', S', M'))) (K : KK p l e R s m args below meth c Q D cA base tt nL MC MS Sf pc' mls' mst' S' M') : W p l e R s m args below meth c H locs cells slots Q (F0 m pc ls (mst.map (rv (ph base tt)))) := by
  obtain ⟨x, y, z, rest, rfl, hz, hr, rfl, rfl, rfl, rfl, rfl⟩ := bI_inj ha
  cases hz
  have K1 := K H locs cells slots ls hH hL (ok1 (okt (okt hst)) hr)
  simp only [List.map_cons, rv, Int32.ofInt_sub] at K1 ⊢
  exact lv_isub hx hb hd K1
theorem sp_imul (hx : p.tables.exec = Jvm.exec) (hb : c.code = cc) (hH : HI D cA base tt s MC MS Sf S M H locs cells slots) (hL : LR (ph base tt) nL mls ls) (hst : ∀ v ∈ mst, okV v) (hd : decode cc pc = .ok (.imul, 1)) (ha : bI (pc + 1) mls mst S M (fun x y => some (x * y)) = some (.inl (pc', mls', mst', S', M'))) (K : KK p l e R s m args below meth c Q D cA base tt nL MC MS Sf pc' mls' mst' S' M') : W p l e R s m args below meth c H locs cells slots Q (F0 m pc ls (mst.map (rv (ph base tt)))) := by
  obtain ⟨x, y, z, rest, rfl, hz, hr, rfl, rfl, rfl, rfl, rfl⟩ := bI_inj ha
  cases hz
  have K1 := K H locs cells slots ls hH hL (ok1 (okt (okt hst)) hr)
  simp only [List.map_cons, rv, Int32.ofInt_mul] at K1 ⊢
  exact lv_imul hx hb hd K1
theorem sp_idiv (hx : p.tables.exec = Jvm.exec) (hb : c.code = cc) (hH : HI D cA base tt s MC MS Sf S M H locs cells slots) (hL : LR (ph base tt) nL mls ls) (hst : ∀ v ∈ mst, okV v) (hd : decode cc pc = .ok (.idiv, 1)) (ha : bI (pc + 1) mls mst S M (fun x y => if y = 0 then none else some (x.tdiv y)) = some (.inl (pc', mls', mst', S', M'))) (K : KK p l e R s m args below meth c Q D cA base tt nL MC MS Sf pc' mls' mst' S' M') : W p l e R s m args below meth c H locs cells slots Q (F0 m pc ls (mst.map (rv (ph base tt)))) := by
  obtain ⟨x, y, z, rest, rfl, hz, hr, rfl, rfl, rfl, rfl, rfl⟩ := bI_inj ha
  split at hz
  · cases hz
  · next h0 =>
    cases hz
    have hy : inR y := okh hst
    have hx' : inR x := okh (okt hst)
    have K1 := K H locs cells slots ls hH hL (ok1 (okt (okt hst)) hr)
    simp only [List.map_cons, rv] at K1 ⊢
    rw [← i32_div hx' hy] at K1
    exact lv_idiv hx hb hd (fun q => h0 ((i32_eq hy inR_0).mp q)) K1
theorem sp_irem (hx : p.tables.exec = Jvm.exec) (hb : c.code = cc) (hH : HI D cA base tt s MC MS Sf S M H locs cells slots) (hL : LR (ph base tt) nL mls ls) (hst : ∀ v ∈ mst, okV v) (hd : decode cc pc = .ok (.irem, 1)) (ha : bI (pc + 1) mls mst S M (fun x y => if y = 0 then none else some (x.tmod y)) = some (.inl (pc', mls', mst', S', M'))) (K : KK p l e R s m args below meth c Q D cA base tt nL MC MS Sf pc' mls' mst' S' M') : W p l e R s m args below meth c H locs cells slots Q (F0 m pc ls (mst.map (rv (ph base tt)))) := by
  obtain ⟨x, y, z, rest, rfl, hz, hr, rfl, rfl, rfl, rfl, rfl⟩ := bI_inj ha
  split at hz
  · cases hz
  · next h0 =>
    cases hz
    have hy : inR y := okh hst
    have hx' : inR x := okh (okt hst)
    have K1 := K H locs cells slots ls hH hL (ok1 (okt (okt hst)) hr)
    simp only [List.map_cons, rv] at K1 ⊢
    rw [← i32_rem hx' hy] at K1
    exact lv_irem hx hb hd (fun q => h0 ((i32_eq hy inR_0).mp q)) K1
theorem sp_ldiv (hx : p.tables.exec = Jvm.exec) (hb : c.code = cc) (hH : HI D cA base tt s MC MS Sf S M H locs cells slots) (hL : LR (ph base tt) nL mls ls) (hst : ∀ v ∈ mst, okV v) (hd : decode cc pc = .ok (.ldiv, 1)) (ha : bL (pc + 1) mls mst S M (fun x y => if y = 0 then none else some (x.tdiv y)) = some (.inl (pc', mls', mst', S', M'))) (K : KK p l e R s m args below meth c Q D cA base tt nL MC MS Sf pc' mls' mst' S' M') : W p l e R s m args below meth c H locs cells slots Q (F0 m pc ls (mst.map (rv (ph base tt)))) := by
  obtain ⟨x, y, z, rest, rfl, hz, hr, rfl, rfl, rfl, rfl, rfl⟩ := bL_inj ha
  split at hz
  · cases hz
  · next h0 =>
    cases hz
    have hy : inL y := okh hst
    have hx' : inL x := okh (okt hst)
    have K1 := K H locs cells slots ls hH hL (ok1 (okt (okt hst)) hr)
    simp only [List.map_cons, rv] at K1 ⊢
    rw [← i64_div hx' hy] at K1
    exact lv_ldiv hx hb hd (fun q => h0 ((i64_eq hy inL_0).mp q)) K1
theorem sp_lrem (hx : p.tables.exec = Jvm.exec) (hb : c.code = cc) (hH : HI D cA base tt s MC MS Sf S M H locs cells slots) (hL : LR (ph base tt) nL mls ls) (hst : ∀ v ∈ mst, okV v) (hd : decode cc pc = .ok (.lrem, 1)) (ha : bL (pc + 1) mls mst S M (fun x y => if y = 0 then none else some (x.tmod y)) = some (.inl (pc', mls', mst', S', M'))) (K : KK p l e R s m args below meth c Q D cA base tt nL MC MS Sf pc' mls' mst' S' M') : W p l e R s m args below meth c H locs cells slots Q (F0 m pc ls (mst.map (rv (ph base tt)))) := by
  obtain ⟨x, y, z, rest, rfl, hz, hr, rfl, rfl, rfl, rfl, rfl⟩ := bL_inj ha
  split at hz
  · cases hz
  · next h0 =>
    cases hz
    have hy : inL y := okh hst
    have hx' : inL x := okh (okt hst)
    have K1 := K H locs cells slots ls hH hL (ok1 (okt (okt hst)) hr)
    simp only [List.map_cons, rv] at K1 ⊢
    rw [← i64_rem hx' hy] at K1
    exact lv_lrem hx hb hd (fun q => h0 ((i64_eq hy inL_0).mp q)) K1
theorem sp_ladd (hx : p.tables.exec = Jvm.exec) (hb : c.code = cc) (hH : HI D cA base tt s MC MS Sf S M H locs cells slots) (hL : LR (ph base tt) nL mls ls) (hst : ∀ v ∈ mst, okV v) (hd : decode cc pc = .ok (.ladd, 1)) (ha : bL (pc + 1) mls mst S M (fun x y => some (x + y)) = some (.inl (pc', mls', mst', S', M'))) (K : KK p l e R s m args below meth c Q D cA base tt nL MC MS Sf pc' mls' mst' S' M') : W p l e R s m args below meth c H locs cells slots Q (F0 m pc ls (mst.map (rv (ph base tt)))) := by
  obtain ⟨x, y, z, rest, rfl, hz, hr, rfl, rfl, rfl, rfl, rfl⟩ := bL_inj ha
  cases hz
  have K1 := K H locs cells slots ls hH hL (ok1 (okt (okt hst)) hr)
  simp only [List.map_cons, rv, Int64.ofInt_add] at K1 ⊢
  exact lv_ladd hx hb hd K1
theorem sp_lmul (hx : p.tables.exec = Jvm.exec) (hb : c.code = cc) (hH : HI D cA base tt s MC MS Sf S M H locs cells slots) (hL : LR (ph base tt) nL mls ls) (hst : ∀ v ∈ mst, okV v) (hd : decode cc pc = .ok (.lmul, 1)) (ha : bL (pc + 1) mls mst S M (fun x y => some (x * y)) = some (.inl (pc', mls', mst', S', M'))) (K : KK p l e R s m args below meth c Q D cA base tt nL MC MS Sf pc' mls' mst' S' M') : W p l e R s m args below meth c H locs cells slots Q (F0 m pc ls (mst.map (rv (ph base tt)))) := by
  obtain ⟨x, y, z, rest, rfl, hz, hr, rfl, rfl, rfl, rfl, rfl⟩ := bL_inj ha
  cases hz
  have K1 := K H locs cells slots ls hH hL (ok1 (okt (okt hst)) hr)
  simp only [List.map_cons, rv, Int64.ofInt_mul] at K1 ⊢
  exact lv_lmul hx hb hd K1
theorem sp_iand (hx : p.tables.exec = Jvm.exec) (hb : c.code = cc) (hH : HI D cA base tt s MC MS Sf S M H locs cells slots) (hL : LR (ph base tt) nL mls ls) (hst : ∀ v ∈ mst, okV v) (hd : decode cc pc = .ok (.iand, 1)) (ha : bI (pc + 1) mls mst S M (fun x y => some (Int32.ofInt x &&& Int32.ofInt y).toInt) = some (.inl (pc', mls', mst', S', M'))) (K : KK p l e R s m args below meth c Q D cA base tt nL MC MS Sf pc' mls' mst' S' M') : W p l e R s m args below meth c H locs cells slots Q (F0 m pc ls (mst.map (rv (ph base tt)))) := by
  obtain ⟨x, y, z, rest, rfl, hz, hr, rfl, rfl, rfl, rfl, rfl⟩ := bI_inj ha
  cases hz
  have K1 := K H locs cells slots ls hH hL (ok1 (okt (okt hst)) hr)
  simp only [List.map_cons, rv, Int32.ofInt_toInt] at K1 ⊢
  exact lv_iand hx hb hd K1
theorem sp_ishl (hx : p.tables.exec = Jvm.exec) (hb : c.code = cc) (hH : HI D cA base tt s MC MS Sf S M H locs cells slots) (hL : LR (ph base tt) nL mls ls) (hst : ∀ v ∈ mst, okV v) (hd : decode cc pc = .ok (.ishl, 1)) (ha : bI (pc + 1) mls mst S M (fun x y => some (Int32.ofInt x <<< (Int32.ofInt y &&& 31)).toInt) = some (.inl (pc', mls', mst', S', M'))) (K : KK p l e R s m args below meth c Q D cA base tt nL MC MS Sf pc' mls' mst' S' M') : W p l e R s m args below meth c H locs cells slots Q (F0 m pc ls (mst.map (rv (ph base tt)))) := by
  obtain ⟨x, y, z, rest, rfl, hz, hr, rfl, rfl, rfl, rfl, rfl⟩ := bI_inj ha
  cases hz
  have K1 := K H locs cells slots ls hH hL (ok1 (okt (okt hst)) hr)
  simp only [List.map_cons, rv, Int32.ofInt_toInt] at K1 ⊢
  exact lv_ishl hx hb hd K1
theorem sp_ishr (hx : p.tables.exec = Jvm.exec) (hb : c.code = cc) (hH : HI D cA base tt s MC MS Sf S M H locs cells slots) (hL : LR (ph base tt) nL mls ls) (hst : ∀ v ∈ mst, okV v) (hd : decode cc pc = .ok (.ishr, 1)) (ha : bI (pc + 1) mls mst S M (fun x y => some (Int32.ofInt x >>> (Int32.ofInt y &&& 31)).toInt) = some (.inl (pc', mls', mst', S', M'))) (K : KK p l e R s m args below meth c Q D cA base tt nL MC MS Sf pc' mls' mst' S' M') : W p l e R s m args below meth c H locs cells slots Q (F0 m pc ls (mst.map (rv (ph base tt)))) := by
  obtain ⟨x, y, z, rest, rfl, hz, hr, rfl, rfl, rfl, rfl, rfl⟩ := bI_inj ha
  cases hz
  have K1 := K H locs cells slots ls hH hL (ok1 (okt (okt hst)) hr)
  simp only [List.map_cons, rv, Int32.ofInt_toInt] at K1 ⊢
  exact lv_ishr hx hb hd K1
theorem sp_ineg (hx : p.tables.exec = Jvm.exec) (hb : c.code = cc) (hH : HI D cA base tt s MC MS Sf S M H locs cells slots) (hL : LR (ph base tt) nL mls ls) (hst : ∀ v ∈ mst, okV v) (hd : decode cc pc = .ok (.ineg, 1)) (ha : uI (pc + 1) mls mst S M (fun x => -x) = some (.inl (pc', mls', mst', S', M'))) (K : KK p l e R s m args below meth c Q D cA base tt nL MC MS Sf pc' mls' mst' S' M') : W p l e R s m args below meth c H locs cells slots Q (F0 m pc ls (mst.map (rv (ph base tt)))) := by
  obtain ⟨x, rest, rfl, hr, rfl, rfl, rfl, rfl, rfl⟩ := uI_inj ha
  have K1 := K H locs cells slots ls hH hL (ok1 (okt hst) hr)
  simp only [List.map_cons, rv, Int32.ofInt_neg] at K1 ⊢
  exact lv_ineg hx hb hd K1
theorem sp_i2b (hx : p.tables.exec = Jvm.exec) (hb : c.code = cc) (hH : HI D cA base tt s MC MS Sf S M H locs cells slots) (hL : LR (ph base tt) nL mls ls) (hst : ∀ v ∈ mst, okV v) (hd : decode cc pc = .ok (.i2b, 1)) (ha : uI (pc + 1) mls mst S M (fun x => (Int32.ofInt x).toInt8.toInt32.toInt) = some (.inl (pc', mls', mst', S', M'))) (K : KK p l e R s m args below meth c Q D cA base tt nL MC MS Sf pc' mls' mst' S' M') : W p l e R s m args below meth c H locs cells slots Q (F0 m pc ls (mst.map (rv (ph base tt)))) := by
  obtain ⟨x, rest, rfl, hr, rfl, rfl, rfl, rfl, rfl⟩ := uI_inj ha
  have K1 := K H locs cells slots ls hH hL (ok1 (okt hst) hr)
  simp only [List.map_cons, rv, Int32.ofInt_toInt] at K1 ⊢
  exact lv_i2b hx hb hd rfl K1
theorem sp_i2s (hx : p.tables.exec = Jvm.exec) (hb : c.code = cc) (hH : HI D cA base tt s MC MS Sf S M H locs cells slots) (hL : LR (ph base tt) nL mls ls) (hst : ∀ v ∈ mst, okV v) (hd : decode cc pc = .ok (.i2s, 1)) (ha : uI (pc + 1) mls mst S M (fun x => (Int32.ofInt x).toInt16.toInt32.toInt) = some (.inl (pc', mls', mst', S', M'))) (K : KK p l e R s m args below meth c Q D cA base tt nL MC MS Sf pc' mls' mst' S' M') : W p l e R s m args below meth c H locs cells slots Q (F0 m pc ls (mst.map (rv (ph base tt)))) := by
  obtain ⟨x, rest, rfl, hr, rfl, rfl, rfl, rfl, rfl⟩ := uI_inj ha
  have K1 := K H locs cells slots ls hH hL (ok1 (okt hst) hr)
  simp only [List.map_cons, rv, Int32.ofInt_toInt] at K1 ⊢
  exact lv_i2s hx hb hd rfl K1
theorem sp_i2l (hx : p.tables.exec = Jvm.exec) (hb : c.code = cc) (hH : HI D cA base tt s MC MS Sf S M H locs cells slots) (hL : LR (ph base tt) nL mls ls) (hst : ∀ v ∈ mst, okV v) (hd : decode cc pc = .ok (.i2l, 1)) (ha : aI2l pc mls mst S M = some (.inl (pc', mls', mst', S', M'))) (K : KK p l e R s m args below meth c Q D cA base tt nL MC MS Sf pc' mls' mst' S' M') : W p l e R s m args below meth c H locs cells slots Q (F0 m pc ls (mst.map (rv (ph base tt)))) := by
  unfold aI2l at ha
  split at ha
  · next x rest =>
    obtain ⟨rfl, rfl, rfl, rfl, rfl⟩ := go_inj ha
    have hr : inR x := okh hst
    exact lv_i2l hx hb hd (Int64.toInt.inj (by rw [Int32.toInt_toInt64, i32_of hr, i64_of (inL_R hr)])) (K H locs cells slots ls hH hL (ok1 (okt hst) (inL_R hr)))
  · cases ha
theorem sp_l2i (hx : p.tables.exec = Jvm.exec) (hb : c.code = cc) (hH : HI D cA base tt s MC MS Sf S M H locs cells slots) (hL : LR (ph base tt) nL mls ls) (hst : ∀ v ∈ mst, okV v) (hd : decode cc pc = .ok (.l2i, 1)) (ha : aL2i pc mls mst S M = some (.inl (pc', mls', mst', S', M'))) (K : KK p l e R s m args below meth c Q D cA base tt nL MC MS Sf pc' mls' mst' S' M') : W p l e R s m args below meth c H locs cells slots Q (F0 m pc ls (mst.map (rv (ph base tt)))) := by
  unfold aL2i at ha
  split at ha
  · next x rest =>
    obtain ⟨hr, rfl, rfl, rfl, rfl, rfl⟩ := pI_inj ha
    have hl : inL x := okh hst
    have h1 : (Int64.ofInt x).toInt32 = Int32.ofInt x := Int32.toInt.inj (by rw [Int64.toInt_toInt32, i64_of hl, i32_of hr]; have := hr.1; have := hr.2; rw [Int.bmod_eq_of_le] <;> omega)
    exact lv_l2i hx hb hd h1 (K H locs cells slots ls hH hL (ok1 (okt hst) hr))
  · cases ha
theorem lgc {x y : Int} (hx : inL x) (hy : inL y) : lg_cmp (Int64.ofInt x) (Int64.ofInt y) = Int32.ofInt (if x < y then -1 else if x = y then 0 else 1) := by
  unfold lg_cmp
  by_cases h1 : x < y
  · have h2 : ¬ Int64.ofInt y < Int64.ofInt x := by rw [i64_lt hy hx]; omega
    have h3 : Int64.ofInt x < Int64.ofInt y := by rw [i64_lt hx hy]; omega
    have h4 : ¬ Int64.ofInt x = Int64.ofInt y := by rw [i64_eq hx hy]; omega
    simp [h1, h2, h3, h4] <;> rfl
  · by_cases h5 : x = y
    · subst h5
      have h2 : ¬ Int64.ofInt x < Int64.ofInt x := by rw [i64_lt hx hx]; omega
      simp [h2] <;> rfl
    · have h2 : Int64.ofInt y < Int64.ofInt x := by rw [i64_lt hy hx]; omega
      simp [h1, h2, h5] <;> rfl
theorem sp_lcmp (hx : p.tables.exec = Jvm.exec) (hb : c.code = cc) (hH : HI D cA base tt s MC MS Sf S M H locs cells slots) (hL : LR (ph base tt) nL mls ls) (hst : ∀ v ∈ mst, okV v) (hd : decode cc pc = .ok (.lcmp, 1)) (ha : aLcmp pc mls mst S M = some (.inl (pc', mls', mst', S', M'))) (K : KK p l e R s m args below meth c Q D cA base tt nL MC MS Sf pc' mls' mst' S' M') : W p l e R s m args below meth c H locs cells slots Q (F0 m pc ls (mst.map (rv (ph base tt)))) := by
  unfold aLcmp at ha
  split at ha
  · next y x rest =>
    obtain ⟨rfl, rfl, rfl, rfl, rfl⟩ := go_inj ha
    have hy : inL y := okh hst
    have hx' : inL x := okh (okt hst)
    have hr : inR (if x < y then -1 else if x = y then 0 else 1) := by
      split
      · decide
      · split <;> decide
    have K1 := K H locs cells slots ls hH hL (ok1 (okt (okt hst)) hr)
    simp only [List.map_cons, rv] at K1 ⊢
    rw [← lgc hx' hy] at K1
    exact W.lcmp hx hb hd K1
  · cases ha
theorem sp_dup (hx : p.tables.exec = Jvm.exec) (hb : c.code = cc) (hH : HI D cA base tt s MC MS Sf S M H locs cells slots) (hL : LR (ph base tt) nL mls ls) (hst : ∀ v ∈ mst, okV v) (hd : decode cc pc = .ok (.dup, 1)) (ha : aDup pc mls mst S M = some (.inl (pc', mls', mst', S', M'))) (K : KK p l e R s m args below meth c Q D cA base tt nL MC MS Sf pc' mls' mst' S' M') : W p l e R s m args below meth c H locs cells slots Q (F0 m pc ls (mst.map (rv (ph base tt)))) := by
  unfold aDup at ha
  split at ha
  · next v rest =>
    split at ha
    · cases ha
    · next hv =>
      obtain ⟨rfl, rfl, rfl, rfl, rfl⟩ := go_inj ha
      exact lv_dup hx hb hd (by rw [rv_cat, cat]; simp [hv]) (K H locs cells slots ls hH hL (ok1 hst (okh hst)))
  · cases ha
theorem sp_dup2 (hx : p.tables.exec = Jvm.exec) (hb : c.code = cc) (hH : HI D cA base tt s MC MS Sf S M H locs cells slots) (hL : LR (ph base tt) nL mls ls) (hst : ∀ v ∈ mst, okV v) (hd : decode cc pc = .ok (.dup2, 1)) (ha : aDup2 pc mls mst S M = some (.inl (pc', mls', mst', S', M'))) (K : KK p l e R s m args below meth c Q D cA base tt nL MC MS Sf pc' mls' mst' S' M') : W p l e R s m args below meth c H locs cells slots Q (F0 m pc ls (mst.map (rv (ph base tt)))) := by
  unfold aDup2 at ha
  split at ha
  · next v w rest =>
    split at ha
    · cases ha
    · next hv =>
      obtain ⟨rfl, rfl, rfl, rfl, rfl⟩ := go_inj ha
      exact lv_dup2_11 hx hb hd (by rw [rv_cat, cat, Bool.eq_false_iff.mpr (fun q => hv (Or.inl q))]; rfl) (by rw [rv_cat, cat, Bool.eq_false_iff.mpr (fun q => hv (Or.inr q))]; rfl) (K H locs cells slots ls hH hL (ok1 (ok1 hst (okh (okt hst))) (okh hst)))
  · cases ha
theorem sp_goto (hx : p.tables.exec = Jvm.exec) (hb : c.code = cc) {off : Int} (hH : HI D cA base tt s MC MS Sf S M H locs cells slots) (hL : LR (ph base tt) nL mls ls) (hst : ∀ v ∈ mst, okV v) (hd : decode cc pc = .ok (.goto off, 3)) (ha : jmp pc off mls mst S M = some (.inl (pc', mls', mst', S', M'))) (K : KK p l e R s m args below meth c Q D cA base tt nL MC MS Sf pc' mls' mst' S' M') : W p l e R s m args below meth c H locs cells slots Q (F0 m pc ls (mst.map (rv (ph base tt)))) := by
  obtain ⟨ht, rfl, rfl, rfl, rfl⟩ := jmp_inj ha
  exact lv_goto hx hb hd ht (K H locs cells slots ls hH hL hst)
theorem sp_if_eq (hx : p.tables.exec = Jvm.exec) (hb : c.code = cc) {off : Int} (hH : HI D cA base tt s MC MS Sf S M H locs cells slots) (hL : LR (ph base tt) nL mls ls) (hst : ∀ v ∈ mst, okV v) (hd : decode cc pc = .ok (.ifCond .eq off, 3)) (ha : c0 pc off mls mst S M (fun x => decide (x = 0)) = some (.inl (pc', mls', mst', S', M'))) (K : KK p l e R s m args below meth c Q D cA base tt nL MC MS Sf pc' mls' mst' S' M') : W p l e R s m args below meth c H locs cells slots Q (F0 m pc ls (mst.map (rv (ph base tt)))) := by
  unfold c0 at ha
  split at ha
  · next x rest =>
    obtain ⟨tgt, ht, hc, rfl, rfl, rfl, rfl⟩ := br_inj ha
    have hr : inR x := okh hst
    rcases hc with ⟨hc, rfl⟩ | ⟨hc, rfl⟩
    · exact lv_if_eq hx hb hd ht (fun _ => K H locs cells slots ls hH hL (okt hst)) (fun q => absurd ((i32_eq hr inR_0).mpr (of_decide_eq_true hc)) q)
    · exact lv_if_eq hx hb hd ht (fun q => absurd ((i32_eq hr inR_0).mp q) (of_decide_eq_false hc)) (fun _ => K H locs cells slots ls hH hL (okt hst))
  · cases ha
theorem sp_icmp_eq (hx : p.tables.exec = Jvm.exec) (hb : c.code = cc) {off : Int} (hH : HI D cA base tt s MC MS Sf S M H locs cells slots) (hL : LR (ph base tt) nL mls ls) (hst : ∀ v ∈ mst, okV v) (hd : decode cc pc = .ok (.if_icmp .eq off, 3)) (ha : cI pc off mls mst S M (fun x y => decide (x = y)) = some (.inl (pc', mls', mst', S', M'))) (K : KK p l e R s m args below meth c Q D cA base tt nL MC MS Sf pc' mls' mst' S' M') : W p l e R s m args below meth c H locs cells slots Q (F0 m pc ls (mst.map (rv (ph base tt)))) := by
  unfold cI at ha
  split at ha
  · next y x rest =>
    obtain ⟨tgt, ht, hc, rfl, rfl, rfl, rfl⟩ := br_inj ha
    have hy : inR y := okh hst
    have hx' : inR x := okh (okt hst)
    rcases hc with ⟨hc, rfl⟩ | ⟨hc, rfl⟩
    · exact lv_icmp_eq hx hb hd ht (fun _ => K H locs cells slots ls hH hL (okt (okt hst))) (fun q => absurd ((i32_eq hx' hy).mpr (of_decide_eq_true hc)) q)
    · exact lv_icmp_eq hx hb hd ht (fun q => absurd ((i32_eq hx' hy).mp q) (of_decide_eq_false hc)) (fun _ => K H locs cells slots ls hH hL (okt (okt hst)))
  · cases ha
theorem sp_if_ne (hx : p.tables.exec = Jvm.exec) (hb : c.code = cc) {off : Int} (hH : HI D cA base tt s MC MS Sf S M H locs cells slots) (hL : LR (ph base tt) nL mls ls) (hst : ∀ v ∈ mst, okV v) (hd : decode cc pc = .ok (.ifCond .ne off, 3)) (ha : c0 pc off mls mst S M (fun x => decide (¬ x = 0)) = some (.inl (pc', mls', mst', S', M'))) (K : KK p l e R s m args below meth c Q D cA base tt nL MC MS Sf pc' mls' mst' S' M') : W p l e R s m args below meth c H locs cells slots Q (F0 m pc ls (mst.map (rv (ph base tt)))) := by
  unfold c0 at ha
  split at ha
  · next x rest =>
    obtain ⟨tgt, ht, hc, rfl, rfl, rfl, rfl⟩ := br_inj ha
    have hr : inR x := okh hst
    rcases hc with ⟨hc, rfl⟩ | ⟨hc, rfl⟩
    · exact lv_if_ne hx hb hd ht (fun _ => K H locs cells slots ls hH hL (okt hst)) (fun q => absurd ((i32_eq hr inR_0).mp q) (of_decide_eq_true hc))
    · exact lv_if_ne hx hb hd ht (fun q => absurd ((i32_eq hr inR_0).mpr (Decidable.not_not.mp (of_decide_eq_false hc))) q) (fun _ => K H locs cells slots ls hH hL (okt hst))
  · cases ha
theorem sp_icmp_ne (hx : p.tables.exec = Jvm.exec) (hb : c.code = cc) {off : Int} (hH : HI D cA base tt s MC MS Sf S M H locs cells slots) (hL : LR (ph base tt) nL mls ls) (hst : ∀ v ∈ mst, okV v) (hd : decode cc pc = .ok (.if_icmp .ne off, 3)) (ha : cI pc off mls mst S M (fun x y => decide (¬ x = y)) = some (.inl (pc', mls', mst', S', M'))) (K : KK p l e R s m args below meth c Q D cA base tt nL MC MS Sf pc' mls' mst' S' M') : W p l e R s m args below meth c H locs cells slots Q (F0 m pc ls (mst.map (rv (ph base tt)))) := by
  unfold cI at ha
  split at ha
  · next y x rest =>
    obtain ⟨tgt, ht, hc, rfl, rfl, rfl, rfl⟩ := br_inj ha
    have hy : inR y := okh hst
    have hx' : inR x := okh (okt hst)
    rcases hc with ⟨hc, rfl⟩ | ⟨hc, rfl⟩
    · exact lv_icmp_ne hx hb hd ht (fun _ => K H locs cells slots ls hH hL (okt (okt hst))) (fun q => absurd ((i32_eq hx' hy).mp q) (of_decide_eq_true hc))
    · exact lv_icmp_ne hx hb hd ht (fun q => absurd ((i32_eq hx' hy).mpr (Decidable.not_not.mp (of_decide_eq_false hc))) q) (fun _ => K H locs cells slots ls hH hL (okt (okt hst)))
  · cases ha
theorem sp_if_lt (hx : p.tables.exec = Jvm.exec) (hb : c.code = cc) {off : Int} (hH : HI D cA base tt s MC MS Sf S M H locs cells slots) (hL : LR (ph base tt) nL mls ls) (hst : ∀ v ∈ mst, okV v) (hd : decode cc pc = .ok (.ifCond .lt off, 3)) (ha : c0 pc off mls mst S M (fun x => decide (x < 0)) = some (.inl (pc', mls', mst', S', M'))) (K : KK p l e R s m args below meth c Q D cA base tt nL MC MS Sf pc' mls' mst' S' M') : W p l e R s m args below meth c H locs cells slots Q (F0 m pc ls (mst.map (rv (ph base tt)))) := by
  unfold c0 at ha
  split at ha
  · next x rest =>
    obtain ⟨tgt, ht, hc, rfl, rfl, rfl, rfl⟩ := br_inj ha
    have hr : inR x := okh hst
    rcases hc with ⟨hc, rfl⟩ | ⟨hc, rfl⟩
    · exact lv_if_lt hx hb hd ht (fun _ => K H locs cells slots ls hH hL (okt hst)) (fun q => absurd ((i32_lt hr inR_0).mpr (of_decide_eq_true hc)) q)
    · exact lv_if_lt hx hb hd ht (fun q => absurd ((i32_lt hr inR_0).mp q) (of_decide_eq_false hc)) (fun _ => K H locs cells slots ls hH hL (okt hst))
  · cases ha
theorem sp_icmp_lt (hx : p.tables.exec = Jvm.exec) (hb : c.code = cc) {off : Int} (hH : HI D cA base tt s MC MS Sf S M H locs cells slots) (hL : LR (ph base tt) nL mls ls) (hst : ∀ v ∈ mst, okV v) (hd : decode cc pc = .ok (.if_icmp .lt off, 3)) (ha : cI pc off mls mst S M (fun x y => decide (x < y)) = some (.inl (pc', mls', mst', S', M'))) (K : KK p l e R s m args below meth c Q D cA base tt nL MC MS Sf pc' mls' mst' S' M') : W p l e R s m args below meth c H locs cells slots Q (F0 m pc ls (mst.map (rv (ph base tt)))) := by
  unfold cI at ha
  split at ha
  · next y x rest =>
    obtain ⟨tgt, ht, hc, rfl, rfl, rfl, rfl⟩ := br_inj ha
    have hy : inR y := okh hst
    have hx' : inR x := okh (okt hst)
    rcases hc with ⟨hc, rfl⟩ | ⟨hc, rfl⟩
    · exact lv_icmp_lt hx hb hd ht (fun _ => K H locs cells slots ls hH hL (okt (okt hst))) (fun q => absurd ((i32_lt hx' hy).mpr (of_decide_eq_true hc)) q)
    · exact lv_icmp_lt hx hb hd ht (fun q => absurd ((i32_lt hx' hy).mp q) (of_decide_eq_false hc)) (fun _ => K H locs cells slots ls hH hL (okt (okt hst)))
  · cases ha
theorem sp_if_ge (hx : p.tables.exec = Jvm.exec) (hb : c.code = cc) {off : Int} (hH : HI D cA base tt s MC MS Sf S M H locs cells slots) (hL : LR (ph base tt) nL mls ls) (hst : ∀ v ∈ mst, okV v) (hd : decode cc pc = .ok (.ifCond .ge off, 3)) (ha : c0 pc off mls mst S M (fun x => decide (0 ≤ x)) = some (.inl (pc', mls', mst', S', M'))) (K : KK p l e R s m args below meth c Q D cA base tt nL MC MS Sf pc' mls' mst' S' M') : W p l e R s m args below meth c H locs cells slots Q (F0 m pc ls (mst.map (rv (ph base tt)))) := by
  unfold c0 at ha
  split at ha
  · next x rest =>
    obtain ⟨tgt, ht, hc, rfl, rfl, rfl, rfl⟩ := br_inj ha
    have hr : inR x := okh hst
    rcases hc with ⟨hc, rfl⟩ | ⟨hc, rfl⟩
    · exact lv_if_ge hx hb hd ht (fun _ => K H locs cells slots ls hH hL (okt hst)) (fun q => absurd ((i32_le inR_0 hr).mpr (of_decide_eq_true hc)) q)
    · exact lv_if_ge hx hb hd ht (fun q => absurd ((i32_le inR_0 hr).mp q) (of_decide_eq_false hc)) (fun _ => K H locs cells slots ls hH hL (okt hst))
  · cases ha
theorem sp_icmp_ge (hx : p.tables.exec = Jvm.exec) (hb : c.code = cc) {off : Int} (hH : HI D cA base tt s MC MS Sf S M H locs cells slots) (hL : LR (ph base tt) nL mls ls) (hst : ∀ v ∈ mst, okV v) (hd : decode cc pc = .ok (.if_icmp .ge off, 3)) (ha : cI pc off mls mst S M (fun x y => decide (y ≤ x)) = some (.inl (pc', mls', mst', S', M'))) (K : KK p l e R s m args below meth c Q D cA base tt nL MC MS Sf pc' mls' mst' S' M') : W p l e R s m args below meth c H locs cells slots Q (F0 m pc ls (mst.map (rv (ph base tt)))) := by
  unfold cI at ha
  split at ha
  · next y x rest =>
    obtain ⟨tgt, ht, hc, rfl, rfl, rfl, rfl⟩ := br_inj ha
    have hy : inR y := okh hst
    have hx' : inR x := okh (okt hst)
    rcases hc with ⟨hc, rfl⟩ | ⟨hc, rfl⟩
    · exact lv_icmp_ge hx hb hd ht (fun _ => K H locs cells slots ls hH hL (okt (okt hst))) (fun q => absurd ((i32_le hy hx').mpr (of_decide_eq_true hc)) q)
    · exact lv_icmp_ge hx hb hd ht (fun q => absurd ((i32_le hy hx').mp q) (of_decide_eq_false hc)) (fun _ => K H locs cells slots ls hH hL (okt (okt hst)))
  · cases ha
theorem sp_if_gt (hx : p.tables.exec = Jvm.exec) (hb : c.code = cc) {off : Int} (hH : HI D cA base tt s MC MS Sf S M H locs cells slots) (hL : LR (ph base tt) nL mls ls) (hst : ∀ v ∈ mst, okV v) (hd : decode cc pc = .ok (.ifCond .gt off, 3)) (ha : c0 pc off mls mst S M (fun x => decide (0 < x)) = some (.inl (pc', mls', mst', S', M'))) (K : KK p l e R s m args below meth c Q D cA base tt nL MC MS Sf pc' mls' mst' S' M') : W p l e R s m args below meth c H locs cells slots Q (F0 m pc ls (mst.map (rv (ph base tt)))) := by
  unfold c0 at ha
  split at ha
  · next x rest =>
    obtain ⟨tgt, ht, hc, rfl, rfl, rfl, rfl⟩ := br_inj ha
    have hr : inR x := okh hst
    rcases hc with ⟨hc, rfl⟩ | ⟨hc, rfl⟩
    · exact lv_if_gt hx hb hd ht (fun _ => K H locs cells slots ls hH hL (okt hst)) (fun q => absurd ((i32_lt inR_0 hr).mpr (of_decide_eq_true hc)) q)
    · exact lv_if_gt hx hb hd ht (fun q => absurd ((i32_lt inR_0 hr).mp q) (of_decide_eq_false hc)) (fun _ => K H locs cells slots ls hH hL (okt hst))
  · cases ha
theorem sp_icmp_gt (hx : p.tables.exec = Jvm.exec) (hb : c.code = cc) {off : Int} (hH : HI D cA base tt s MC MS Sf S M H locs cells slots) (hL : LR (ph base tt) nL mls ls) (hst : ∀ v ∈ mst, okV v) (hd : decode cc pc = .ok (.if_icmp .gt off, 3)) (ha : cI pc off mls mst S M (fun x y => decide (y < x)) = some (.inl (pc', mls', mst', S', M'))) (K : KK p l e R s m args below meth c Q D cA base tt nL MC MS Sf pc' mls' mst' S' M') : W p l e R s m args below meth c H locs cells slots Q (F0 m pc ls (mst.map (rv (ph base tt)))) := by
  unfold cI at ha
  split at ha
  · next y x rest =>
    obtain ⟨tgt, ht, hc, rfl, rfl, rfl, rfl⟩ := br_inj ha
    have hy : inR y := okh hst
    have hx' : inR x := okh (okt hst)
    rcases hc with ⟨hc, rfl⟩ | ⟨hc, rfl⟩
    · exact lv_icmp_gt hx hb hd ht (fun _ => K H locs cells slots ls hH hL (okt (okt hst))) (fun q => absurd ((i32_lt hy hx').mpr (of_decide_eq_true hc)) q)
    · exact lv_icmp_gt hx hb hd ht (fun q => absurd ((i32_lt hy hx').mp q) (of_decide_eq_false hc)) (fun _ => K H locs cells slots ls hH hL (okt (okt hst)))
  · cases ha
theorem sp_if_le (hx : p.tables.exec = Jvm.exec) (hb : c.code = cc) {off : Int} (hH : HI D cA base tt s MC MS Sf S M H locs cells slots) (hL : LR (ph base tt) nL mls ls) (hst : ∀ v ∈ mst, okV v) (hd : decode cc pc = .ok (.ifCond .le off, 3)) (ha : c0 pc off mls mst S M (fun x => decide (x ≤ 0)) = some (.inl (pc', mls', mst', S', M'))) (K : KK p l e R s m args below meth c Q D cA base tt nL MC MS Sf pc' mls' mst' S' M') : W p l e R s m args below meth c H locs cells slots Q (F0 m pc ls (mst.map (rv (ph base tt)))) := by
  unfold c0 at ha
  split at ha
  · next x rest =>
    obtain ⟨tgt, ht, hc, rfl, rfl, rfl, rfl⟩ := br_inj ha
    have hr : inR x := okh hst
    rcases hc with ⟨hc, rfl⟩ | ⟨hc, rfl⟩
    · exact lv_if_le hx hb hd ht (fun _ => K H locs cells slots ls hH hL (okt hst)) (fun q => absurd ((i32_le hr inR_0).mpr (of_decide_eq_true hc)) q)
    · exact lv_if_le hx hb hd ht (fun q => absurd ((i32_le hr inR_0).mp q) (of_decide_eq_false hc)) (fun _ => K H locs cells slots ls hH hL (okt hst))
  · cases ha
theorem sp_icmp_le (hx : p.tables.exec = Jvm.exec) (hb : c.code = cc) {off : Int} (hH : HI D cA base tt s MC MS Sf S M H locs cells slots) (hL : LR (ph base tt) nL mls ls) (hst : ∀ v ∈ mst, okV v) (hd : decode cc pc = .ok (.if_icmp .le off, 3)) (ha : cI pc off mls mst S M (fun x y => decide (x ≤ y)) = some (.inl (pc', mls', mst', S', M'))) (K : KK p l e R s m args below meth c Q D cA base tt nL MC MS Sf pc' mls' mst' S' M') : W p l e R s m args below meth c H locs cells slots Q (F0 m pc ls (mst.map (rv (ph base tt)))) := by
  unfold cI at ha
  split at ha
  · next y x rest =>
    obtain ⟨tgt, ht, hc, rfl, rfl, rfl, rfl⟩ := br_inj ha
    have hy : inR y := okh hst
    have hx' : inR x := okh (okt hst)
    rcases hc with ⟨hc, rfl⟩ | ⟨hc, rfl⟩
    · exact lv_icmp_le hx hb hd ht (fun _ => K H locs cells slots ls hH hL (okt (okt hst))) (fun q => absurd ((i32_le hx' hy).mpr (of_decide_eq_true hc)) q)
    · exact lv_icmp_le hx hb hd ht (fun q => absurd ((i32_le hx' hy).mp q) (of_decide_eq_false hc)) (fun _ => K H locs cells slots ls hH hL (okt (okt hst)))
  · cases ha
theorem sp_tab (hx : p.tables.exec = Jvm.exec) (hb : c.code = cc) {dflt lo hi : Int} {offs : Array Int} {len : Nat} (hH : HI D cA base tt s MC MS Sf S M H locs cells slots) (hL : LR (ph base tt) nL mls ls) (hst : ∀ v ∈ mst, okV v) (hd : decode cc pc = .ok (.tableswitch dflt lo hi offs, len)) (ha : aTab dflt lo hi offs pc mls mst S M = some (.inl (pc', mls', mst', S', M'))) (K : KK p l e R s m args below meth c Q D cA base tt nL MC MS Sf pc' mls' mst' S' M') : W p l e R s m args below meth c H locs cells slots Q (F0 m pc ls (mst.map (rv (ph base tt)))) := by
  unfold aTab at ha
  split at ha
  · next x rest =>
    have hr : inR x := okh hst
    split at ha
    · next h0 =>
      obtain ⟨ht, rfl, rfl, rfl, rfl⟩ := jmp_inj ha
      exact lv_tableOut hx hb hd (by rw [i32_of hr]; exact h0) ht (K H locs cells slots ls hH hL (okt hst))
    · next h0 =>
      split at ha
      · next off ho =>
        obtain ⟨ht, rfl, rfl, rfl, rfl⟩ := jmp_inj ha
        exact lv_tableIn hx hb hd (by rw [i32_of hr]; exact fun q => h0 (Or.inl q)) (by rw [i32_of hr]; exact fun q => h0 (Or.inr q)) (by rw [i32_of hr]; exact ho) ht (K H locs cells slots ls hH hL (okt hst))
      · cases ha
  · cases ha
theorem sp_look (hx : p.tables.exec = Jvm.exec) (hb : c.code = cc) {dflt : Int} {ps : Array (Int × Int)} {len : Nat} (hH : HI D cA base tt s MC MS Sf S M H locs cells slots) (hL : LR (ph base tt) nL mls ls) (hst : ∀ v ∈ mst, okV v) (hd : decode cc pc = .ok (.lookupswitch dflt ps, len)) (ha : aLook dflt ps pc mls mst S M = some (.inl (pc', mls', mst', S', M'))) (K : KK p l e R s m args below meth c Q D cA base tt nL MC MS Sf pc' mls' mst' S' M') : W p l e R s m args below meth c H locs cells slots Q (F0 m pc ls (mst.map (rv (ph base tt)))) := by
  unfold aLook at ha
  split at ha
  · next x rest =>
    have hr : inR x := okh hst
    split at ha
    · next h0 =>
      obtain ⟨ht, rfl, rfl, rfl, rfl⟩ := jmp_inj ha
      exact lv_lookup hx hb hd h0 (by rw [i32_of hr]) ht (K H locs cells slots ls hH hL (okt hst))
    · cases ha
  · cases ha
end SIMP
end
section
theorem lk_mem {α : Type} : ∀ {L : List (Nat × α)} {k : Nat} {v : α}, lk L k = some v → (k, v) ∈ L
  | [], _, _, h => by cases h
  | (a, b) :: r, k, v, h => by
    unfold lk at h
    split at h
    · next e =>
      cases h
      subst e
      exact List.mem_cons_self
    · exact List.mem_cons_of_mem _ (lk_mem h)
def Ct : Nat → u_T := fun k => match k with
  | 0 => TX0
  | 1 => TX1
  | 2 => TX2
  | 3 => TX3
  | 4 => TX4
  | 5 => TX5
  | 6 => TX6
  | 7 => TX7
  | _ => TX8
def Cty : Nat → Nat → FieldType := fun k => match k with
  | 0 => tyX0
  | 1 => tyX1
  | 2 => tyX2
  | 3 => tyX3
  | 4 => tyX4
  | 5 => tyX5
  | 6 => tyX6
  | 7 => tyX7
  | _ => tyX8
def wordF (q : Nat × Nat × Nat) : Cond := .fieldLink (cN (q.1 / 1000)) (q.1 % 1000) (Ct q.2.1 q.2.2).1 (Ct q.2.1 q.2.2).2.1 (Ct q.2.1 q.2.2).2.2.1
def wordC (q : Nat × Int) : Cond := .constant (cN (q.1 / 1000)) (q.1 % 1000) (Int32.ofInt q.2)
def wordL (q : Nat × Int) : Cond := .constantLong (cN (q.1 / 1000)) (q.1 % 1000) (Int64.ofInt q.2)
def cK (k : Nat) : String := if k = 22 then "[[I" else cN k
def wordK (q : Nat × Nat) : Cond := .classLink (cN (q.1 / 1000)) (q.1 % 1000) (cK q.2)
def sN : Nat → String := fun j => match j with
  | 0 => "PARENTS"
  | 1 => "SIZE_BODIES"
  | _ => "MARK_BODIES"
def wordS (q : Nat × Nat) : Cond := .fieldLink (cN (q.1 / 1000)) (q.1 % 1000) RX1 (sN q.2) "[I"
def arraycopyN : MethodName := ⟨"java/lang/System", "arraycopy", "(Ljava/lang/Object;ILjava/lang/Object;II)V"⟩
def mYY (k : Nat) : MethodName := if k = 1000 then arraycopyN else if k = 1001 then objectInit else if k = 1002 then Lib.Math.max.name else if k = 1003 then Lib.Math.min.name else mY k
/-- the one link of a nest mate's constructor -/
def isNest (q : Nat × Nat) : Bool := q.1 == 7018
def wordM (q : Nat × Nat) : Cond := if isNest q then .methodLinkNest (cN (q.1 / 1000)) (q.1 % 1000) (mYY q.2) "ElbowQueue" else .methodLink (cN (q.1 / 1000)) (q.1 % 1000) (mYY q.2)
set_option maxRecDepth 100000 in
theorem wF : ∀ q ∈ poolF, wordF q ∈ tables_1 := by decide +kernel
set_option maxRecDepth 100000 in
theorem wC : ∀ q ∈ poolC, wordC q ∈ tables_1 := by decide +kernel
set_option maxRecDepth 100000 in
theorem wL : ∀ q ∈ poolL, wordL q ∈ tables_1 := by decide +kernel
set_option maxRecDepth 100000 in
theorem wK : ∀ q ∈ poolK, wordK q ∈ tables_1 := by decide +kernel
set_option maxRecDepth 100000 in
theorem wS : ∀ q ∈ poolS, wordS q ∈ tables_1 := by decide +kernel
/-- the links of methods, each with its place among the words -/
def poolMP : List ((Nat × Nat) × Nat) := [((7001, 1001), 17), ((7009, 44), 22), ((4001, 1001), 25), ((3003, 1001), 44), ((7025, 56), 60), ((5003, 1001), 63), ((7035, 60), 108), ((6003, 1001), 111), ((7044, 0), 159), ((3, 1001), 162), ((17, 60), 165), ((7053, 13), 178), ((2003, 1001), 181), ((2021, 60), 183), ((7062, 5), 203), ((1003, 1001), 206), ((7079, 45), 269), ((7083, 46), 272), ((7087, 119), 276), ((7091, 51), 281), ((7095, 120), 285), ((7098, 47), 293), ((7101, 50), 297), ((7105, 52), 301), ((7109, 48), 309), ((7112, 53), 313), ((4021, 1000), 317), ((7116, 54), 324), ((7119, 117), 332), ((7123, 30), 335), ((7128, 31), 340), ((7131, 34), 348), ((3025, 57), 352), ((3030, 35), 356), ((3040, 39), 360), ((3054, 38), 364), ((3044, 41), 368), ((3074, 42), 372), ((3034, 36), 375), ((3057, 43), 379), ((3060, 58), 382), ((3037, 37), 386), ((3070, 40), 390), ((7140, 33), 395), ((7144, 59), 399), ((5037, 1000), 403), ((7147, 61), 404), ((6058, 81), 408), ((7150, 2), 412), ((7164, 3), 425), ((27, 62), 429), ((6062, 1003), 433), ((6068, 1000), 436), ((31, 1003), 437), ((7168, 72), 438), ((6086, 73), 442), ((6082, 63), 446), ((6100, 74), 450), ((6089, 75), 454), ((6093, 76), 458), ((6104, 77), 462), ((6110, 78), 466), ((6096, 79), 470), ((6078, 68), 474), ((7175, 118), 482), ((7182, 63), 486), ((7185, 64), 487), ((7189, 66), 495), ((7193, 75), 501), ((7202, 1), 510), ((7205, 4), 514), ((7217, 65), 526), ((7220, 15), 534), ((2042, 62), 538), ((2046, 14), 539), ((2034, 69), 542), ((2038, 72), 546), ((7224, 67), 547), ((7227, 18), 559), ((2066, 16), 563), ((2050, 17), 567), ((2058, 70), 571), ((2062, 71), 575), ((7230, 22), 584), ((2070, 64), 588), ((7234, 19), 593), ((7238, 20), 601), ((7241, 23), 609), ((2074, 82), 613), ((2078, 83), 617), ((6116, 72), 621), ((6119, 80), 622), ((7244, 24), 630), ((2082, 25), 634), ((2097, 68), 638), ((2100, 26), 639), ((2088, 27), 644), ((7248, 28), 652), ((2104, 67), 656), ((7251, 49), 661), ((7257, 21), 665), ((7260, 62), 673), ((7265, 6), 686), ((7268, 8), 695), ((1031, 9), 699), ((1040, 10), 703), ((1047, 1002), 706), ((1044, 11), 713), ((1058, 12), 717), ((1067, 63), 721), ((7270, 7), 726), ((7273, 55), 735), ((7279, 32), 739), ((8001, 1001), 752), ((8067, 125), 824), ((8063, 122), 828), ((8074, 123), 833), ((8078, 124), 838), ((8122, 139), 864), ((8109, 133), 868), ((8094, 131), 872), ((8106, 134), 876), ((8100, 132), 880), ((8115, 138), 885), ((8112, 136), 889), ((8103, 135), 893), ((8119, 137), 896), ((8132, 142), 901), ((8157, 144), 913), ((8164, 154), 919), ((8167, 153), 923), ((8148, 148), 927), ((8135, 146), 931), ((8138, 147), 935), ((8144, 149), 939), ((8151, 151), 943), ((8141, 150), 947), ((8154, 152), 951), ((8171, 143), 959), ((8176, 156), 964), ((8179, 157), 968), ((8184, 159), 976), ((8193, 165), 1004), ((8196, 167), 1008), ((8199, 168), 1012), ((8202, 166), 1016), ((8205, 171), 1028), ((8208, 175), 1044), ((8213, 177), 1053), ((8216, 178), 1057), ((8223, 182), 1067), ((8226, 181), 1070), ((8230, 180), 1073), ((8233, 185), 1084), ((8237, 190), 1104), ((8270, 197), 1111), ((8255, 145), 1115), ((8258, 195), 1119), ((8243, 192), 1123), ((8249, 194), 1127), ((8246, 193), 1131), ((8261, 196), 1135), ((8252, 200), 1139), ((8267, 199), 1143), ((8264, 198), 1147), ((8273, 203), 1159), ((7018, 29), 41)]
/-- of each method: the places of its code, of its class as initialised, of static or instanceMethod (all in tables_1), of selects (in lw_tbl) -/
def mPl : List (Nat × Nat × Nat × Nat) := [(161, 6, 160, 0), (513, 6, 511, 580), (415, 6, 413, 482), (428, 6, 426, 495), (517, 6, 515, 584), (205, 8, 204, 0), (688, 8, 687, 0), (729, 8, 727, 796), (698, 8, 696, 765), (702, 8, 701, 21), (705, 8, 704, 0), (716, 8, 715, 22), (720, 8, 719, 23), (180, 7, 179, 0), (541, 7, 540, 0), (537, 7, 535, 604), (566, 7, 565, 17), (570, 7, 569, 18), (562, 7, 560, 629), (596, 7, 594, 663), (604, 7, 602, 671), (668, 7, 666, 735), (587, 7, 585, 654), (612, 7, 610, 679), (633, 7, 631, 700), (637, 7, 636, 19), (642, 7, 641, 20), (646, 7, 645, 0), (655, 7, 653, 722), (43, 3, 42, 0), (338, 3, 336, 405), (343, 3, 341, 410), (742, 3, 740, 809), (398, 3, 396, 465), (351, 3, 349, 418), (359, 3, 358, 2), (378, 3, 377, 6), (389, 3, 388, 7), (367, 3, 366, 4), (363, 3, 362, 3), (393, 3, 392, 8), (371, 3, 370, 5), (374, 3, 373, 0), (381, 3, 380, 0), (24, 2, 23, 0), (271, 2, 270, 0), (274, 2, 273, 0), (296, 2, 294, 363), (312, 2, 310, 379), (664, 2, 662, 731), (300, 2, 298, 367), (284, 2, 282, 351), (304, 2, 302, 371), (316, 2, 314, 383), (327, 2, 325, 394), (738, 2, 736, 805), (62, 4, 61, 0), (355, 4, 353, 422), (385, 4, 383, 452), (402, 4, 400, 469), (110, 5, 109, 0), (407, 5, 405, 474), (432, 5, 430, 499), (449, 5, 447, 516), (490, 5, 488, 557), (529, 5, 527, 596), (498, 5, 496, 565), (550, 5, 548, 617), (477, 5, 475, 544), (545, 5, 543, 612), (574, 5, 572, 641), (578, 5, 576, 645), (441, 5, 439, 508), (445, 5, 444, 10), (453, 5, 452, 11), (457, 5, 455, 524), (461, 5, 460, 12), (465, 5, 464, 13), (469, 5, 468, 14), (473, 5, 472, 15), (625, 5, 623, 692), (411, 5, 410, 9), (616, 5, 614, 683), (620, 5, 618, 687), (16, 1, 15, 0), (268, 1, 266, 335), (292, 1, 290, 359), (308, 1, 306, 375), (323, 1, 321, 390), (331, 1, 329, 398), (347, 1, 345, 414), (419, 1, 417, 486), (423, 1, 421, 490), (481, 1, 479, 548), (494, 1, 492, 561), (505, 1, 503, 572), (509, 1, 507, 576), (521, 1, 519, 588), (525, 1, 523, 592), (533, 1, 531, 600), (554, 1, 552, 621), (558, 1, 556, 625), (583, 1, 581, 650), (592, 1, 590, 659), (600, 1, 598, 667), (608, 1, 606, 675), (629, 1, 627, 696), (651, 1, 649, 718), (660, 1, 658, 727), (672, 1, 670, 739), (677, 1, 675, 744), (681, 1, 679, 748), (685, 1, 683, 752), (694, 1, 692, 761), (725, 1, 723, 792), (734, 1, 732, 801), (746, 1, 744, 813), (334, 1, 333, 0), (485, 1, 484, 16), (279, 1, 278, 0), (288, 1, 287, 1), (751, 9, 750, 0), (830, 9, 829, 0), (836, 9, 835, 24), (841, 9, 840, 25), (826, 9, 825, 0), (823, 9, 821, 890), (845, 9, 843, 912), (849, 9, 847, 916), (853, 9, 851, 920), (857, 9, 855, 924), (875, 9, 874, 28), (882, 9, 881, 0), (871, 9, 870, 27), (879, 9, 878, 29), (895, 9, 894, 0), (892, 9, 891, 31), (899, 9, 898, 32), (888, 9, 887, 30), (867, 9, 866, 26), (863, 9, 861, 930), (908, 9, 906, 975), (904, 9, 903, 33), (962, 9, 961, 44), (916, 9, 915, 34), (1118, 9, 1117, 58), (934, 9, 933, 38), (938, 9, 937, 39), (930, 9, 929, 37), (942, 9, 941, 40), (950, 9, 949, 42), (946, 9, 945, 41), (954, 9, 953, 43), (926, 9, 925, 36), (922, 9, 921, 35), (912, 9, 910, 979), (967, 9, 966, 45), (971, 9, 970, 46), (958, 9, 956, 1025), (979, 9, 978, 47), (975, 9, 973, 1042), (984, 9, 982, 1051), (989, 9, 987, 1056), (993, 9, 991, 1060), (998, 9, 996, 1065), (1007, 9, 1006, 48), (1019, 9, 1018, 51), (1011, 9, 1010, 49), (1015, 9, 1014, 50), (1002, 9, 1000, 1069), (1023, 9, 1021, 1090), (1031, 9, 1030, 52), (1027, 9, 1025, 1094), (1035, 9, 1033, 1102), (1039, 9, 1037, 1106), (1047, 9, 1046, 53), (1043, 9, 1041, 1110), (1056, 9, 1055, 54), (1060, 9, 1059, 55), (1051, 9, 1049, 1118), (1075, 9, 1074, 0), (1072, 9, 1071, 0), (1069, 9, 1068, 0), (1064, 9, 1062, 1131), (1079, 9, 1077, 1146), (1087, 9, 1086, 56), (1083, 9, 1081, 1150), (1091, 9, 1089, 1158), (1095, 9, 1093, 1162), (1099, 9, 1097, 1166), (1106, 9, 1105, 0), (1103, 9, 1101, 1170), (1126, 9, 1125, 60), (1134, 9, 1133, 62), (1130, 9, 1129, 61), (1122, 9, 1121, 59), (1138, 9, 1137, 63), (1114, 9, 1113, 57), (1150, 9, 1149, 66), (1146, 9, 1145, 65), (1142, 9, 1141, 64), (1110, 9, 1108, 1177), (1154, 9, 1152, 1221), (1162, 9, 1161, 67), (1158, 9, 1156, 1225), (1166, 9, 1164, 1233)]
set_option maxRecDepth 100000 in
theorem poolM_e : poolM = poolMP.map (fun x => x.1) := by decide +kernel
set_option maxRecDepth 100000 in
theorem wMP : ∀ x ∈ poolMP, tables_1[x.2]? = some (wordM x.1) := by decide +kernel
theorem wM : ∀ q ∈ poolM, wordM q ∈ tables_1 := fun q hq => by
  rw [poolM_e] at hq
  obtain ⟨x, hx, rfl⟩ := List.mem_map.mp hq
  exact List.mem_of_getElem? (wMP x hx)
def wCode (k : Nat) : Cond := .code (mY k) (mB k) (mL k) (mR k)
def wSt (k : Nat) : Cond := if mS k then .static (mY k) else .instanceMethod (mY k)
def wSel (k : Nat) : Cond := .selects (mY k).cls (mY k) (mY k)
def wIni (k : Nat) : Cond := .initialized (mY k).cls
set_option maxRecDepth 100000 in
theorem mW1 : mPl.map (fun q => tables_1[q.1]?) = mT.map (fun x => some (Cond.code x.2.1 x.2.2.1 x.2.2.2.1 x.2.2.2.2.1)) := rfl
set_option maxRecDepth 100000 in
theorem mW2 : (List.range 206).all (fun k => decide (tables_1[(mPl.getD k (0, 0, 0, 0)).2.1]? = some (wIni k))) = true := by decide +kernel
set_option maxRecDepth 100000 in
theorem mW3 : (List.range 206).all (fun k => decide (tables_1[(mPl.getD k (0, 0, 0, 0)).2.2.1]? = some (wSt k))) = true := by decide +kernel
set_option maxRecDepth 100000 in
theorem mW4 : (List.range 206).all (fun k => mS k || decide ((mY k).name = "<init>") || decide (lw_tbl[(mPl.getD k (0, 0, 0, 0)).2.2.2]? = some (wSel k))) = true := by decide +kernel
set_option maxRecDepth 100000 in
theorem mW5 : (List.range 206).all (fun k => decide ((mY k).cls = cN (mOwn k) ∧ mL k ≤ 20 ∧ (mY k).cls ≠ "java/lang/invoke/MethodHandle" ∧ (mY k).cls ≠ "java/lang/invoke/VarHandle" ∧ (parseMethodDescriptor (mY k).desc).map (fun d => d.parameters.length) = some (mP k))) = true := by decide +kernel
set_option maxRecDepth 100000 in
theorem pF_ok : ∀ q ∈ poolF, q.2.1 < 9 := by decide +kernel
/-- the words that stay when the tables grow warm -/
def gwT : List Cond := lw_tbl.filter goodWord
theorem tb_in {w : Cond} (h : w ∈ tables_1) (hg : goodWord w = true := by rfl) : w ∈ gwT := List.mem_filter.mpr ⟨List.mem_append_right _ h, hg⟩
set_option maxRecDepth 100000 in
theorem cls_cl : ∀ ci < 9, vwCl[ci]? = some (cN ci, Ct ci, fnum ci) := fun ci h => by
  rcases (show ci = 0 ∨ ci = 1 ∨ ci = 2 ∨ ci = 3 ∨ ci = 4 ∨ ci = 5 ∨ ci = 6 ∨ ci = 7 ∨ ci = 8 by omega) with rfl | rfl | rfl | rfl | rfl | rfl | rfl | rfl | rfl <;> rfl
set_option maxRecDepth 100000 in
theorem cls_ws : ∀ ci < 9, ∀ w ∈ u_ws (cN ci) (Ct ci) (fnum ci), w ∈ tables_1 := by decide +kernel
set_option maxRecDepth 100000 in
theorem cls_wsg : ∀ ci < 9, ∀ w ∈ u_ws (cN ci) (Ct ci) (fnum ci), goodWord w = true := by decide +kernel
theorem cls_in {ci : Nat} (h : ci < 9) : ∀ w ∈ u_ws (cN ci) (Ct ci) (fnum ci), w ∈ gwT := fun w hw => tb_in (cls_ws _ h w hw) (cls_wsg _ h w hw)
set_option maxRecDepth 100000 in
theorem cls_ty : ∀ ci < 9, ∀ k, k < fnum ci → parseFieldDescriptor (Ct ci k).2.2.1 = some (Cty ci k) := by decide +kernel
set_option maxRecDepth 100000 in
theorem cls_nm : ∀ ci < 9, ∀ a, a < fnum ci → ∀ b, b < fnum ci → a ≠ b → (Ct ci a).2.1 ≠ (Ct ci b).2.1 := by decide +kernel
set_option maxRecDepth 100000 in
theorem cls_inst : ∀ ci < 9, Cond.instantiable (cN ci) (fnum ci) ∈ tables_1 ∧ Cond.initialized (cN ci) ∈ tables_1 := by decide +kernel
set_option maxRecDepth 100000 in
theorem cls_fin : ∀ ci < 9, ∀ k, k < fnum ci → (Ct ci k).2.2.2 = ffi ci k ∧ (Ct ci k).1 = cN ci := by decide +kernel
def isRefT : FieldType → Bool := fun t => match t with
  | .object _ | .array _ => true
  | _ => false
set_option maxRecDepth 100000 in
theorem cls_fty : ∀ ci < 9, ∀ k, k < fnum ci → (fty ci k = 0 → Cty ci k = .int) ∧ (fty ci k = 1 → isRefT (Cty ci k) = true) ∧ (fty ci k = 2 → Cty ci k = .boolean) ∧ fty ci k ≤ 2 := by decide +kernel
end
section
def tysOf (cA : Nat → ClassId) : List (ClassId × FieldType) := [(cA 20, .int), (cA 21, .boolean), (cA 22, .array .int), (cA 23, .object RX5), (cA 24, .object RX6)]
/-- the words that a call carries by itself: arrays over classes, a nest mate's constructor -/
def XW (s : State) : Prop := va_AO RX5 s ∧ va_AO RX6 s ∧ va_Nw (.arrayOver (.array .int)) s ∧ va_Nw (.methodLinkNest "ElbowQueue" 18 ⟨"ElbowQueue$Reader", "<init>", "()V"⟩ "ElbowQueue") s
/-- what is known of the tables and of the statics at a method's start -/
def CK (D : va_G) (cA : Nat → ClassId) (base : Nat) (tt : Nat → Nat) (s : State) (args : Array Value) : Prop :=
  (∀ w ∈ gwT, w.before args s = true) ∧ va_K D vwCl (tysOf cA) s ∧ (∀ j, j < 3 → va_Z RX1 (sN j) "[I" (.ref (tt j)) (fun q => base ≤ q) s s.heap ∧ va_T .int (tt j) 6 (fun i => .int (Int32.ofInt ((sT j).getD i 0))) (fun q => base ≤ q) s s.heap) ∧ base ≤ s.heap.size ∧ XW s
theorem key_div {own idx : Nat} (h : idx < 1000) : (own * 1000 + idx) / 1000 = own ∧ (own * 1000 + idx) % 1000 = idx := by omega
theorem ph_lt {base : Nat} {tt : Nat → Nat} {a : Nat} (h : a < 1000000) : ph base tt a = base + a := if_neg (by omega)
theorem ph_st {base : Nat} {tt : Nat → Nat} {j : Nat} : ph base tt (1000000 + j) = tt j := by
  unfold ph
  rw [if_pos (Nat.le_add_right _ _), Nat.add_sub_cancel_left]
theorem S_lt {S : List Sh} {a : Nat} {h : Sh} (hs : S[a]? = some h) (hl : S.length ≤ 1000000) : a < S.length ∧ a < 1000000 := by
  have h1 := (List.getElem?_eq_some_iff.mp hs).1
  exact ⟨h1, by omega⟩
theorem cellE_obj {f : Nat → Nat} {cA : Nat → ClassId} {M : Mem} {a ci n : Nat} {rf : List (Option Nat)} (h : ci < 9) : cellE f cA M a (ci, n, rf) = .inr (ci, (List.range (fnum ci)).map (slotV f M a ci rf)) := if_pos h
theorem cellE_arr {f : Nat → Nat} {cA : Nat → ClassId} {M : Mem} {a kd n : Nat} {rf : List (Option Nat)} (h : kd = 20 ∨ kd = 21) : cellE f cA M a (kd, n, rf) = .inl (cA kd, n, .inl (fun i => Int32.ofInt (M a (i : Int)))) := by
  unfold cellE
  rw [if_neg (by simp; omega), if_pos (by simp; omega)]
theorem cellE_ref {f : Nat → Nat} {cA : Nat → ClassId} {M : Mem} {a kd n : Nat} {rf : List (Option Nat)} (h : kd = 22 ∨ kd = 23 ∨ kd = 24) : cellE f cA M a (kd, n, rf) = .inl (cA kd, n, .inr (.inr (.inr (.inr (fun i => (rf.getD i none).map f))))) := by
  unfold cellE
  rw [if_neg (by simp; omega), if_neg (by simp; omega)]
theorem mu_R {M : Mem} {a : Nat} {i x : Int} (h : ∀ a i, inR (M a i)) (hx : inR x) : ∀ b j, inR (mu M a i x b j) := fun b j => by
  unfold mu
  split
  · exact hx
  · exact h b j
theorem mzs_R {M : Mem} {a : Nat} (h : ∀ a i, inR (M a i)) : ∀ b j, inR (mzs M a b j) := fun b j => by
  unfold mzs
  split
  · exact inR_0
  · exact h b j
theorem mu_ne {M : Mem} {a b : Nat} {i x : Int} (h : b ≠ a) (j : Int) : mu M a i x b j = M b j := if_neg (fun q => h q.1)
theorem tot_set {S : List Sh} {a kd n : Nat} {rf rf' : List (Option Nat)} (h : S[a]? = some (kd, n, rf)) : tot (S.set a (kd, n, rf')) = tot S := by
  unfold tot
  have e : (S.set a (kd, n, rf')).map (fun h : Sh => h.2.1) = S.map (fun h : Sh => h.2.1) := by
    apply List.ext_getElem?
    intro b
    by_cases e : b = a
    · subst e
      rw [List.getElem?_map, List.getElem?_set_self (List.getElem?_eq_some_iff.mp h).1, List.getElem?_map, h]
      rfl
    · rw [List.getElem?_map, List.getElem?_set_ne (fun q => e q.symm), List.getElem?_map]
  rw [e]
theorem tot_app (S T : List Sh) : tot (S ++ T) = tot S + tot T := by simp [tot]
section SIMH
variable {p : Program} {l : Launch} {e : Env} {R : Room} {s : State} {m : MethodId} {args : Array Value} {below : List Frame} {meth : Method} {c : Code} {H : Heap} {locs : List Loc} {cells slots : Nat} {Q : State → Prop}
variable {cc : ByteArray} {pc : Nat} {ls : Array Slot}
variable {D : va_G} {cA : Nat → ClassId} {base : Nat} {tt : Nat → Nat} {nL MC MS : Nat} {Sf S S' : List Sh} {M M' : Mem} {mls mls' : Lv} {mst mst' : List Vv} {pc' own idx : Nat}
theorem HI.put (h : HI D cA base tt s MC MS Sf S M H locs cells slots) {H1 : Heap} {locs1 : List Loc} (hP : va_P D vwCl (world base (ph base tt) cA S' M') H1) (hS : va_S (fun q => base ≤ q) s.heap H1 locs1) (hM : ∀ a i, inR (M' a i)) (hl : S'.length = S.length) (ht : tot S' = tot S) : HI D cA base tt s MC MS Sf S' M' H1 locs1 cells slots :=
  ⟨hP, hS, hM, by rw [hl]; exact h.2.2.2.1, by rw [hl]; exact h.2.2.2.2.1, by rw [hl]; exact h.2.2.2.2.2.1, by rw [ht]; exact h.2.2.2.2.2.2⟩
theorem sh_getf (hx : p.tables.exec = Jvm.exec) (hb : c.code = cc) (hC : CK D cA base tt s args) (hown : s.vm.findClass (cN own) = some m.cls) (hix : idx < 1000) (hH : HI D cA base tt s MC MS Sf S M H locs cells slots) (hL : LR (ph base tt) nL mls ls) (hst : ∀ v ∈ mst, okV v) (hd : decode cc pc = .ok (.getfield idx, 3)) (ha : aGetf (own * 1000 + idx) pc mls mst S M = some (.inl (pc', mls', mst', S', M'))) (K : KK p l e R s m args below meth c Q D cA base tt nL MC MS Sf pc' mls' mst' S' M') : W p l e R s m args below meth c H locs cells slots Q (F0 m pc ls (mst.map (rv (ph base tt)))) := by
  unfold aGetf at ha
  split at ha
  · next a rest ci k hk =>
    split at ha
    · next kd n rf hs =>
      split at ha
      · next hc =>
        obtain ⟨rfl, hk9⟩ := hc
        obtain ⟨hP, hS, hM, hSl, -⟩ := id hH
        have hw := wF _ (lk_mem hk)
        have hci := pF_ok _ (lk_mem hk)
        unfold wordF at hw
        rw [(key_div hix).1, (key_div hix).2] at hw
        have hat := world_at (base := base) (f := ph base tt) (cA := cA) (M := M) hs
        rw [cellE_obj hci] at hat
        have hr : rv (ph base tt) (vR (some a)) = .ref (base + a) := by show Value.ref (ph base tt a) = _; rw [ph_lt (S_lt hs hSl).2]
        have hf : ∀ v : Vv, okV v → go (pc + 3) mls (v :: rest) S M = some (.inl (pc', mls', mst', S', M')) → slotV (ph base tt) M a kd rf k = rv (ph base tt) v → W p l e R s m args below meth c H locs cells slots Q (F0 m pc ls ((vR (some a) :: rest).map (rv (ph base tt)))) := by
          intro v hv hg he
          obtain ⟨rfl, rfl, rfl, rfl, rfl⟩ := go_inj hg
          rw [List.map_cons, hr]
          refine va_get hx hb hC.1 (cls_in hci) hown hC.2.1 hP a hat (cls_cl _ hci) k hk9 (hC.1 _ (tb_in hw)) (fun x h => h) (v := rv (ph base tt) v) ?_ hd (K H locs cells slots ls hH hL (ok1 (okt hst) hv))
          rw [List.getElem?_map, List.getElem?_range hk9]
          simp [he]
        split at ha
        · next h1 => exact hf (vR (rf.getD k none)) trivial ha (by simp [slotV, h1, rv])
        · next h1 => exact hf (vI (M a k)) (hM a k) ha (by simp [slotV, h1, rv])
      · cases ha
    · cases ha
  · cases ha
theorem fs_set {f : Nat → Nat} {M M' : Mem} {a ci k : Nat} {rf rf' : List (Option Nat)} {v : Value} (hv : v = slotV f M' a ci rf' k) (ho : ∀ j, j ≠ k → slotV f M a ci rf j = slotV f M' a ci rf' j) : ((List.range (fnum ci)).map (slotV f M a ci rf)).set k v = (List.range (fnum ci)).map (slotV f M' a ci rf') := by
  apply List.ext_getElem?
  intro j
  by_cases hj : j < fnum ci
  · by_cases e : j = k
    · subst e
      rw [List.getElem?_set_self (by simpa using hj), List.getElem?_map, List.getElem?_range hj, hv]
      rfl
    · rw [List.getElem?_set_ne (fun q => e q.symm), List.getElem?_map, List.getElem?_map, List.getElem?_range hj]
      simp [ho j e]
  · rw [List.getElem?_eq_none (by simp; omega), List.getElem?_eq_none (by simp; omega)]
theorem cast_ne {j k : Nat} (h : j ≠ k) : (j : Int) ≠ (k : Int) := fun q => h (Int.ofNat.inj q)
theorem nar_ref {t : FieldType} (h : isRefT t = true) (f : Nat → Nat) (r : Nat) : narrow t (.ref r) = .ref r ∧ fits t (.ref r) = true := by
  cases t <;> first | exact ⟨rfl, rfl⟩ | cases h
theorem nar_z {x : Int} (h : x = 0 ∨ x = 1) : narrow .boolean (.int (Int32.ofInt x)) = .int (Int32.ofInt x) ∧ fits .boolean (.int (Int32.ofInt x)) = true := by
  rcases h with rfl | rfl
  · exact ⟨by decide, by decide⟩
  · exact ⟨by decide, by decide⟩
theorem S_set_ne {S : List Sh} {a b : Nat} {h : Sh} (e : b ≠ a) : (S.set a h)[b]? = S[b]? := List.getElem?_set_ne (fun q => e q.symm)
theorem sh_putf (hx : p.tables.exec = Jvm.exec) (hb : c.code = cc) (hC : CK D cA base tt s args) (hown : s.vm.findClass (cN own) = some m.cls) {ini : Bool} (hini : ini = true → meth.name = "<init>") (hix : idx < 1000) (hH : HI D cA base tt s MC MS Sf S M H locs cells slots) (hL : LR (ph base tt) nL mls ls) (hst : ∀ v ∈ mst, okV v) (hd : decode cc pc = .ok (.putfield idx, 3)) (ha : aPutf own ini (own * 1000 + idx) pc mls mst S M = some (.inl (pc', mls', mst', S', M'))) (K : KK p l e R s m args below meth c Q D cA base tt nL MC MS Sf pc' mls' mst' S' M') : W p l e R s m args below meth c H locs cells slots Q (F0 m pc ls (mst.map (rv (ph base tt)))) := by
  unfold aPutf at ha
  split at ha
  · next v a rest ci k hk =>
    split at ha
    · next kd n rf hs =>
      split at ha
      · next hc =>
        obtain ⟨rfl, hk9, hfin⟩ := hc
        obtain ⟨hP, hS, hM, hSl, -⟩ := id hH
        have hw := wF _ (lk_mem hk)
        have hci := pF_ok _ (lk_mem hk)
        unfold wordF at hw
        rw [(key_div hix).1, (key_div hix).2] at hw
        have hat := world_at (base := base) (f := ph base tt) (cA := cA) (M := M) hs
        rw [cellE_obj hci] at hat
        obtain ⟨hal, ham⟩ := S_lt hs hSl
        have hr : rv (ph base tt) (vR (some a)) = .ref (base + a) := by show Value.ref (ph base tt a) = _; rw [ph_lt ham]
        obtain ⟨t0, t1, t2, -⟩ := cls_fty _ hci k hk9
        have hcf := cls_fin _ hci k hk9
        have hf : ∀ (S2 : List Sh) (M2 : Mem), narrow (Cty kd k) (rv (ph base tt) v) = rv (ph base tt) v → fits (Cty kd k) (rv (ph base tt) v) = true → go (pc + 3) mls rest S2 M2 = some (.inl (pc', mls', mst', S', M')) → (world base (ph base tt) cA S M).set a (base + a, .inr (kd, ((List.range (fnum kd)).map (slotV (ph base tt) M a kd rf)).set k (rv (ph base tt) v))) = world base (ph base tt) cA S2 M2 → (∀ a i, inR (M2 a i)) → S2.length = S.length → tot S2 = tot S → W p l e R s m args below meth c H locs cells slots Q (F0 m pc ls ((v :: vR (some a) :: rest).map (rv (ph base tt)))) := by
          intro S2 M2 hn hft hg hw2 hM2 hl2 ht2
          obtain ⟨rfl, rfl, rfl, rfl, rfl⟩ := go_inj hg
          rw [List.map_cons, List.map_cons, hr]
          have KK1 : ∀ (H1 : Heap) (locs1 : List Loc), va_P D vwCl ((world base (ph base tt) cA S M).set a (base + a, .inr (kd, ((List.range (fnum kd)).map (slotV (ph base tt) M a kd rf)).set k (rv (ph base tt) v)))) H1 → va_D (fun q => base ≤ q) ((world base (ph base tt) cA S M).set a (base + a, .inr (kd, ((List.range (fnum kd)).map (slotV (ph base tt) M a kd rf)).set k (rv (ph base tt) v)))) → va_S (fun q => base ≤ q) s.heap H1 locs1 → W p l e R s m args below meth c H1 locs1 cells slots Q (F0 m (pc + 3) ls (rest.map (rv (ph base tt)))) := by
            intro H1 locs1 p1 _ p3
            rw [hw2] at p1
            exact K H1 locs1 cells slots ls (hH.put p1 p3 hM2 hl2 ht2) hL (okt (okt hst))
          rcases hfin with hfin | hfin
          · exact va_put hx hb hC.1 (cls_in hci) (Cty kd) (cls_ty _ hci) (cls_nm _ hci) hown hC.2.1 hP world_D hS a hat (cls_cl _ hci) k hk9 (hC.1 _ (tb_in hw)) (fun x h => h) (hcf.1.trans hfin) (cls_ty _ hci k hk9) hn hft (by simpa using hk9) hd KK1
          · by_cases hq : ffi kd k = true
            · exact va_putF hx hb hC.1 (cls_in hci) (Cty kd) (cls_ty _ hci) (cls_nm _ hci) hown hC.2.1 hP world_D hS a hat (cls_cl _ hci) k hk9 (hC.1 _ (tb_in hw)) (fun x h => h) (hcf.1.trans hq) (hini hfin.1) (by rw [hfin.2]; exact hcf.2) (cls_ty _ hci k hk9) hn hft (by simpa using hk9) hd KK1
            · exact va_put hx hb hC.1 (cls_in hci) (Cty kd) (cls_ty _ hci) (cls_nm _ hci) hown hC.2.1 hP world_D hS a hat (cls_cl _ hci) k hk9 (hC.1 _ (tb_in hw)) (fun x h => h) (hcf.1.trans (by simpa using hq)) (cls_ty _ hci k hk9) hn hft (by simpa using hk9) hd KK1
        split at ha
        · next x =>
          split at ha
          · next h1 =>
            have hxr : inR x := okh hst
            have hnf : narrow (Cty kd k) (rv (ph base tt) (vI x)) = rv (ph base tt) (vI x) ∧ fits (Cty kd k) (rv (ph base tt) (vI x)) = true := by
              rcases h1 with h1 | ⟨h1, h2⟩
              · rw [t0 h1]; exact ⟨rfl, rfl⟩
              · rw [t2 h1]; exact nar_z h2
            have hne : ¬ fty kd k = 1 := by omega
            refine hf S (mu M a k x) hnf.1 hnf.2 ha ?_ (mu_R hM hxr) rfl rfl
            refine world_set hs ?_ (fun _ _ => rfl) (fun b hb2 j => mu_ne hb2 j) hal
            rw [cellE_obj hci]
            congr 2
            refine fs_set ?_ (fun j hj => ?_)
            · simp [slotV, hne, mu, rv]
            · simp [slotV, mu, cast_ne hj]
          · cases ha
        · next r =>
          split at ha
          · next h1 =>
            have hnf := nar_ref (t1 h1.1) (ph base tt) (ph base tt r)
            refine hf (S.set a (kd, n, rf.set k (some r))) M hnf.1 hnf.2 ha ?_ hM (List.length_set ..) (tot_set hs)
            refine world_set (List.getElem?_set_self hal) ?_ (fun b hb2 => S_set_ne hb2) (fun b _ j => rfl) hal
            rw [cellE_obj hci]
            congr 2
            refine fs_set ?_ (fun j hj => ?_)
            · simp [slotV, h1.1, rv, List.getD_eq_getElem?_getD, List.getElem?_set_self h1.2]
            · simp [slotV, List.getD_eq_getElem?_getD, List.getElem?_set_ne (fun q => hj q.symm)]
          · cases ha
        · cases ha
      · cases ha
    · cases ha
  · cases ha
theorem sh_iald (hx : p.tables.exec = Jvm.exec) (hb : c.code = cc) (hC : CK D cA base tt s args) (hown : s.vm.findClass (cN own) = some m.cls) (hH : HI D cA base tt s MC MS Sf S M H locs cells slots) (hL : LR (ph base tt) nL mls ls) (hst : ∀ v ∈ mst, okV v) (hd : decode cc pc = .ok (.iaload, 1)) (ha : aIald pc mls mst S M = some (.inl (pc', mls', mst', S', M'))) (K : KK p l e R s m args below meth c Q D cA base tt nL MC MS Sf pc' mls' mst' S' M') : W p l e R s m args below meth c H locs cells slots Q (F0 m pc ls (mst.map (rv (ph base tt)))) := by
  unfold aIald at ha
  obtain ⟨hP, hS, hM, hSl, -⟩ := id hH
  split at ha
  · next i a rest =>
    have hir : inR i := okh hst
    split at ha
    · next h0 =>
      split at ha
      · next h1 =>
        split at ha
        · next h2 =>
          split at ha
          · next x hxs =>
            obtain ⟨rfl, rfl, rfl, rfl, rfl⟩ := go_inj ha
            obtain ⟨j, rfl⟩ : ∃ j, a = 1000000 + j := ⟨a - 1000000, by omega⟩
            have hj : j < 3 := by omega
            rw [Nat.add_sub_cancel_left] at hxs
            have hlen : i.toNat < 6 := by
              have h3 := (List.getElem?_eq_some_iff.mp hxs).1
              rcases (show j = 0 ∨ j = 1 ∨ j = 2 by omega) with rfl | rfl | rfl <;> exact h3
            have hxR : inR x := by
              have h4 := List.mem_of_getElem? hxs
              have h5 : ∀ j < 3, ∀ y ∈ sT j, inR y := by decide
              exact h5 j hj x h4
            have hr : rv (ph base tt) (vR (some (1000000 + j))) = .ref (tt j) := by show Value.ref (ph base tt (1000000 + j)) = _; rw [ph_st]
            rw [List.map_cons, List.map_cons, hr]
            refine va_ti hx hb (hC.2.2.1 j hj).2 hS (i32_in hir h0 (by omega)) ?_ hd (K H locs cells slots ls hH hL (ok1 (okt (okt hst)) (v := vI x) hxR))
            simp [rv, i32_clamp hir, List.getD_eq_getElem?_getD, hxs]
          · cases ha
        · cases ha
      · next h1 =>
        split at ha
        · next kd n rf hs =>
          split at ha
          · next hc =>
            obtain ⟨rfl, h2⟩ := hc
            obtain ⟨rfl, rfl, rfl, rfl, rfl⟩ := go_inj ha
            have hat := world_at (base := base) (f := ph base tt) (cA := cA) (M := M) hs
            rw [cellE_arr (Or.inl rfl)] at hat
            have hr : rv (ph base tt) (vR (some a)) = .ref (base + a) := by show Value.ref (ph base tt a) = _; rw [ph_lt (S_lt hs hSl).2]
            rw [List.map_cons, List.map_cons, hr]
            have K1 := K H locs cells slots ls hH hL (ok1 (okt (okt hst)) (v := vI (M a i)) (hM a i))
            have e1 : M a i = M a ((Int32.ofInt i).toNatClampNeg : Int) := by rw [i32_clamp hir, Int.toNat_of_nonneg h0]
            rw [e1] at K1
            exact va_iald hx hb hC.2.1 hP a 0 hat rfl (i32_in hir h0 h2) hd K1
          · cases ha
        · cases ha
    · cases ha
  · cases ha
theorem sh_bald (hx : p.tables.exec = Jvm.exec) (hb : c.code = cc) (hC : CK D cA base tt s args) (hown : s.vm.findClass (cN own) = some m.cls) (hH : HI D cA base tt s MC MS Sf S M H locs cells slots) (hL : LR (ph base tt) nL mls ls) (hst : ∀ v ∈ mst, okV v) (hd : decode cc pc = .ok (.baload, 1)) (ha : aBald pc mls mst S M = some (.inl (pc', mls', mst', S', M'))) (K : KK p l e R s m args below meth c Q D cA base tt nL MC MS Sf pc' mls' mst' S' M') : W p l e R s m args below meth c H locs cells slots Q (F0 m pc ls (mst.map (rv (ph base tt)))) := by
  unfold aBald at ha
  obtain ⟨hP, hS, hM, hSl, -⟩ := id hH
  split at ha
  · next i a rest =>
    have hir : inR i := okh hst
    split at ha
    · next kd n rf hs =>
      split at ha
      · next hc =>
        obtain ⟨rfl, h0, h2⟩ := hc
        obtain ⟨rfl, rfl, rfl, rfl, rfl⟩ := go_inj ha
        have hat := world_at (base := base) (f := ph base tt) (cA := cA) (M := M) hs
        rw [cellE_arr (Or.inr rfl)] at hat
        have hr : rv (ph base tt) (vR (some a)) = .ref (base + a) := by show Value.ref (ph base tt a) = _; rw [ph_lt (S_lt hs hSl).2]
        rw [List.map_cons, List.map_cons, hr]
        have K1 := K H locs cells slots ls hH hL (ok1 (okt (okt hst)) (v := vI (M a i)) (hM a i))
        have e1 : M a i = M a ((Int32.ofInt i).toNatClampNeg : Int) := by rw [i32_clamp hir, Int.toNat_of_nonneg h0]
        rw [e1] at K1
        exact va_zald hx hb hC.2.1 hP a 1 hat rfl (i32_in hir h0 h2) hd K1
      · cases ha
    · cases ha
  · cases ha
theorem upd_mu {M : Mem} {a : Nat} {i x : Int} (hi : inR i) (h0 : 0 ≤ i) : upd (fun j => Int32.ofInt (M a (j : Int))) (Int32.ofInt i).toNatClampNeg (Int32.ofInt x) = fun (j : Nat) => Int32.ofInt (mu M a i x a (j : Int)) := by
  funext j
  rw [i32_clamp hi]
  unfold upd mu
  by_cases e : j = i.toNat
  · subst e
    rw [if_pos rfl, if_pos ⟨rfl, Int.toNat_of_nonneg h0⟩]
  · rw [if_neg e, if_neg (fun q => e (by have := q.2; omega))]
theorem sh_iast (hx : p.tables.exec = Jvm.exec) (hb : c.code = cc) (hC : CK D cA base tt s args) (hown : s.vm.findClass (cN own) = some m.cls) (hH : HI D cA base tt s MC MS Sf S M H locs cells slots) (hL : LR (ph base tt) nL mls ls) (hst : ∀ v ∈ mst, okV v) (hd : decode cc pc = .ok (.iastore, 1)) (ha : aIast pc mls mst S M = some (.inl (pc', mls', mst', S', M'))) (K : KK p l e R s m args below meth c Q D cA base tt nL MC MS Sf pc' mls' mst' S' M') : W p l e R s m args below meth c H locs cells slots Q (F0 m pc ls (mst.map (rv (ph base tt)))) := by
  unfold aIast at ha
  obtain ⟨hP, hS, hM, hSl, -⟩ := id hH
  split at ha
  · next x i a rest =>
    have hxr : inR x := okh hst
    have hir : inR i := okh (okt hst)
    split at ha
    · next kd n rf hs =>
      split at ha
      · next hc =>
        obtain ⟨rfl, h0, h2⟩ := hc
        obtain ⟨rfl, rfl, rfl, rfl, rfl⟩ := go_inj ha
        have hat := world_at (base := base) (f := ph base tt) (cA := cA) (M := M) hs
        rw [cellE_arr (Or.inl rfl)] at hat
        obtain ⟨hal, ham⟩ := S_lt hs hSl
        have hr : rv (ph base tt) (vR (some a)) = .ref (base + a) := by show Value.ref (ph base tt a) = _; rw [ph_lt ham]
        rw [List.map_cons, List.map_cons, List.map_cons, hr]
        refine va_iast hx hb hC.2.1 hP world_D hS a 0 hat rfl (i32_in hir h0 h2) hd (fun H1 locs1 p1 _ p3 => ?_)
        rw [upd_mu hir h0, world_set (S' := S) (N := mu M a i x) hs (by rw [cellE_arr (Or.inl rfl)]) (fun _ _ => rfl) (fun b hb2 j => mu_ne hb2 j) hal] at p1
        exact K H1 locs1 cells slots ls (hH.put p1 p3 (mu_R hM hxr) rfl rfl) hL (okt (okt (okt hst)))
      · cases ha
    · cases ha
  · cases ha
theorem sh_bast (hx : p.tables.exec = Jvm.exec) (hb : c.code = cc) (hC : CK D cA base tt s args) (hown : s.vm.findClass (cN own) = some m.cls) (hH : HI D cA base tt s MC MS Sf S M H locs cells slots) (hL : LR (ph base tt) nL mls ls) (hst : ∀ v ∈ mst, okV v) (hd : decode cc pc = .ok (.bastore, 1)) (ha : aBast pc mls mst S M = some (.inl (pc', mls', mst', S', M'))) (K : KK p l e R s m args below meth c Q D cA base tt nL MC MS Sf pc' mls' mst' S' M') : W p l e R s m args below meth c H locs cells slots Q (F0 m pc ls (mst.map (rv (ph base tt)))) := by
  unfold aBast at ha
  obtain ⟨hP, hS, hM, hSl, -⟩ := id hH
  split at ha
  · next x i a rest =>
    have hxr : inR x := okh hst
    have hir : inR i := okh (okt hst)
    split at ha
    · next kd n rf hs =>
      split at ha
      · next hc =>
        obtain ⟨rfl, h0, h2, h3⟩ := hc
        obtain ⟨rfl, rfl, rfl, rfl, rfl⟩ := go_inj ha
        have hat := world_at (base := base) (f := ph base tt) (cA := cA) (M := M) hs
        rw [cellE_arr (Or.inr rfl)] at hat
        obtain ⟨hal, ham⟩ := S_lt hs hSl
        have hr : rv (ph base tt) (vR (some a)) = .ref (base + a) := by show Value.ref (ph base tt a) = _; rw [ph_lt ham]
        have hnz : vp_nar .boolean (Int32.ofInt x) = Int32.ofInt x := by unfold vp_nar; rw [(nar_z h3).1]
        rw [List.map_cons, List.map_cons, List.map_cons, hr]
        refine va_zast hx hb hC.2.1 hP world_D hS a 1 hat rfl (i32_in hir h0 h2) hd (fun H1 locs1 p1 _ p3 => ?_)
        rw [hnz, upd_mu hir h0, world_set (S' := S) (N := mu M a i x) hs (by rw [cellE_arr (Or.inr rfl)]) (fun _ _ => rfl) (fun b hb2 j => mu_ne hb2 j) hal] at p1
        exact K H1 locs1 cells slots ls (hH.put p1 p3 (mu_R hM hxr) rfl rfl) hL (okt (okt (okt hst)))
      · cases ha
    · cases ha
  · cases ha
end SIMH
end
section
section SIMH2
variable {p : Program} {l : Launch} {e : Env} {R : Room} {s : State} {m : MethodId} {args : Array Value} {below : List Frame} {meth : Method} {c : Code} {H : Heap} {locs : List Loc} {cells slots : Nat} {Q : State → Prop}
variable {cc : ByteArray} {pc : Nat} {ls : Array Slot}
variable {D : va_G} {cA : Nat → ClassId} {base : Nat} {tt : Nat → Nat} {nL MC MS : Nat} {Sf S S' : List Sh} {M M' : Mem} {mls mls' : Lv} {mst mst' : List Vv} {pc' own idx : Nat}
theorem W_size {g : JFrame} (h : H.size ≤ s.heap.size + cells → W p l e R s m args below meth c H locs cells slots Q g) : W p l e R s m args below meth c H locs cells slots Q g := fun T hT X => h (by rw [← hT]; exact X.heapSize) T hT X
theorem HI.size (hH : HI D cA base tt s MC MS Sf S M H locs cells slots) (hbase : base ≤ s.heap.size) (h : H.size ≤ s.heap.size + cells) : H.size = base + S.length := by
  obtain ⟨hP, hS, hM, hSl, hsz, -⟩ := hH
  by_cases h0 : S.length = 0
  · have := hS.1
    omega
  · obtain ⟨x, hx⟩ : ∃ x, S[S.length - 1]? = some x := ⟨_, List.getElem?_eq_getElem (by omega)⟩
    have h1 := (hP _ _ (world_at hx)).lt
    simp only at h1
    omega
theorem HI.push (hH : HI D cA base tt s MC MS Sf S M H locs cells slots) {H1 : Heap} {h : Sh} {N : Mem} (hlt : S.length < 1000000) (hbase : base ≤ s.heap.size) (hsz : H.size = base + S.length) (o1 : ∀ q, q < H.size → H1[q]? = H[q]?) (z1 : H1.size = H.size + 1) (hat : va_at D vwCl (base + S.length, cellE (ph base tt) cA N S.length h) H1) (hN : ∀ b, b < S.length → ∀ i, N b i = M b i) (hNR : ∀ a i, inR (N a i)) : HI D cA base tt s MC MS Sf (S ++ [h]) N H1 locs (cells + 1) (slots + h.2.1) := by
  obtain ⟨hP, hS, hM, hSl, h1, h2, h3⟩ := hH
  refine ⟨?_, ⟨by have := hS.1; omega, fun q q1 q2 => (o1 q (by have := hS.1; omega)).trans (hS.2.1 q q1 q2), hS.2.2⟩, hNR, by simp; omega, by simp; omega, by simp; omega, by rw [tot_app]; simp [tot] at h3 ⊢; omega⟩
  rw [← world_app (M := M) rfl hN]
  refine va_P.app (hP.kept (fun k x hx => o1 x.1 ((hP k x hx).lt))) (fun k x hx => ?_)
  have hz : k < 1 := (List.getElem?_eq_some_iff.mp hx).1
  rw [show k = 0 by omega] at hx
  cases hx
  exact hat
theorem mzs_lt {M : Mem} {a b : Nat} (h : b < a) (i : Int) : mzs M a b i = M b i := if_neg (by omega)
theorem mzs_self {M : Mem} {a : Nat} (i : Int) : mzs M a a i = 0 := if_pos (Nat.le_refl a)
theorem sh_aald (hx : p.tables.exec = Jvm.exec) (hb : c.code = cc) (hC : CK D cA base tt s args) (hown : s.vm.findClass (cN own) = some m.cls) (hH : HI D cA base tt s MC MS Sf S M H locs cells slots) (hL : LR (ph base tt) nL mls ls) (hst : ∀ v ∈ mst, okV v) (hd : decode cc pc = .ok (.aaload, 1)) (ha : aAald pc mls mst S M = some (.inl (pc', mls', mst', S', M'))) (K : KK p l e R s m args below meth c Q D cA base tt nL MC MS Sf pc' mls' mst' S' M') : W p l e R s m args below meth c H locs cells slots Q (F0 m pc ls (mst.map (rv (ph base tt)))) := by
  unfold aAald at ha
  obtain ⟨hP, hS, hM, hSl, -⟩ := id hH
  split at ha
  · next i a rest =>
    have hir : inR i := okh hst
    split at ha
    · next kd n rf hs =>
      split at ha
      · next hc =>
        obtain ⟨hk, h0, h2⟩ := hc
        obtain ⟨rfl, rfl, rfl, rfl, rfl⟩ := go_inj ha
        have hat := world_at (base := base) (f := ph base tt) (cA := cA) (M := M) hs
        rw [cellE_ref hk] at hat
        have hr : rv (ph base tt) (vR (some a)) = .ref (base + a) := by show Value.ref (ph base tt a) = _; rw [ph_lt (S_lt hs hSl).2]
        rw [List.map_cons, List.map_cons, hr]
        have hin := i32_in hir h0 h2
        have hlt : (Int32.ofInt i).toNatClampNeg < n := Nat.not_le.mp fun q => hin (Or.inr q)
        have K1 := K H locs cells slots ls hH hL (ok1 (okt (okt hst)) (v := vR (rf.getD i.toNat none)) trivial)
        have hv : (arrV (cA kd) n (fun j => va_rf ((rf.getD j none).map (ph base tt)))).slots[(Int32.ofInt i).toNatClampNeg]? = some (rv (ph base tt) (vR (rf.getD i.toNat none))) := by
          rw [arrV_read _ _ hlt, i32_clamp hir]
          rfl
        rcases hk with rfl | rfl | rfl
        · exact W.aald (ty := .array .int) hx hb (hP a _ hat) ((hC.2.1.2 2 _ rfl).1 n (fun j => va_rf ((rf.getD j none).map (ph base tt)))) rfl (fun q => by cases q) (by show ¬ (_ ∨ (arrV _ _ _).slots.size ≤ _); rw [arrV_size]; exact hin) hv rfl rfl hd K1
        · exact W.aald (ty := .object RX5) hx hb (hP a _ hat) ((hC.2.1.2 3 _ rfl).1 n (fun j => va_rf ((rf.getD j none).map (ph base tt)))) rfl (fun q => by cases q) (by show ¬ (_ ∨ (arrV _ _ _).slots.size ≤ _); rw [arrV_size]; exact hin) hv rfl rfl hd K1
        · exact W.aald (ty := .object RX6) hx hb (hP a _ hat) ((hC.2.1.2 4 _ rfl).1 n (fun j => va_rf ((rf.getD j none).map (ph base tt)))) rfl (fun q => by cases q) (by show ¬ (_ ∨ (arrV _ _ _).slots.size ≤ _); rw [arrV_size]; exact hin) hv rfl rfl hd K1
      · cases ha
    · cases ha
  · cases ha
theorem sh_aast (hx : p.tables.exec = Jvm.exec) (hb : c.code = cc) (hC : CK D cA base tt s args) (hown : s.vm.findClass (cN own) = some m.cls) (hH : HI D cA base tt s MC MS Sf S M H locs cells slots) (hL : LR (ph base tt) nL mls ls) (hst : ∀ v ∈ mst, okV v) (hd : decode cc pc = .ok (.aastore, 1)) (ha : aAast pc mls mst S M = some (.inl (pc', mls', mst', S', M'))) (K : KK p l e R s m args below meth c Q D cA base tt nL MC MS Sf pc' mls' mst' S' M') : W p l e R s m args below meth c H locs cells slots Q (F0 m pc ls (mst.map (rv (ph base tt)))) := by
  unfold aAast at ha
  obtain ⟨hP, hS, hM, hSl, -⟩ := id hH
  split at ha
  · next v i a rest =>
    have hir : inR i := okh (okt hst)
    split at ha
    · next kd n rf kv nv rfv hs hsv =>
      split at ha
      · next hc =>
        obtain ⟨hk, h0, h2, h3⟩ := hc
        obtain ⟨rfl, rfl, rfl, rfl, rfl⟩ := go_inj ha
        have hat := world_at (base := base) (f := ph base tt) (cA := cA) (M := M) hs
        rw [cellE_ref (by omega)] at hat
        have hatv := world_at (base := base) (f := ph base tt) (cA := cA) (M := M) hsv
        rw [cellE_obj (by omega)] at hatv
        obtain ⟨hal, ham⟩ := S_lt hs hSl
        have hr : rv (ph base tt) (vR (some a)) = .ref (base + a) := by show Value.ref (ph base tt a) = _; rw [ph_lt ham]
        have hrv : rv (ph base tt) (vR (some v)) = .ref (base + v) := by show Value.ref (ph base tt v) = _; rw [ph_lt (S_lt hsv hSl).2]
        rw [List.map_cons, List.map_cons, List.map_cons, hr, hrv]
        have hin := i32_in hir h0 h2
        have hfe : va_up (fun j => (rf.getD j none).map (ph base tt)) (Int32.ofInt i).toNatClampNeg (some (base + v)) = fun j => ((rf.set i.toNat (some v)).getD j none).map (ph base tt) := by
          funext j
          rw [i32_clamp hir]
          unfold va_up
          by_cases e : j = i.toNat
          · subst e
            simp [List.getD_eq_getElem?_getD, List.getElem?_set_self h3, ph_lt (base := base) (tt := tt) (S_lt hsv hSl).2]
          · simp [e, List.getD_eq_getElem?_getD, List.getElem?_set_ne (fun q => e q.symm)]
        have K1 : ∀ (H1 : Heap) (locs1 : List Loc), va_P D vwCl ((world base (ph base tt) cA S M).set a (base + a, .inl (cA kd, n, .inr (.inr (.inr (.inr (va_up (fun j => (rf.getD j none).map (ph base tt)) (Int32.ofInt i).toNatClampNeg (some (base + v))))))))) H1 → va_D (fun q => base ≤ q) ((world base (ph base tt) cA S M).set a (base + a, .inl (cA kd, n, .inr (.inr (.inr (.inr (va_up (fun j => (rf.getD j none).map (ph base tt)) (Int32.ofInt i).toNatClampNeg (some (base + v))))))))) → va_S (fun q => base ≤ q) s.heap H1 locs1 → W p l e R s m args below meth c H1 locs1 cells slots Q (F0 m (pc + 1) ls (rest.map (rv (ph base tt)))) := by
          intro H1 locs1 p1 _ p3
          rw [hfe, world_set (S' := S.set a (kd, n, rf.set i.toNat (some v))) (N := M) (List.getElem?_set_self hal) (by rw [cellE_ref (by omega)]) (fun b hb2 => S_set_ne hb2) (fun b _ j => rfl) hal] at p1
          exact K H1 locs1 cells slots ls (hH.put p1 p3 hM (List.length_set ..) (tot_set hs)) hL (okt (okt (okt hst)))
        rcases hk with ⟨rfl, rfl⟩ | ⟨rfl, rfl⟩
        · exact va_astq hx hb hC.2.1 hP world_D hS a 3 v 5 (r := (cN 5, Ct 5, fnum 5)) hat rfl hatv (cls_cl 5 (by decide)) hin hd K1
        · exact va_astq hx hb hC.2.1 hP world_D hS a 4 v 6 (r := (cN 6, Ct 6, fnum 6)) hat rfl hatv (cls_cl 6 (by decide)) hin hd K1
      · cases ha
    · cases ha
  · cases ha
theorem sh_alen (hx : p.tables.exec = Jvm.exec) (hb : c.code = cc) (hC : CK D cA base tt s args) (hown : s.vm.findClass (cN own) = some m.cls) (hH : HI D cA base tt s MC MS Sf S M H locs cells slots) (hL : LR (ph base tt) nL mls ls) (hst : ∀ v ∈ mst, okV v) (hd : decode cc pc = .ok (.arraylength, 1)) (ha : aAlen pc mls mst S M = some (.inl (pc', mls', mst', S', M'))) (K : KK p l e R s m args below meth c Q D cA base tt nL MC MS Sf pc' mls' mst' S' M') : W p l e R s m args below meth c H locs cells slots Q (F0 m pc ls (mst.map (rv (ph base tt)))) := by
  unfold aAlen at ha
  obtain ⟨hP, hS, hM, hSl, -⟩ := id hH
  split at ha
  · next a rest =>
    split at ha
    · next kd n rf hs =>
      split at ha
      · next hc =>
        obtain ⟨hk1, hk2, h2⟩ := hc
        obtain ⟨rfl, rfl, rfl, rfl, rfl⟩ := go_inj ha
        have hr : rv (ph base tt) (vR (some a)) = .ref (base + a) := by show Value.ref (ph base tt a) = _; rw [ph_lt (S_lt hs hSl).2]
        rw [List.map_cons, hr]
        have hat := world_at (base := base) (f := ph base tt) (cA := cA) (M := M) hs
        have K1 := K H locs cells slots ls hH hL (ok1 (okt hst) (v := vI (n : Int)) (show inR n from ⟨by omega, by omega⟩))
        have hv : Int32.ofNat n = Int32.ofInt (n : Int) := Int32.ofInt_eq_ofNat.symm
        rcases (show kd = 20 ∨ kd = 21 ∨ kd = 22 ∨ kd = 23 ∨ kd = 24 by omega) with rfl | rfl | rfl | rfl | rfl
        · rw [cellE_arr (Or.inl rfl)] at hat; exact va_alen hx hb hC.2.1 hP a 0 hat rfl hv hd K1
        · rw [cellE_arr (Or.inr rfl)] at hat; exact va_alen hx hb hC.2.1 hP a 1 hat rfl hv hd K1
        · rw [cellE_ref (Or.inl rfl)] at hat; exact va_alen hx hb hC.2.1 hP a 2 hat rfl hv hd K1
        · rw [cellE_ref (Or.inr (Or.inl rfl))] at hat; exact va_alen hx hb hC.2.1 hP a 3 hat rfl hv hd K1
        · rw [cellE_ref (Or.inr (Or.inr rfl))] at hat; exact va_alen hx hb hC.2.1 hP a 4 hat rfl hv hd K1
      · cases ha
    · cases ha
  · cases ha
theorem w_arrI : Cond.arrayClass FieldType.int ∈ tables_1 := by decide +kernel
theorem w_arrZ : Cond.arrayClass FieldType.boolean ∈ tables_1 := by decide +kernel
theorem sh_newaI (hx : p.tables.exec = Jvm.exec) (hb : c.code = cc) (hC : CK D cA base tt s args) (hown : s.vm.findClass (cN own) = some m.cls) (hg : S'.length ≤ Sf.length ∧ tot S' ≤ tot Sf) (hRc : R.cells = MC) (hRs : R.slots = MS) (hH : HI D cA base tt s MC MS Sf S M H locs cells slots) (hL : LR (ph base tt) nL mls ls) (hst : ∀ v ∈ mst, okV v) (hd : decode cc pc = .ok (.newarray .int, 2)) (ha : aNewa 20 pc mls mst S M = some (.inl (pc', mls', mst', S', M'))) (K : KK p l e R s m args below meth c Q D cA base tt nL MC MS Sf pc' mls' mst' S' M') : W p l e R s m args below meth c H locs cells slots Q (F0 m pc ls (mst.map (rv (ph base tt)))) := by
  unfold aNewa at ha
  obtain ⟨hP, hS, hM, hSl, h1, h2, h3⟩ := id hH
  split at ha
  · next n rest =>
    have hnr : inR n := okh hst
    split at ha
    · next hc =>
      obtain ⟨hn0, hn1, hl⟩ := hc
      obtain ⟨rfl, rfl, rfl, rfl, rfl⟩ := go_inj ha
      simp only [List.length_append, List.length_cons, List.length_nil, tot_app] at hg
      have ht1 : tot [(20, n.toNat, ([] : List (Option Nat)))] = n.toNat := by simp [tot]
      rw [ht1] at hg
      refine W_size (fun hz => ?_)
      have hsz := hH.size hC.2.2.2.1 hz
      rw [List.map_cons]
      have hn5 : n.toNat ≤ 10000 := by omega
      have hby : n.toNat * componentBytes (newarray.typeOf .int) ≤ 536870912 := by
        have h9 : componentBytes (newarray.typeOf .int) ≤ 8 := by decide
        have h8 := Nat.mul_le_mul hn5 h9
        omega
      refine va_newaK (atype := .int) hx hb (hC.1 _ (tb_in w_arrI)) (g := F0 m pc ls (rv (ph base tt) (vI n) :: rest.map (rv (ph base tt)))) rfl hd rfl (i32_neg hnr hn0) (i32_clamp hnr) hby (by rw [hRc]; omega) (by rw [hRs]; omega) hsz (fun H1 cA1 e1 z1 o1 hAr hNm => ?_)
      have hcA : cA1 = cA 20 := Option.some.inj (hNm.symm.trans (hC.2.1.2 0 _ rfl).2)
      subst hcA
      have K1 := K H1 locs (cells + 1) (slots + n.toNat) ls (hH.push (h := (20, n.toNat, [])) hl hC.2.2.2.1 hsz (fun q hq => o1 q (by omega)) (by omega) (by rw [cellE_arr (Or.inl rfl)]; show H1[base + S.length]? = some (vp_cell _ _); rw [vp_cell_i, e1]; congr 2; funext j; rw [mzs_self]; rfl) (fun b hb2 i => mzs_lt hb2 i) (mzs_R hM)) hL (ok1 (okt hst) (v := vR (some S.length)) trivial)
      have hr : rv (ph base tt) (vR (some S.length)) = .ref (base + S.length) := by show Value.ref (ph base tt _) = _; rw [ph_lt hl]
      rw [List.map_cons, hr] at K1
      exact K1
    · cases ha
  · cases ha
theorem sh_newaZ (hx : p.tables.exec = Jvm.exec) (hb : c.code = cc) (hC : CK D cA base tt s args) (hown : s.vm.findClass (cN own) = some m.cls) (hg : S'.length ≤ Sf.length ∧ tot S' ≤ tot Sf) (hRc : R.cells = MC) (hRs : R.slots = MS) (hH : HI D cA base tt s MC MS Sf S M H locs cells slots) (hL : LR (ph base tt) nL mls ls) (hst : ∀ v ∈ mst, okV v) (hd : decode cc pc = .ok (.newarray .boolean, 2)) (ha : aNewa 21 pc mls mst S M = some (.inl (pc', mls', mst', S', M'))) (K : KK p l e R s m args below meth c Q D cA base tt nL MC MS Sf pc' mls' mst' S' M') : W p l e R s m args below meth c H locs cells slots Q (F0 m pc ls (mst.map (rv (ph base tt)))) := by
  unfold aNewa at ha
  obtain ⟨hP, hS, hM, hSl, h1, h2, h3⟩ := id hH
  split at ha
  · next n rest =>
    have hnr : inR n := okh hst
    split at ha
    · next hc =>
      obtain ⟨hn0, hn1, hl⟩ := hc
      obtain ⟨rfl, rfl, rfl, rfl, rfl⟩ := go_inj ha
      simp only [List.length_append, List.length_cons, List.length_nil, tot_app] at hg
      have ht1 : tot [(21, n.toNat, ([] : List (Option Nat)))] = n.toNat := by simp [tot]
      rw [ht1] at hg
      refine W_size (fun hz => ?_)
      have hsz := hH.size hC.2.2.2.1 hz
      rw [List.map_cons]
      have hn5 : n.toNat ≤ 10000 := by omega
      have hby : n.toNat * componentBytes (newarray.typeOf .boolean) ≤ 536870912 := by
        have h9 : componentBytes (newarray.typeOf .boolean) ≤ 8 := by decide
        have h8 := Nat.mul_le_mul hn5 h9
        omega
      refine va_newaK (atype := .boolean) hx hb (hC.1 _ (tb_in w_arrZ)) (g := F0 m pc ls (rv (ph base tt) (vI n) :: rest.map (rv (ph base tt)))) rfl hd rfl (i32_neg hnr hn0) (i32_clamp hnr) hby (by rw [hRc]; omega) (by rw [hRs]; omega) hsz (fun H1 cA1 e1 z1 o1 hAr hNm => ?_)
      have hcA : cA1 = cA 21 := Option.some.inj (hNm.symm.trans (hC.2.1.2 1 _ rfl).2)
      subst hcA
      have K1 := K H1 locs (cells + 1) (slots + n.toNat) ls (hH.push (h := (21, n.toNat, [])) hl hC.2.2.2.1 hsz (fun q hq => o1 q (by omega)) (by omega) (by rw [cellE_arr (Or.inr rfl)]; show H1[base + S.length]? = some (vp_cell _ _); rw [vp_cell_i, e1]; congr 2; funext j; rw [mzs_self]; rfl) (fun b hb2 i => mzs_lt hb2 i) (mzs_R hM)) hL (ok1 (okt hst) (v := vR (some S.length)) trivial)
      have hr : rv (ph base tt) (vR (some S.length)) = .ref (base + S.length) := by show Value.ref (ph base tt _) = _; rw [ph_lt hl]
      rw [List.map_cons, hr] at K1
      exact K1
    · cases ha
  · cases ha
theorem sh_newq (hx : p.tables.exec = Jvm.exec) (hb : c.code = cc) (hC : CK D cA base tt s args) (hown : s.vm.findClass (cN own) = some m.cls) (hix : idx < 1000) (hg : S'.length ≤ Sf.length ∧ tot S' ≤ tot Sf) (hRc : R.cells = MC) (hRs : R.slots = MS) (hH : HI D cA base tt s MC MS Sf S M H locs cells slots) (hL : LR (ph base tt) nL mls ls) (hst : ∀ v ∈ mst, okV v) (hd : decode cc pc = .ok (.anewarray idx, 3)) (ha : aNewq (own * 1000 + idx) pc mls mst S M = some (.inl (pc', mls', mst', S', M'))) (K : KK p l e R s m args below meth c Q D cA base tt nL MC MS Sf pc' mls' mst' S' M') : W p l e R s m args below meth c H locs cells slots Q (F0 m pc ls (mst.map (rv (ph base tt)))) := by
  unfold aNewq at ha
  obtain ⟨hP, hS, hM, hSl, h1, h2, h3⟩ := id hH
  split at ha
  · next n rest ci hk =>
    have hnr : inR n := okh hst
    split at ha
    · next hc =>
      obtain ⟨hn0, hn1, hci, hl⟩ := hc
      obtain ⟨rfl, rfl, rfl, rfl, rfl⟩ := go_inj ha
      have hw := wK _ (lk_mem hk)
      unfold wordK at hw
      rw [(key_div hix).1, (key_div hix).2] at hw
      simp only [List.length_append, List.length_cons, List.length_nil, tot_app] at hg
      have ht1 : tot [(ci + 18, n.toNat, List.replicate n.toNat (none : Option Nat))] = n.toNat := by simp [tot]
      rw [ht1] at hg
      refine W_size (fun hz => ?_)
      have hsz := hH.size hC.2.2.2.1 hz
      rw [List.map_cons]
      have hcK : cK ci = cN ci := by unfold cK; rw [if_neg (by omega)]
      rw [hcK] at hw
      have hov : (Cond.arrayOver (.object (cN ci))).before args s = true := by
        rcases hci with rfl | rfl
        · exact va_AO.use hC.2.2.2.2.1
        · exact va_AO.use hC.2.2.2.2.2.1
      refine W.anew hx hb hown (hC.1 _ (tb_in hw)) hov (g := F0 m pc ls (rv (ph base tt) (vI n) :: rest.map (rv (ph base tt)))) rfl hd rfl (i32_neg hnr hn0) (by rw [i32_clamp hnr]; omega) (by rw [hRc]; omega) (by rw [hRs, i32_clamp hnr]; omega) (fun cA1 kA comp f1 f2 f3 f4 => ?_)
      rw [i32_clamp hnr]
      have hcA : cA1 = cA (ci + 18) := by
        rcases hci with rfl | rfl
        · obtain ⟨-, -, -, -, -, f5⟩ := (hC.2.1.2 3 _ rfl).2
          exact Option.some.inj (f1.symm.trans f5)
        · obtain ⟨-, -, -, -, -, f5⟩ := (hC.2.1.2 4 _ rfl).2
          exact Option.some.inj (f1.symm.trans f5)
      subst hcA
      generalize hH1 : H.push ({ cls := cA (ci + 18), slots := Array.replicate n.toNat .null, vm := .none } : Cell) = H1
      have z1 : H1.size = H.size + 1 := by rw [← hH1, Array.size_push]
      have e1 : H1[H.size]? = some (arrV (cA (ci + 18)) n.toNat (fun _ => .null)) := by rw [← hH1, Array.getElem?_push_size, ← arrV_new]
      have o1 : ∀ q : Nat, q < H.size → H1[q]? = H[q]? := fun q hq => by rw [← hH1, Array.getElem?_push, if_neg (Nat.ne_of_lt hq)]
      have K1 := K H1 locs (cells + 1) (slots + n.toNat) ls (hH.push (h := (ci + 18, n.toNat, List.replicate n.toNat none)) hl hC.2.2.2.1 hsz o1 z1 (by rw [cellE_ref (by omega)]; show H1[base + S.length]? = some (vp_cell _ _); rw [vp_cell_q, ← hsz, e1]; congr 2; funext j; simp [List.getD_eq_getElem?_getD, List.getElem?_replicate]; split <;> rfl) (fun b hb2 i => mzs_lt hb2 i) (mzs_R hM)) hL (ok1 (okt hst) (v := vR (some S.length)) trivial)
      have hr : rv (ph base tt) (vR (some S.length)) = .ref H.size := by show Value.ref (ph base tt _) = _; rw [ph_lt hl, hsz]
      rw [List.map_cons, hr] at K1
      exact K1
    · cases ha
  · cases ha
theorem sh_new (hx : p.tables.exec = Jvm.exec) (hb : c.code = cc) (hC : CK D cA base tt s args) (hown : s.vm.findClass (cN own) = some m.cls) (hix : idx < 1000) (hg : S'.length ≤ Sf.length ∧ tot S' ≤ tot Sf) (hRc : R.cells = MC) (hRs : R.slots = MS) (hH : HI D cA base tt s MC MS Sf S M H locs cells slots) (hL : LR (ph base tt) nL mls ls) (hst : ∀ v ∈ mst, okV v) (hd : decode cc pc = .ok (.new idx, 3)) (ha : aNew (own * 1000 + idx) pc mls mst S M = some (.inl (pc', mls', mst', S', M'))) (K : KK p l e R s m args below meth c Q D cA base tt nL MC MS Sf pc' mls' mst' S' M') : W p l e R s m args below meth c H locs cells slots Q (F0 m pc ls (mst.map (rv (ph base tt)))) := by
  unfold aNew at ha
  obtain ⟨hP, hS, hM, hSl, h1, h2, h3⟩ := id hH
  split at ha
  · next ci hk =>
    split at ha
    · next hc =>
      obtain ⟨hci, hl⟩ := hc
      obtain ⟨rfl, rfl, rfl, rfl, rfl⟩ := go_inj ha
      have hw := wK _ (lk_mem hk)
      unfold wordK at hw
      rw [(key_div hix).1, (key_div hix).2] at hw
      simp only [List.length_append, List.length_cons, List.length_nil, tot_app] at hg
      have ht1 : tot [(ci, fnum ci, List.replicate (fnum ci) (none : Option Nat))] = fnum ci := by simp [tot]
      rw [ht1] at hg
      refine W_size (fun hz => ?_)
      have hsz := hH.size hC.2.2.2.1 hz
      have hcK : cK ci = cN ci := by unfold cK; rw [if_neg (by omega)]
      rw [hcK] at hw
      have hKn := hC.2.1.1 ci _ (cls_cl ci hci)
      refine W.newcK hx hb hown (hC.1 _ (tb_in hw)) (hC.1 _ (tb_in (cls_inst ci hci).1)) (hC.1 _ (tb_in (cls_inst ci hci).2)) rfl hd (by rw [hRc]; omega) (by rw [hRs]; omega) hKn.2.1 hsz (fun H1 kC hkC e1 z1 o1 => ?_)
      have K1 := K H1 locs (cells + 1) (slots + fnum ci) ls (hH.push (h := (ci, fnum ci, List.replicate (fnum ci) none)) hl hC.2.2.2.1 hsz (fun q hq => o1 q (by omega)) (by omega) (by
        rw [cellE_obj hci]
        refine ⟨_, cls_cl ci hci, (u_born (Cty ci) hC.1 (cls_in hci) hKn hkC e1 (cls_ty ci hci)).to (fun j hj => ?_)⟩
        obtain ⟨t0, t1, t2, t3⟩ := cls_fty ci hci j hj
        unfold vp_V
        rw [List.getD_eq_getElem?_getD, List.getElem?_map, List.getElem?_range hj]
        show defaultValue (Cty ci j) = slotV _ _ _ _ _ j
        unfold slotV
        rcases (show fty ci j = 0 ∨ fty ci j = 1 ∨ fty ci j = 2 by omega) with q | q | q
        · rw [if_neg (by omega), t0 q, mzs_self]; rfl
        · rw [if_pos q]
          have h9 : (List.replicate (fnum ci) (none : Option Nat)).getD j none = none := by rw [List.getD_eq_getElem?_getD, List.getElem?_replicate]; split <;> rfl
          rw [h9]
          have h8 := t1 q
          revert h8
          cases Cty ci j <;> intro h8 <;> first | rfl | cases h8
        · rw [if_neg (by omega), t2 q, mzs_self]; rfl) (fun b hb2 i => mzs_lt hb2 i) (mzs_R hM)) hL (ok1 hst (v := vR (some S.length)) trivial)
      have hr : rv (ph base tt) (vR (some S.length)) = .ref (base + S.length) := by show Value.ref (ph base tt _) = _; rw [ph_lt hl]
      rw [List.map_cons, hr] at K1
      exact K1
    · cases ha
  · cases ha
theorem sh_ldc (hx : p.tables.exec = Jvm.exec) (hb : c.code = cc) (hC : CK D cA base tt s args) (hown : s.vm.findClass (cN own) = some m.cls) (hix : idx < 1000) (hH : HI D cA base tt s MC MS Sf S M H locs cells slots) (hL : LR (ph base tt) nL mls ls) (hst : ∀ v ∈ mst, okV v) (hd : decode cc pc = .ok (.ldc idx, 2)) (ha : aLdc (own * 1000 + idx) pc 2 mls mst S M = some (.inl (pc', mls', mst', S', M'))) (K : KK p l e R s m args below meth c Q D cA base tt nL MC MS Sf pc' mls' mst' S' M') : W p l e R s m args below meth c H locs cells slots Q (F0 m pc ls (mst.map (rv (ph base tt)))) := by
  unfold aLdc at ha
  split at ha
  · next x hk =>
    obtain ⟨hr, rfl, rfl, rfl, rfl, rfl⟩ := pI_inj ha
    have hw := wC _ (lk_mem hk)
    unfold wordC at hw
    rw [(key_div hix).1, (key_div hix).2] at hw
    exact lv_ldc hx hb hown (hC.1 _ (tb_in hw)) hd (K H locs cells slots ls hH hL (ok1 hst hr))
  · cases ha
theorem sh_ldcw (hx : p.tables.exec = Jvm.exec) (hb : c.code = cc) (hC : CK D cA base tt s args) (hown : s.vm.findClass (cN own) = some m.cls) (hix : idx < 1000) (hH : HI D cA base tt s MC MS Sf S M H locs cells slots) (hL : LR (ph base tt) nL mls ls) (hst : ∀ v ∈ mst, okV v) (hd : decode cc pc = .ok (.ldc_w idx, 3)) (ha : aLdc (own * 1000 + idx) pc 3 mls mst S M = some (.inl (pc', mls', mst', S', M'))) (K : KK p l e R s m args below meth c Q D cA base tt nL MC MS Sf pc' mls' mst' S' M') : W p l e R s m args below meth c H locs cells slots Q (F0 m pc ls (mst.map (rv (ph base tt)))) := by
  unfold aLdc at ha
  split at ha
  · next x hk =>
    obtain ⟨hr, rfl, rfl, rfl, rfl, rfl⟩ := pI_inj ha
    have hw := wC _ (lk_mem hk)
    unfold wordC at hw
    rw [(key_div hix).1, (key_div hix).2] at hw
    exact lv_ldcw hx hb hown (hC.1 _ (tb_in hw)) hd (K H locs cells slots ls hH hL (ok1 hst hr))
  · cases ha
theorem sh_ldc2 (hx : p.tables.exec = Jvm.exec) (hb : c.code = cc) (hC : CK D cA base tt s args) (hown : s.vm.findClass (cN own) = some m.cls) (hix : idx < 1000) (hH : HI D cA base tt s MC MS Sf S M H locs cells slots) (hL : LR (ph base tt) nL mls ls) (hst : ∀ v ∈ mst, okV v) (hd : decode cc pc = .ok (.ldc2_w idx, 3)) (ha : aLdc2 (own * 1000 + idx) pc mls mst S M = some (.inl (pc', mls', mst', S', M'))) (K : KK p l e R s m args below meth c Q D cA base tt nL MC MS Sf pc' mls' mst' S' M') : W p l e R s m args below meth c H locs cells slots Q (F0 m pc ls (mst.map (rv (ph base tt)))) := by
  unfold aLdc2 at ha
  split at ha
  · next x hk =>
    obtain ⟨hr, rfl, rfl, rfl, rfl, rfl⟩ := pL_inj ha
    have hw := wL _ (lk_mem hk)
    unfold wordL at hw
    rw [(key_div hix).1, (key_div hix).2] at hw
    exact lv_ldc2 hx hb hown (hC.1 _ (tb_in hw)) hd (K H locs cells slots ls hH hL (ok1 hst hr))
  · cases ha
theorem sh_gets (hx : p.tables.exec = Jvm.exec) (hb : c.code = cc) (hC : CK D cA base tt s args) (hown : s.vm.findClass (cN own) = some m.cls) (hix : idx < 1000) (hH : HI D cA base tt s MC MS Sf S M H locs cells slots) (hL : LR (ph base tt) nL mls ls) (hst : ∀ v ∈ mst, okV v) (hd : decode cc pc = .ok (.getstatic idx, 3)) (ha : aGets (own * 1000 + idx) pc mls mst S M = some (.inl (pc', mls', mst', S', M'))) (K : KK p l e R s m args below meth c Q D cA base tt nL MC MS Sf pc' mls' mst' S' M') : W p l e R s m args below meth c H locs cells slots Q (F0 m pc ls (mst.map (rv (ph base tt)))) := by
  unfold aGets at ha
  split at ha
  · next j hk =>
    split at ha
    · next hj =>
      obtain ⟨rfl, rfl, rfl, rfl, rfl⟩ := go_inj ha
      have hw := wS _ (lk_mem hk)
      unfold wordS at hw
      rw [(key_div hix).1, (key_div hix).2] at hw
      have K1 := K H locs cells slots ls hH hL (ok1 hst (v := vR (some (1000000 + j))) trivial)
      have hr : rv (ph base tt) (vR (some (1000000 + j))) = .ref (tt j) := by show Value.ref (ph base tt (1000000 + j)) = _; rw [ph_st]
      rw [List.map_cons, hr] at K1
      exact va_gets hx hb (hC.2.2.1 j hj).1 hH.2.1 hown (hC.1 _ (tb_in hw)) (fun x h => h) hd K1
    · cases ha
  · cases ha
end SIMH2
end
section
section SIMC
variable {p : Program} {l : Launch} {e : Env} {R : Room} {s : State} {m : MethodId} {args : Array Value} {below : List Frame} {meth : Method} {c : Code} {H : Heap} {locs : List Loc} {cells slots : Nat} {Q : State → Prop}
variable {cc : ByteArray} {pc : Nat} {ls : Array Slot}
variable {D : va_G} {cA : Nat → ClassId} {base : Nat} {tt : Nat → Nat} {nL MC MS : Nat} {Sf S S' : List Sh} {M M' : Mem} {mls mls' : Lv} {mst mst' : List Vv} {pc' own idx : Nat}
theorem catS_rv {f : Nat → Nat} (st : List Vv) : ((st.map (rv f)).map fun v => v.category).sum = catS st := by
  unfold catS
  rw [List.map_map]
  congr 2
  funext v
  exact rv_cat v
theorem w_nat : Cond.native arraycopyN ∈ tables_1 := by decide +kernel
theorem w_nst : Cond.static arraycopyN ∈ tables_1 := by decide +kernel
theorem w_nin : Cond.initialized "java/lang/System" ∈ tables_1 := by decide +kernel
theorem w_oi : Cond.instanceMethod objectInit ∈ tables_1 := by decide +kernel
theorem w_oc : Cond.code objectInit ⟨#[0xb1]⟩ 1 none ∈ tables_1 := List.mem_of_getElem? (i := 19) rfl
theorem w_mi : Cond.initialized "java/lang/Math" ∈ tables_1 := by decide +kernel
set_option maxRecDepth 100000 in
theorem w_mx : Cond.static Lib.Math.max.name ∈ tables_1 ∧ Cond.code Lib.Math.max.name Lib.Math.max.code 2 (some .int) ∈ tables_1 := ⟨by decide +kernel, List.mem_of_getElem? (i := 708) rfl⟩
set_option maxRecDepth 100000 in
theorem w_mn : Cond.static Lib.Math.min.name ∈ tables_1 ∧ Cond.code Lib.Math.min.name Lib.Math.min.code 2 (some .int) ∈ tables_1 := ⟨by decide +kernel, List.mem_of_getElem? (i := 435) rfl⟩
theorem mcp_R {M : Mem} {a b : Nat} {sp dp n : Int} (h : ∀ a i, inR (M a i)) : ∀ c j, inR (mcp M a sp b dp n c j) := fun c j => by
  unfold mcp
  split
  · exact h _ _
  · exact h _ _
theorem cpy_mcp {M : Mem} {a b : Nat} {sp dp n : Int} (h1 : inR sp) (h2 : inR dp) (h3 : inR n) (p1 : 0 ≤ sp) (p2 : 0 ≤ dp) (p3 : 0 ≤ n) : va_cpy (fun j => Int32.ofInt (M a (j : Int))) (fun j => Int32.ofInt (M b (j : Int))) (Int32.ofInt sp).toNatClampNeg (Int32.ofInt dp).toNatClampNeg (Int32.ofInt n).toNatClampNeg = fun (j : Nat) => Int32.ofInt (mcp M a sp b dp n b (j : Int)) := by
  funext j
  rw [i32_clamp h1, i32_clamp h2, i32_clamp h3]
  unfold va_cpy mcp
  by_cases e : dp.toNat ≤ j ∧ j < dp.toNat + n.toNat
  · have e3 : ((sp.toNat + (j - dp.toNat) : Nat) : Int) = sp + ((j : Int) - dp) := by omega
    rw [if_pos e, if_pos ⟨rfl, by omega, by omega⟩, ← e3]
  · rw [if_neg e, if_neg (fun q => e ⟨by have := q.2.1; omega, by have := q.2.2; omega⟩)]
theorem notNest {k v : Nat} (h : isNest (k, v) = false) : wordM (k, v) = .methodLink (cN (k / 1000)) (k % 1000) (mYY v) := by
  unfold wordM
  rw [h]
  rfl
theorem nest_1000 : ∀ q ∈ poolM, (1000 ≤ q.2 ∨ mS q.2 = true ∨ ¬ (mY q.2).name = "<init>") → isNest q = false := by decide +kernel
theorem sc_copy (hx : p.tables.exec = Jvm.exec) (hb : c.code = cc) (hml : c.maxLocals = nL) (hg : S'.length ≤ Sf.length ∧ tot S' ≤ tot Sf) (hRc : R.cells = MC) (hRs : R.slots = MS) (hC : CK D cA base tt s args) (hown : s.vm.findClass (cN own) = some m.cls) (hix : idx < 1000) (hRf : 1 ≤ R.frames) (hRl : 40 ≤ R.locals) (hH : HI D cA base tt s MC MS Sf S M H locs cells slots) (hL : LR (ph base tt) nL mls ls) (hst : ∀ v ∈ mst, okV v) (hd : decode cc pc = .ok (.invokestatic idx, 3)) (ha : aInvS (own * 1000 + idx) pc mls mst S M = some (.inl (pc', mls', mst', S', M'))) (K : KK p l e R s m args below meth c Q D cA base tt nL MC MS Sf pc' mls' mst' S' M') : W p l e R s m args below meth c H locs cells slots Q (F0 m pc ls (mst.map (rv (ph base tt)))) := by
  unfold aInvS at ha
  obtain ⟨hP, hS, hM, hSl, -⟩ := id hH
  split at ha
  · next mid hk =>
    split at ha
    · next h1 =>
      subst h1
      split at ha
      · next n dp b sp a rest =>
        split at ha
        · next ka na ra kb nb rb hsa hsb =>
          split at ha
          · next hc =>
            obtain ⟨rfl, rfl, p3, p1, p2, q1, q2, hcat⟩ := hc
            obtain ⟨rfl, rfl, rfl, rfl, rfl⟩ := go_inj ha
            have hw := wM _ (lk_mem hk)
            rw [notNest (nest_1000 _ (lk_mem hk) (Or.inl (by show 1000 ≤ _; omega))), (key_div hix).1, (key_div hix).2] at hw
            have hnr : inR n := okh hst
            have hdr : inR dp := okh (okt hst)
            have hsr : inR sp := okh (okt (okt (okt hst)))
            have hata := world_at (base := base) (f := ph base tt) (cA := cA) (M := M) hsa
            rw [cellE_arr (Or.inl rfl)] at hata
            have hatb := world_at (base := base) (f := ph base tt) (cA := cA) (M := M) hsb
            rw [cellE_arr (Or.inl rfl)] at hatb
            obtain ⟨hbl, hbm⟩ := S_lt hsb hSl
            have hra : rv (ph base tt) (vR (some a)) = .ref (base + a) := by show Value.ref (ph base tt a) = _; rw [ph_lt (S_lt hsa hSl).2]
            have hrb : rv (ph base tt) (vR (some b)) = .ref (base + b) := by show Value.ref (ph base tt b) = _; rw [ph_lt hbm]
            simp only [List.map_cons, hra, hrb]
            refine va_copyi hx hb (hml.trans hL.2.1.symm) hown (hC.1 _ (tb_in hw)) (hC.1 _ (tb_in w_nat)) (hC.1 _ (tb_in w_nst)) (hC.1 _ (tb_in w_nin)) hC.2.1 hP world_D hS a b 0 0 hata hatb rfl rfl rfl (i32_neg hsr p1) (i32_neg hdr p2) (i32_neg hnr p3) (by rw [i32_clamp hsr, i32_clamp hnr]; omega) (by rw [i32_clamp hdr, i32_clamp hnr]; omega) (fun i _ => rfl) hRf ?_ hd (fun H1 locs1 g1 _ g3 => ?_)
            · rw [catS_rv]
              have h9 : nativeFrameWords "java/lang/System" "arraycopy" 5 = 7 := by decide +kernel
              rw [h9]
              omega
            · rw [cpy_mcp hsr hdr hnr p1 p2 p3, world_set (S' := S) (N := mcp M a sp b dp n) hsb (by rw [cellE_arr (Or.inl rfl)]) (fun _ _ => rfl) (fun c hc2 j => if_neg (fun q => hc2 q.1)) hbl] at g1
              exact K H1 locs1 cells slots ls (hH.put g1 g3 (mcp_R hM) rfl rfl) hL (okt (okt (okt (okt (okt hst)))))
          · cases ha
        · cases ha
      · cases ha
    · split at ha
      · next h1 =>
        subst h1
        split at ha
        · next y x rest =>
          split at ha
          · next hcat =>
            obtain ⟨rfl, rfl, rfl, rfl, rfl⟩ := go_inj ha
            have hw := wM _ (lk_mem hk)
            rw [notNest (nest_1000 _ (lk_mem hk) (Or.inl (by show 1000 ≤ _; omega))), (key_div hix).1, (key_div hix).2] at hw
            have hy : inR y := okh hst
            have hx2 : inR x := okh (okt hst)
            have K1 := K H locs cells slots ls hH hL (ok1 (okt (okt hst)) (v := vI (if x < y then y else x)) (by show inR _; split <;> assumption))
            have e1 : (if Int32.ofInt x < Int32.ofInt y then Int32.ofInt y else Int32.ofInt x) = Int32.ofInt (if x < y then y else x) := by
              by_cases h : x < y
              · rw [if_pos h, if_pos ((i32_lt hx2 hy).mpr h)]
              · rw [if_neg h, if_neg (fun q => h ((i32_lt hx2 hy).mp q))]
            simp only [List.map_cons, rv] at K1 ⊢
            rw [← e1] at K1
            exact va_mmax hx hb (hml.trans hL.2.1.symm) hown (hC.1 _ (tb_in hw)) (hC.1 _ (tb_in w_mx.1)) (hC.1 _ (tb_in w_mi)) (hC.1 _ (tb_in w_mx.2)) hRf (by rw [catS_rv]; omega) (by rw [hRc]; have := hH.2.2.2.2.2.1; omega) (by rw [hRs]; have := hH.2.2.2.2.2.2; omega) hd K1
          · cases ha
        · cases ha
      · split at ha
        · next h1 =>
          subst h1
          split at ha
          · next y x rest =>
            split at ha
            · next hcat =>
              obtain ⟨rfl, rfl, rfl, rfl, rfl⟩ := go_inj ha
              have hw := wM _ (lk_mem hk)
              rw [notNest (nest_1000 _ (lk_mem hk) (Or.inl (by show 1000 ≤ _; omega))), (key_div hix).1, (key_div hix).2] at hw
              have hy : inR y := okh hst
              have hx2 : inR x := okh (okt hst)
              have K1 := K H locs cells slots ls hH hL (ok1 (okt (okt hst)) (v := vI (if y < x then y else x)) (by show inR _; split <;> assumption))
              have e1 : (if Int32.ofInt y < Int32.ofInt x then Int32.ofInt y else Int32.ofInt x) = Int32.ofInt (if y < x then y else x) := by
                by_cases h : y < x
                · rw [if_pos h, if_pos ((i32_lt hy hx2).mpr h)]
                · rw [if_neg h, if_neg (fun q => h ((i32_lt hy hx2).mp q))]
              simp only [List.map_cons, rv] at K1 ⊢
              rw [← e1] at K1
              exact va_mmin hx hb (hml.trans hL.2.1.symm) hown (hC.1 _ (tb_in hw)) (hC.1 _ (tb_in w_mn.1)) (hC.1 _ (tb_in w_mi)) (hC.1 _ (tb_in w_mn.2)) hRf (by rw [catS_rv]; omega) (by rw [hRc]; have := hH.2.2.2.2.2.1; omega) (by rw [hRs]; have := hH.2.2.2.2.2.2; omega) hd K1
            · cases ha
          · cases ha
        · split at ha <;> cases ha
  · cases ha
theorem sc_obj (hx : p.tables.exec = Jvm.exec) (hb : c.code = cc) (hml : c.maxLocals = nL) (hC : CK D cA base tt s args) (hown : s.vm.findClass (cN own) = some m.cls) (hix : idx < 1000) (hRf : 1 ≤ R.frames) (hRl : 40 ≤ R.locals) (hH : HI D cA base tt s MC MS Sf S M H locs cells slots) (hL : LR (ph base tt) nL mls ls) (hst : ∀ v ∈ mst, okV v) (hd : decode cc pc = .ok (.invokespecial idx, 3)) (ha : aInvI (own * 1000 + idx) pc mls mst S M = some (.inl (pc', mls', mst', S', M'))) (K : KK p l e R s m args below meth c Q D cA base tt nL MC MS Sf pc' mls' mst' S' M') : W p l e R s m args below meth c H locs cells slots Q (F0 m pc ls (mst.map (rv (ph base tt)))) := by
  unfold aInvI at ha
  split at ha
  · next mid hk =>
    split at ha
    · next h1 =>
      subst h1
      split at ha
      · next a rest =>
        split at ha
        · next hcat =>
          obtain ⟨rfl, rfl, rfl, rfl, rfl⟩ := go_inj ha
          have hw := wM _ (lk_mem hk)
          rw [notNest (nest_1000 _ (lk_mem hk) (Or.inl (by show 1000 ≤ _; omega))), (key_div hix).1, (key_div hix).2] at hw
          exact W.objInit hx hb hown (hC.1 _ (tb_in hw)) (hC.1 _ (tb_in w_oi)) (hC.1 _ (tb_in w_oc)) rfl (hL.2.1.trans hml.symm) rfl hd hRf (by show 2 * 0 + _ + 12 ≤ _; rw [catS_rv]; omega) (K H locs cells slots ls hH hL (okt hst))
        · cases ha
      · cases ha
    · split at ha
      · split at ha
        · split at ha
          · cases ha
          · cases ha
        · cases ha
      · cases ha
  · cases ha
end SIMC
end
section
/-! what a step leaves of the shapes: never fewer -/
def Gr (S S' : List Sh) : Prop := S.length ≤ S'.length ∧ tot S ≤ tot S'
theorem Gr.rf (S : List Sh) : Gr S S := ⟨Nat.le_refl _, Nat.le_refl _⟩
theorem Gr.eq {S S' : List Sh} (h : S = S') : Gr S S' := h ▸ Gr.rf S
theorem Gr.app (S T : List Sh) : Gr S (S ++ T) := ⟨by simp, by rw [tot_app]; omega⟩
theorem Gr.tr {S T U : List Sh} (h : Gr S T) (h2 : Gr T U) : Gr S U := ⟨Nat.le_trans h.1 h2.1, Nat.le_trans h.2 h2.2⟩
section GR
variable {pc pc' : Nat} {ls ls' : Lv} {st st' : List Vv} {S S' : List Sh} {M M' : Mem}
theorem gr_go (h : go pc ls st S M = some (.inl (pc', ls', st', S', M'))) : Gr S S' := Gr.eq (go_inj h).2.2.2.1
theorem gr_pI {x : Int} (h : pI pc ls st S M x = some (.inl (pc', ls', st', S', M'))) : Gr S S' := Gr.eq (pI_inj h).2.2.2.2.1
theorem gr_pL {x : Int} (h : pL pc ls st S M x = some (.inl (pc', ls', st', S', M'))) : Gr S S' := Gr.eq (pL_inj h).2.2.2.2.1
theorem gr_jmp {x : Int} (h : jmp pc x ls st S M = some (.inl (pc', ls', st', S', M'))) : Gr S S' := Gr.eq (jmp_inj h).2.2.2.1
theorem gr_bI {f : Int → Int → Option Int} (h : bI pc ls st S M f = some (.inl (pc', ls', st', S', M'))) : Gr S S' := by
  obtain ⟨_, _, _, _, _, _, _, _, _, _, e, _⟩ := bI_inj h
  exact Gr.eq e
theorem gr_bL {f : Int → Int → Option Int} (h : bL pc ls st S M f = some (.inl (pc', ls', st', S', M'))) : Gr S S' := by
  obtain ⟨_, _, _, _, _, _, _, _, _, _, e, _⟩ := bL_inj h
  exact Gr.eq e
theorem gr_uI {f : Int → Int} (h : uI pc ls st S M f = some (.inl (pc', ls', st', S', M'))) : Gr S S' := by
  obtain ⟨_, _, _, _, _, _, _, e, _⟩ := uI_inj h
  exact Gr.eq e
theorem gr_br {b : Bool} {x : Int} (h : br b pc x ls st S M = some (.inl (pc', ls', st', S', M'))) : Gr S S' := by
  obtain ⟨_, _, _, _, _, e, _⟩ := br_inj h
  exact Gr.eq e
theorem gr_ldI {k : Nat} (h : ldI pc k ls st S M = some (.inl (pc', ls', st', S', M'))) : Gr S S' := by
  unfold ldI at h; split at h <;> first | exact gr_go h | cases h
theorem gr_ldL {k : Nat} (h : ldL pc k ls st S M = some (.inl (pc', ls', st', S', M'))) : Gr S S' := by
  unfold ldL at h; split at h <;> first | exact gr_go h | cases h
theorem gr_ldA {k : Nat} (h : ldA pc k ls st S M = some (.inl (pc', ls', st', S', M'))) : Gr S S' := by
  unfold ldA at h; split at h <;> first | exact gr_go h | cases h
theorem gr_stI {k : Nat} (h : stI pc k ls st S M = some (.inl (pc', ls', st', S', M'))) : Gr S S' := by
  unfold stI at h; split at h <;> first | cases h | (split at h <;> first | exact gr_go h | cases h)
theorem gr_stL {k : Nat} (h : stL pc k ls st S M = some (.inl (pc', ls', st', S', M'))) : Gr S S' := by
  unfold stL at h; split at h <;> first | cases h | (split at h <;> first | exact gr_go h | cases h)
theorem gr_stA {k : Nat} (h : stA pc k ls st S M = some (.inl (pc', ls', st', S', M'))) : Gr S S' := by
  unfold stA at h; split at h <;> first | cases h | (split at h <;> first | exact gr_go h | cases h)
theorem gr_c0 {x : Int} {f : Int → Bool} (h : c0 pc x ls st S M f = some (.inl (pc', ls', st', S', M'))) : Gr S S' := by
  unfold c0 at h; split at h <;> first | exact gr_br h | cases h
theorem gr_cI {x : Int} {f : Int → Int → Bool} (h : cI pc x ls st S M f = some (.inl (pc', ls', st', S', M'))) : Gr S S' := by
  unfold cI at h; split at h <;> first | exact gr_br h | cases h
theorem gr_getf {k : Nat} (h : aGetf k pc ls st S M = some (.inl (pc', ls', st', S', M'))) : Gr S S' := by
  unfold aGetf at h
  split at h
  · split at h
    · split at h
      · split at h <;> exact gr_go h
      · cases h
    · cases h
  · cases h
theorem gr_set {a kd n : Nat} {rf rf' : List (Option Nat)} (hs : S[a]? = some (kd, n, rf)) : Gr S (S.set a (kd, n, rf')) := ⟨by rw [List.length_set]; exact Nat.le_refl _, by rw [tot_set hs]; exact Nat.le_refl _⟩
theorem gr_putf {own k : Nat} {ini : Bool} (h : aPutf own ini k pc ls st S M = some (.inl (pc', ls', st', S', M'))) : Gr S S' := by
  unfold aPutf at h
  split at h
  · split at h
    · next hs =>
      split at h
      · split at h
        · split at h
          · exact gr_go h
          · cases h
        · split at h
          · exact (gr_set hs).tr (gr_go h)
          · cases h
        · cases h
      · cases h
    · cases h
  · cases h
theorem gr_iald (h : aIald pc ls st S M = some (.inl (pc', ls', st', S', M'))) : Gr S S' := by
  unfold aIald at h
  split at h
  · split at h
    · split at h
      · split at h
        · split at h
          · exact gr_go h
          · cases h
        · cases h
      · split at h
        · split at h
          · exact gr_go h
          · cases h
        · cases h
    · cases h
  · cases h
theorem gr_iast (h : aIast pc ls st S M = some (.inl (pc', ls', st', S', M'))) : Gr S S' := by
  unfold aIast at h; split at h <;> first | cases h | (split at h <;> first | cases h | (split at h <;> first | exact gr_go h | cases h))
theorem gr_bald (h : aBald pc ls st S M = some (.inl (pc', ls', st', S', M'))) : Gr S S' := by
  unfold aBald at h; split at h <;> first | cases h | (split at h <;> first | cases h | (split at h <;> first | exact gr_go h | cases h))
theorem gr_bast (h : aBast pc ls st S M = some (.inl (pc', ls', st', S', M'))) : Gr S S' := by
  unfold aBast at h; split at h <;> first | cases h | (split at h <;> first | cases h | (split at h <;> first | exact gr_go h | cases h))
theorem gr_aald (h : aAald pc ls st S M = some (.inl (pc', ls', st', S', M'))) : Gr S S' := by
  unfold aAald at h; split at h <;> first | cases h | (split at h <;> first | cases h | (split at h <;> first | exact gr_go h | cases h))
theorem gr_alen (h : aAlen pc ls st S M = some (.inl (pc', ls', st', S', M'))) : Gr S S' := by
  unfold aAlen at h; split at h <;> first | cases h | (split at h <;> first | cases h | (split at h <;> first | exact gr_go h | cases h))
theorem gr_aast (h : aAast pc ls st S M = some (.inl (pc', ls', st', S', M'))) : Gr S S' := by
  unfold aAast at h
  split at h
  · split at h
    · next hs hv =>
      split at h
      · exact (gr_set hs).tr (gr_go h)
      · cases h
    · cases h
  · cases h
theorem gr_newa {k : Nat} (h : aNewa k pc ls st S M = some (.inl (pc', ls', st', S', M'))) : Gr S S' := by
  unfold aNewa at h; split at h <;> first | cases h | (split at h <;> first | exact (Gr.app _ _).tr (gr_go h) | cases h)
theorem gr_newq {k : Nat} (h : aNewq k pc ls st S M = some (.inl (pc', ls', st', S', M'))) : Gr S S' := by
  unfold aNewq at h; split at h <;> first | cases h | (split at h <;> first | exact (Gr.app _ _).tr (gr_go h) | cases h)
theorem gr_newm {k : Nat} (h : aNewm k pc ls st S M = some (.inl (pc', ls', st', S', M'))) : Gr S S' := by
  unfold aNewm at h; split at h <;> first | cases h | (split at h <;> first | exact (Gr.app _ _).tr (gr_go h) | cases h)
theorem gr_newO {k : Nat} (h : aNew k pc ls st S M = some (.inl (pc', ls', st', S', M'))) : Gr S S' := by
  unfold aNew at h; split at h <;> first | cases h | (split at h <;> first | exact (Gr.app _ _).tr (gr_go h) | cases h)
theorem gr_invV {k : Nat} (h : aInvV k st S = some (.inl (pc', ls', st', S', M'))) : Gr S S' := by
  unfold aInvV at h
  split at h
  · split at h
    · split at h
      · split at h
        · split at h <;> cases h
        · cases h
      · cases h
    · cases h
  · cases h
theorem gr_invS {k : Nat} (h : aInvS k pc ls st S M = some (.inl (pc', ls', st', S', M'))) : Gr S S' := by
  unfold aInvS at h
  split at h
  · split at h
    · split at h
      · split at h
        · split at h
          · exact gr_go h
          · cases h
        · cases h
      · cases h
    · split at h
      · split at h
        · split at h
          · exact gr_go h
          · cases h
        · cases h
      · split at h
        · split at h
          · split at h
            · exact gr_go h
            · cases h
          · cases h
        · split at h <;> cases h
  · cases h
theorem gr_invI {k : Nat} (h : aInvI k pc ls st S M = some (.inl (pc', ls', st', S', M'))) : Gr S S' := by
  unfold aInvI at h
  split at h
  · split at h
    · split at h
      · split at h
        · exact gr_go h
        · cases h
      · cases h
    · split at h
      · split at h
        · split at h <;> cases h
        · cases h
      · cases h
  · cases h
theorem gr_iret {rt : Option FieldType} (h : aIret rt st = some (.inl (pc', ls', st', S', M'))) : Gr S S' := by
  unfold aIret at h
  split at h
  · split at h
    · cases h
    · split at h <;> cases h
    · cases h
  · cases h
theorem gr_lret {rt : Option FieldType} (h : aLret rt st = some (.inl (pc', ls', st', S', M'))) : Gr S S' := by
  unfold aLret at h; split at h <;> first | cases h | (split at h <;> cases h)
theorem gr_aret {rt : Option FieldType} (h : aAret rt st = some (.inl (pc', ls', st', S', M'))) : Gr S S' := by
  unfold aAret at h; split at h <;> first | cases h | (split at h <;> cases h)
theorem gr_vret {rt : Option FieldType} (h : aVret rt st = some (.inl (pc', ls', st', S', M'))) : Gr S S' := by
  unfold aVret at h; split at h <;> cases h
theorem gr_tab {dflt lo hi : Int} {offs : Array Int} (h : aTab dflt lo hi offs pc ls st S M = some (.inl (pc', ls', st', S', M'))) : Gr S S' := by
  unfold aTab at h; split at h <;> first | cases h | (split at h <;> first | exact gr_jmp h | (split at h <;> first | exact gr_jmp h | cases h))
theorem gr_look {dflt : Int} {ps : Array (Int × Int)} (h : aLook dflt ps pc ls st S M = some (.inl (pc', ls', st', S', M'))) : Gr S S' := by
  unfold aLook at h; split at h <;> first | cases h | (split at h <;> first | exact gr_jmp h | cases h)
theorem gr_dup (h : aDup pc ls st S M = some (.inl (pc', ls', st', S', M'))) : Gr S S' := by
  unfold aDup at h; split at h <;> first | cases h | (split at h <;> first | exact gr_go h | cases h)
theorem gr_dup2 (h : aDup2 pc ls st S M = some (.inl (pc', ls', st', S', M'))) : Gr S S' := by
  unfold aDup2 at h; split at h <;> first | cases h | (split at h <;> first | exact gr_go h | cases h)
theorem gr_inc {k : Nat} {n : Int} (h : aInc pc k n ls st S M = some (.inl (pc', ls', st', S', M'))) : Gr S S' := by
  unfold aInc at h; split at h <;> first | cases h | (split at h <;> first | cases h | (split at h <;> first | exact gr_go h | cases h))
theorem gr_lcmp (h : aLcmp pc ls st S M = some (.inl (pc', ls', st', S', M'))) : Gr S S' := by
  unfold aLcmp at h; split at h <;> first | exact gr_go h | cases h
theorem gr_i2l (h : aI2l pc ls st S M = some (.inl (pc', ls', st', S', M'))) : Gr S S' := by
  unfold aI2l at h; split at h <;> first | exact gr_go h | cases h
theorem gr_l2i (h : aL2i pc ls st S M = some (.inl (pc', ls', st', S', M'))) : Gr S S' := by
  unfold aL2i at h; split at h <;> first | exact gr_pI h | cases h
theorem gr_ldc {k n : Nat} (h : aLdc k pc n ls st S M = some (.inl (pc', ls', st', S', M'))) : Gr S S' := by
  unfold aLdc at h; split at h <;> first | exact gr_pI h | cases h
theorem gr_ldc2 {k : Nat} (h : aLdc2 k pc ls st S M = some (.inl (pc', ls', st', S', M'))) : Gr S S' := by
  unfold aLdc2 at h; split at h <;> first | exact gr_pL h | cases h
theorem gr_gets {k : Nat} (h : aGets k pc ls st S M = some (.inl (pc', ls', st', S', M'))) : Gr S S' := by
  unfold aGets at h; split at h <;> first | cases h | (split at h <;> first | exact gr_go h | cases h)
set_option maxHeartbeats 4000000 in
theorem gr_actI {own : Nat} {ini : Bool} {rt : Option FieldType} {i : Instr} (h : actI own ini rt i pc ls st S M = some (.inl (pc', ls', st', S', M'))) : Gr S S' := by
  unfold actI at h
  split at h
  all_goals first
    | exact gr_pI h
    | exact gr_go h
    | exact gr_bI h
    | exact gr_bL h
    | exact gr_uI h
    | exact gr_ldI h
    | exact gr_ldL h
    | exact gr_ldA h
    | exact gr_stI h
    | exact gr_stL h
    | exact gr_stA h
    | exact gr_c0 h
    | exact gr_cI h
    | exact gr_jmp h
    | exact gr_ldc h
    | exact gr_ldc2 h
    | exact gr_inc h
    | exact gr_i2l h
    | exact gr_l2i h
    | exact gr_lcmp h
    | exact gr_dup h
    | exact gr_dup2 h
    | exact gr_tab h
    | exact gr_look h
    | exact gr_getf h
    | exact gr_putf h
    | exact gr_gets h
    | exact gr_iald h
    | exact gr_iast h
    | exact gr_bald h
    | exact gr_bast h
    | exact gr_aald h
    | exact gr_aast h
    | exact gr_alen h
    | exact gr_newa h
    | exact gr_newq h
    | exact gr_newm h
    | exact gr_newO h
    | exact gr_invV h
    | exact gr_invS h
    | exact gr_invI h
    | exact gr_iret h
    | exact gr_lret h
    | exact gr_aret h
    | exact gr_vret h
    | (split at h <;> first | exact gr_go h | cases h)
    | cases h
end GR
theorem gr_run : ∀ (n d mid pc : Nat) (ls : Lv) (st : List Vv) (S : List Sh) (M : Mem) (r : Option Vv) (S' : List Sh) (M' : Mem), run n d mid pc ls st S M = some (r, S', M') → Gr S S' := by
  intro n
  induction n with
  | zero => intro d mid pc ls st S M r S' M' h; cases h
  | succ n ih =>
    intro d mid pc ls st S M r S' M' h
    unfold run at h
    split at h
    · cases h
    · next pc1 ls1 st1 S1 M1 ha =>
      unfold act at ha
      split at ha
      · exact (gr_actI ha).tr (ih _ _ _ _ _ _ _ _ _ _ h)
      · cases ha
    · split at h
      · cases h
      · split at h
        · split at h
          · cases h
          · next r1 S1 M1 h1 => exact (ih _ _ _ _ _ _ _ _ _ _ h1).tr (ih _ _ _ _ _ _ _ _ _ _ h)
        · cases h
    · cases h
      exact Gr.rf _
end
section
/-- the frame's side: what a method's own frame is -/
def FF (p : Program) (s : State) (m : MethodId) (meth : Method) (c : Code) (mid : Nat) : Prop := p.tables.exec = Jvm.exec ∧ c.code = mB mid ∧ c.maxLocals = mL mid ∧ meth.sig.returnType = mR mid ∧ s.vm.findClass (cN (mOwn mid)) = some m.cls ∧ meth.locks = false ∧ meth.name = (mY mid).name
def rmD (d MC MS : Nat) : Room := { frames := d + 1, cells := MC, slots := MS, locals := 40 * d + 60 }
/-- an array of arrays: proved over the whole library, in the last part -/
def MNA (l : Launch) : Prop := ∀ {p : Program} {e : Env} {R : Room} {s : State} {m : MethodId} {args : Array Value} {below : List Frame} {meth : Method} {c : Code} {H : Heap} {locs : List Loc} {cells slots : Nat} {Q : State → Prop}
  {cc : ByteArray} {pc : Nat} {ls : Array Slot} {D : va_G} {cA : Nat → ClassId} {base : Nat} {tt : Nat → Nat} {nL MC MS : Nat} {Sf S S' : List Sh} {M M' : Mem} {mls mls' : Lv} {mst mst' : List Vv} {pc' own idx : Nat},
  p.tables.exec = Jvm.exec → c.code = cc → CK D cA base tt s args → s.vm.findClass (cN own) = some m.cls → idx < 1000 → (S'.length ≤ Sf.length ∧ tot S' ≤ tot Sf) → R.cells = MC → R.slots = MS → HI D cA base tt s MC MS Sf S M H locs cells slots → LR (ph base tt) nL mls ls → (∀ v ∈ mst, okV v) →
  decode cc pc = .ok (.multianewarray idx 2, 4) → aNewm (own * 1000 + idx) pc mls mst S M = some (.inl (pc', mls', mst', S', M')) → KK p l e R s m args below meth c Q D cA base tt nL MC MS Sf pc' mls' mst' S' M' → W p l e R s m args below meth c H locs cells slots Q (F0 m pc ls (mst.map (rv (ph base tt))))
theorem ins_spec {mid pc : Nat} {i : Instr} (h : ins mid pc = some i) : ∃ len, decode (mB mid) pc = .ok (i, len) ∧ (len = ilen i ∨ isSw i = true) ∧ pidx i < 1000 := by
  unfold ins at h
  split at h
  · next j len hd =>
    split at h
    · next hc =>
      cases h
      exact ⟨len, hd, hc.1, hc.2⟩
    · cases h
  · cases h
section SIMS
variable {p : Program} {l : Launch} {e : Env} {s : State} {m : MethodId} {args : Array Value} {below : List Frame} {meth : Method} {c : Code} {H : Heap} {locs : List Loc} {cells slots : Nat} {Q : State → Prop}
variable {pc : Nat} {ls : Array Slot}
variable {D : va_G} {cA : Nat → ClassId} {base : Nat} {tt : Nat → Nat} {nL MC MS : Nat} {Sf S S' : List Sh} {M M' : Mem} {mls mls' : Lv} {mst mst' : List Vv} {pc' mid d : Nat}
theorem len_of {i : Instr} {len : Nat} (h : len = ilen i ∨ isSw i = true) (hs : isSw i = false) : len = ilen i := by
  rcases h with h | h
  · exact h
  · rw [hs] at h; cases h
set_option maxHeartbeats 4000000 in
theorem stepW (hmna : MNA l) (hF : FF p s m meth c mid) (hC : CK D cA base tt s args) (hH : HI D cA base tt s MC MS Sf S M H locs cells slots) (hL : LR (ph base tt) (mL mid) mls ls) (hst : ∀ v ∈ mst, okV v) (ha : act mid pc mls mst S M = some (.inl (pc', mls', mst', S', M'))) (hg : S'.length ≤ Sf.length ∧ tot S' ≤ tot Sf)
    (K : KK p l e (rmD d MC MS) s m args below meth c Q D cA base tt (mL mid) MC MS Sf pc' mls' mst' S' M') : W p l e (rmD d MC MS) s m args below meth c H locs cells slots Q (F0 m pc ls (mst.map (rv (ph base tt)))) := by
  obtain ⟨hx, hb, hml, hret, hown, hlocks, hname⟩ := hF
  unfold act at ha
  split at ha
  · next i hi =>
    obtain ⟨len, hd, hlen, hpi⟩ := ins_spec hi
    have hini : decide ((mY mid).name = "<init>") = true → meth.name = "<init>" := fun q => hname.trans (of_decide_eq_true q)
    have hRf : 1 ≤ (rmD d MC MS).frames := Nat.le_add_left 1 d
    have hRl : 40 ≤ (rmD d MC MS).locals := by show 40 ≤ 40 * d + 60; omega
    cases i with
    | iconst n => cases len_of hlen rfl; exact sp_iconst hx hb hH hL hst hd ha K
    | bipush n => cases len_of hlen rfl; exact sp_bipush hx hb hH hL hst hd ha K
    | sipush n => cases len_of hlen rfl; exact sp_sipush hx hb hH hL hst hd ha K
    | lconst n => cases len_of hlen rfl; exact sp_lconst hx hb hH hL hst hd ha K
    | ldc k => cases len_of hlen rfl; exact sh_ldc hx hb hC hown hpi hH hL hst hd ha K
    | ldc_w k => cases len_of hlen rfl; exact sh_ldcw hx hb hC hown hpi hH hL hst hd ha K
    | ldc2_w k => cases len_of hlen rfl; exact sh_ldc2 hx hb hC hown hpi hH hL hst hd ha K
    | iload_n k => cases len_of hlen rfl; exact sp_ldI hx hb hH hL hst (Or.inr ⟨k, rfl, hd, rfl⟩) ha K
    | iload k => cases len_of hlen rfl; exact sp_ldI hx hb hH hL hst (Or.inl ⟨hd, rfl⟩) ha K
    | lload_n k => cases len_of hlen rfl; exact sp_ldL hx hb hH hL hst (Or.inr ⟨k, rfl, hd, rfl⟩) ha K
    | lload k => cases len_of hlen rfl; exact sp_ldL hx hb hH hL hst (Or.inl ⟨hd, rfl⟩) ha K
    | aload_n k => cases len_of hlen rfl; exact sp_ldA hx hb hH hL hst (Or.inr ⟨k, rfl, hd, rfl⟩) ha K
    | aload k => cases len_of hlen rfl; exact sp_ldA hx hb hH hL hst (Or.inl ⟨hd, rfl⟩) ha K
    | istore_n k => cases len_of hlen rfl; exact sp_stI hx hb hH hL hst (Or.inr ⟨k, rfl, hd, rfl⟩) ha K
    | istore k => cases len_of hlen rfl; exact sp_stI hx hb hH hL hst (Or.inl ⟨hd, rfl⟩) ha K
    | lstore_n k => cases len_of hlen rfl; exact sp_stL hx hb hH hL hst (Or.inr ⟨k, rfl, hd, rfl⟩) ha K
    | lstore k => cases len_of hlen rfl; exact sp_stL hx hb hH hL hst (Or.inl ⟨hd, rfl⟩) ha K
    | astore_n k => cases len_of hlen rfl; exact sp_stA hx hb hH hL hst (Or.inr ⟨k, rfl, hd, rfl⟩) ha K
    | astore k => cases len_of hlen rfl; exact sp_stA hx hb hH hL hst (Or.inl ⟨hd, rfl⟩) ha K
    | iinc k n => cases len_of hlen rfl; exact sp_iinc hx hb hH hL hst hd ha K
    | iadd => cases len_of hlen rfl; exact sp_iadd hx hb hH hL hst hd ha K
    | isub => cases len_of hlen rfl; exact sp_isub hx hb hH hL hst hd ha K
    | imul => cases len_of hlen rfl; exact sp_imul hx hb hH hL hst hd ha K
    | idiv => cases len_of hlen rfl; exact sp_idiv hx hb hH hL hst hd ha K
    | irem => cases len_of hlen rfl; exact sp_irem hx hb hH hL hst hd ha K
    | iand => cases len_of hlen rfl; exact sp_iand hx hb hH hL hst hd ha K
    | ishl => cases len_of hlen rfl; exact sp_ishl hx hb hH hL hst hd ha K
    | ishr => cases len_of hlen rfl; exact sp_ishr hx hb hH hL hst hd ha K
    | ineg => cases len_of hlen rfl; exact sp_ineg hx hb hH hL hst hd ha K
    | i2b => cases len_of hlen rfl; exact sp_i2b hx hb hH hL hst hd ha K
    | i2s => cases len_of hlen rfl; exact sp_i2s hx hb hH hL hst hd ha K
    | i2l => cases len_of hlen rfl; exact sp_i2l hx hb hH hL hst hd ha K
    | l2i => cases len_of hlen rfl; exact sp_l2i hx hb hH hL hst hd ha K
    | ladd => cases len_of hlen rfl; exact sp_ladd hx hb hH hL hst hd ha K
    | lmul => cases len_of hlen rfl; exact sp_lmul hx hb hH hL hst hd ha K
    | ldiv => cases len_of hlen rfl; exact sp_ldiv hx hb hH hL hst hd ha K
    | lrem => cases len_of hlen rfl; exact sp_lrem hx hb hH hL hst hd ha K
    | lcmp => cases len_of hlen rfl; exact sp_lcmp hx hb hH hL hst hd ha K
    | dup => cases len_of hlen rfl; exact sp_dup hx hb hH hL hst hd ha K
    | dup2 => cases len_of hlen rfl; exact sp_dup2 hx hb hH hL hst hd ha K
    | goto off => cases len_of hlen rfl; exact sp_goto hx hb hH hL hst hd ha K
    | ifCond k off =>
      cases len_of hlen rfl
      cases k with
      | eq => exact sp_if_eq hx hb hH hL hst hd ha K
      | ne => exact sp_if_ne hx hb hH hL hst hd ha K
      | lt => exact sp_if_lt hx hb hH hL hst hd ha K
      | ge => exact sp_if_ge hx hb hH hL hst hd ha K
      | gt => exact sp_if_gt hx hb hH hL hst hd ha K
      | le => exact sp_if_le hx hb hH hL hst hd ha K
    | if_icmp k off =>
      cases len_of hlen rfl
      cases k with
      | eq => exact sp_icmp_eq hx hb hH hL hst hd ha K
      | ne => exact sp_icmp_ne hx hb hH hL hst hd ha K
      | lt => exact sp_icmp_lt hx hb hH hL hst hd ha K
      | ge => exact sp_icmp_ge hx hb hH hL hst hd ha K
      | gt => exact sp_icmp_gt hx hb hH hL hst hd ha K
      | le => exact sp_icmp_le hx hb hH hL hst hd ha K
    | tableswitch a b c d => exact sp_tab hx hb hH hL hst hd ha K
    | lookupswitch a b => exact sp_look hx hb hH hL hst hd ha K
    | getfield k => cases len_of hlen rfl; exact sh_getf hx hb hC hown hpi hH hL hst hd ha K
    | putfield k => cases len_of hlen rfl; exact sh_putf hx hb hC hown hini hpi hH hL hst hd ha K
    | getstatic k => cases len_of hlen rfl; exact sh_gets hx hb hC hown hpi hH hL hst hd ha K
    | iaload => cases len_of hlen rfl; exact sh_iald hx hb hC hown hH hL hst hd ha K
    | iastore => cases len_of hlen rfl; exact sh_iast hx hb hC hown hH hL hst hd ha K
    | baload => cases len_of hlen rfl; exact sh_bald hx hb hC hown hH hL hst hd ha K
    | bastore => cases len_of hlen rfl; exact sh_bast hx hb hC hown hH hL hst hd ha K
    | aaload => cases len_of hlen rfl; exact sh_aald hx hb hC hown hH hL hst hd ha K
    | aastore => cases len_of hlen rfl; exact sh_aast hx hb hC hown hH hL hst hd ha K
    | arraylength => cases len_of hlen rfl; exact sh_alen hx hb hC hown hH hL hst hd ha K
    | newarray t =>
      cases len_of hlen rfl
      cases t with
      | int => exact sh_newaI hx hb hC hown hg rfl rfl hH hL hst hd ha K
      | boolean => exact sh_newaZ hx hb hC hown hg rfl rfl hH hL hst hd ha K
      | _ => cases ha
    | anewarray k => cases len_of hlen rfl; exact sh_newq hx hb hC hown hpi hg rfl rfl hH hL hst hd ha K
    | multianewarray k n =>
      cases len_of hlen rfl
      unfold actI at ha
      split at ha
      all_goals first
        | (next h => cases h; exact hmna hx hb hC hown hpi hg rfl rfl hH hL hst hd ha K)
        | (next h => cases h)
        | cases ha
    | new k => cases len_of hlen rfl; exact sh_new hx hb hC hown hpi hg rfl rfl hH hL hst hd ha K
    | invokevirtual k =>
      have ha : aInvV (mOwn mid * 1000 + k) mst S = some (.inl (pc', mls', mst', S', M')) := ha
      unfold aInvV at ha
      split at ha
      · split at ha
        · split at ha
          · split at ha
            · split at ha <;> cases ha
            · cases ha
          · cases ha
        · cases ha
      · cases ha
    | invokestatic k => cases len_of hlen rfl; exact sc_copy hx hb hml hg rfl rfl hC hown hpi hRf hRl hH hL hst hd ha K
    | invokespecial k => cases len_of hlen rfl; exact sc_obj hx hb hml hC hown hpi hRf hRl hH hL hst hd ha K
    | ireturn =>
      have ha : aIret (mR mid) mst = some (.inl (pc', mls', mst', S', M')) := ha
      unfold aIret at ha
      split at ha
      · split at ha
        · cases ha
        · split at ha <;> cases ha
        · cases ha
      · cases ha
    | lreturn =>
      have ha : aLret (mR mid) mst = some (.inl (pc', mls', mst', S', M')) := ha
      unfold aLret at ha
      split at ha
      · split at ha <;> cases ha
      · cases ha
    | areturn =>
      have ha : aAret (mR mid) mst = some (.inl (pc', mls', mst', S', M')) := ha
      unfold aAret at ha
      split at ha
      · split at ha <;> cases ha
      · cases ha
    | return_ =>
      have ha : aVret (mR mid) mst = some (.inl (pc', mls', mst', S', M')) := ha
      unfold aVret at ha
      split at ha <;> cases ha
    | _ => cases ha
  · cases ha
end SIMS
end
section
theorem gw_good : ∀ w ∈ gwT, (w.onTables && w.keeps) = true ∨ ∃ ty, w = .arrayClass ty := fun w hw => good_of_word (List.mem_filter.mp hw).2
set_option maxRecDepth 100000 in
theorem mW6 : (List.range 206).all (fun k => plainName (mY k).cls) = true := by decide +kernel
set_option maxRecDepth 100000 in
theorem mW7 : (List.range 206).all (fun k => decide (mOwn k < 9)) = true := by decide +kernel
set_option maxRecDepth 100000 in
theorem mW8 : (List.range 206).all (fun k => !decide ((mY k).name = "<init>") || (mR k).isNone) = true := by decide +kernel
set_option maxRecDepth 100000 in
theorem nest_29 : ∀ q ∈ poolM, isNest q = true → q.2 = 29 := by decide +kernel
set_option maxRecDepth 100000 in
theorem poolM_ok : ∀ q ∈ poolM, q.2 < 206 ∨ (1000 ≤ q.2 ∧ q.2 ≤ 1003) := by decide +kernel
set_option maxRecDepth 100000 in
theorem nest_ini : ∀ q ∈ poolM, isNest q = true → (mY q.2).name = "<init>" ∧ q.2 < 206 := by decide +kernel
theorem mT_at {k : Nat} (h : k < 206) : mT[k]? = some (mOwn k, mY k, mB k, mL k, mR k, mP k, mS k) := by
  have hl : mT.length = 206 := rfl
  unfold mOwn mY mB mL mR mP mS
  rw [List.getD_eq_getElem?_getD, List.getElem?_eq_getElem (by rw [hl]; exact h)]
  rfl
theorem w_code {k : Nat} (h : k < 206) : Cond.code (mY k) (mB k) (mL k) (mR k) ∈ tables_1 := by
  have h1 : (mPl.map (fun q => tables_1[q.1]?))[k]? = (mT.map (fun x => some (Cond.code x.2.1 x.2.2.1 x.2.2.2.1 x.2.2.2.2.1)))[k]? := by rw [mW1]
  rw [List.getElem?_map, List.getElem?_map, mT_at h] at h1
  cases hq : mPl[k]? with
  | none => rw [hq] at h1; cases h1
  | some q =>
    rw [hq] at h1
    simp only [Option.map_some, Option.some.injEq] at h1
    exact List.mem_of_getElem? h1
theorem all_at {f : Nat → Bool} (h : (List.range 206).all f = true) {k : Nat} (hk : k < 206) : f k = true := List.all_eq_true.mp h k (List.mem_range.mpr hk)
theorem w_ini {k : Nat} (h : k < 206) : Cond.initialized (mY k).cls ∈ tables_1 := List.mem_of_getElem? (of_decide_eq_true (all_at mW2 h))
theorem w_st {k : Nat} (h : k < 206) : wSt k ∈ tables_1 := List.mem_of_getElem? (of_decide_eq_true (all_at mW3 h))
theorem w_sel {k : Nat} (h : k < 206) (h1 : mS k = false) (h2 : ¬ (mY k).name = "<init>") : Cond.selects (mY k).cls (mY k) (mY k) ∈ gwT := by
  have h3 := all_at mW4 h
  simp only [h1, h2, Bool.false_or, decide_false] at h3
  exact List.mem_filter.mpr ⟨List.mem_of_getElem? (of_decide_eq_true h3), rfl⟩
theorem m_facts {k : Nat} (h : k < 206) : (mY k).cls = cN (mOwn k) ∧ mL k ≤ 20 ∧ (mY k).cls ≠ "java/lang/invoke/MethodHandle" ∧ (mY k).cls ≠ "java/lang/invoke/VarHandle" ∧ (parseMethodDescriptor (mY k).desc).map (fun d => d.parameters.length) = some (mP k) := of_decide_eq_true (all_at mW5 h)
def wsM (k : Nat) : List Cond := .code (mY k) (mB k) (mL k) (mR k) :: gwT
theorem wsM_good {k : Nat} (h : k < 206) : GoodIn gwT (wsM k) := fun w hw => by
  rcases List.mem_cons.mp hw with rfl | hw
  · exact ⟨tb_in (w_code h), gw_good _ (tb_in (w_code h))⟩
  · exact ⟨hw, gw_good w hw⟩
/-! a method's start and end -/
def PP (D : va_G) (cA : Nat → ClassId) (base : Nat) (tt : Nat → Nat) (av : List Vv) (S : List Sh) (M : Mem) : Array Value → State → Prop := fun v U =>
  v = (av.map (rv (ph base tt))).toArray ∧ U.heap.size = base + S.length ∧ va_P D vwCl (world base (ph base tt) cA S M) U.heap ∧ va_K D vwCl (tysOf cA) U ∧ (∀ j, j < 3 → va_Z RX1 (sN j) "[I" (.ref (tt j)) (fun q => base ≤ q) U U.heap ∧ va_T .int (tt j) 6 (fun i => .int (Int32.ofInt ((sT j).getD i 0))) (fun q => base ≤ q) U U.heap) ∧ XW U
def okR : Option Vv → Prop := fun r => ∀ v ∈ r.toList, okV v
def QQ (D : va_G) (cA : Nat → ClassId) (base : Nat) (tt : Nat → Nat) (r : Option Vv) (S : List Sh) (M : Mem) : Array Value → State → Outcome → State → Prop := fun _ st o t =>
  o = .returned (r.map (rv (ph base tt))) ∧ va_P D vwCl (world base (ph base tt) cA S M) t.heap ∧ t.heap.size = base + S.length ∧ (∀ q : Nat, q < st.heap.size → ¬ base ≤ q → t.heap[q]? = st.heap[q]?) ∧ (∀ a i, inR (M a i)) ∧ okR r ∧ S.length ≤ 1000000
theorem PP.blind {D : va_G} {cA : Nat → ClassId} {base : Nat} {tt : Nat → Nat} {av : List Vv} {S : List Sh} {M : Mem} : FrameBlind (PP D cA base tt av S M) := fun a U g mk q => by
  obtain ⟨h1, h2, h3, h4, h5, h6⟩ := q
  exact ⟨h1, h2, h3, va_K.moved (u := U) (U := U.calling g mk a) (Vm.Alike.refl U.vm) h4, fun j hj => ⟨va_Z.moved (u := U) (U := U.calling g mk a) (Vm.Alike.refl U.vm) (h5 j hj).1, va_T.moved (u := U) (U := U.calling g mk a) (Vm.Alike.refl U.vm) (h5 j hj).2⟩, h6⟩
/-- the walk of a frame, with n steps of the little machine -/
def SimW (l : Launch) (n : Nat) : Prop := ∀ (d mid pc : Nat) (mls : Lv) (mst : List Vv) (S : List Sh) (M : Mem) (r : Option Vv) (Sf : List Sh) (Mf : Mem), run n d mid pc mls mst S M = some (r, Sf, Mf) →
  ∀ (D : va_G) (cA : Nat → ClassId) (base : Nat) (tt : Nat → Nat) (p : Program) (e : Env) (s : State) (m : MethodId) (args : Array Value) (below : List Frame) (meth : Method) (c : Code) (MC MS : Nat) (H : Heap) (locs : List Loc) (cells slots : Nat) (ls : Array Slot),
  FF p s m meth c mid → CK D cA base tt s args → HI D cA base tt s MC MS Sf S M H locs cells slots → LR (ph base tt) (mL mid) mls ls → (∀ v ∈ mst, okV v) →
  W p l e (rmD d MC MS) s m args below meth c H locs cells slots (MQ below (QQ D cA base tt r Sf Mf) args s MC MS (fun q => base ≤ q)) (F0 m pc ls (mst.map (rv (ph base tt))))
theorem eLoc_len (f : Nat → Nat) : ∀ av : List Vv, (lg_sl (av.map (rv f))).length = (eLoc av).length
  | [] => rfl
  | v :: r => by
    have ih := eLoc_len f r
    have hc := rv_cat (f := f) v
    unfold cat at hc
    unfold lg_sl at ih ⊢
    rw [List.map_cons, List.flatMap_cons, List.length_append, ih]
    by_cases h : isL v = true
    · rw [if_pos h] at hc
      have e1 : eLoc (v :: r) = some v :: none :: eLoc r := if_pos h
      rw [e1]
      simp [hc]
      omega
    · rw [if_neg h] at hc
      have e1 : eLoc (v :: r) = some v :: eLoc r := if_neg h
      rw [e1]
      simp [hc]
      omega
theorem eLoc_at (f : Nat → Nat) : ∀ (av : List Vv) (i : Nat) (v : Vv), (eLoc av)[i]? = some (some v) → v ∈ av ∧ (lg_sl (av.map (rv f)))[i]? = some (Slot.val (rv f v))
  | [], i, v, h => by simp [eLoc] at h
  | w :: r, i, v, h => by
    have hc := rv_cat (f := f) w
    unfold cat at hc
    unfold eLoc at h
    have hsl : lg_sl ((w :: r).map (rv f)) = (if (rv f w).category = 2 then [Slot.val (rv f w), .second] else [Slot.val (rv f w)]) ++ lg_sl (r.map (rv f)) := by
      simp [lg_sl]
    rw [hsl]
    by_cases hl : isL w = true
    · rw [if_pos hl] at hc h
      rw [if_pos hc]
      match i, h with
      | 0, h => cases h; exact ⟨List.mem_cons_self, rfl⟩
      | 1, h => cases h
      | i + 2, h =>
        obtain ⟨h1, h2⟩ := eLoc_at f r i v (by simpa using h)
        exact ⟨List.mem_cons_of_mem _ h1, by simpa using h2⟩
    · rw [if_neg hl] at hc h
      rw [if_neg (by rw [hc]; decide)]
      match i, h with
      | 0, h => cases h; exact ⟨List.mem_cons_self, rfl⟩
      | i + 1, h =>
        obtain ⟨h1, h2⟩ := eLoc_at f r i v (by simpa using h)
        exact ⟨List.mem_cons_of_mem _ h1, by simpa using h2⟩
theorem LR_entry {f : Nat → Nat} {mid : Nat} {av : List Vv} (h : (eLoc av).length ≤ mL mid) (hok : ∀ v ∈ av, okV v) : LR f (mL mid) (entryL mid av) ((lg_sl (av.map (rv f)) ++ List.replicate (mL mid - (lg_sl (av.map (rv f))).length) Slot.unset).toArray) := by
  have hl := eLoc_len f av
  have he := lv_entry (av.map (rv f)) (n := mL mid) (by rw [hl]; exact h)
  refine ⟨by unfold entryL; simp; omega, he.1, he.2.1, fun i v hi => ?_⟩
  unfold entryL at hi
  by_cases hlt : i < (eLoc av).length
  · rw [List.getElem?_append_left hlt] at hi
    obtain ⟨h1, h2⟩ := eLoc_at f av i v hi
    refine ⟨hok v h1, ?_⟩
    rw [List.getElem?_toArray, List.getElem?_append_left (by rw [hl]; exact hlt)]
    exact h2
  · rw [List.getElem?_append_right (by omega), List.getElem?_replicate] at hi
    split at hi
    · cases hi
    · cases hi
/-- a method's contract out of its run -/
def MetA (l : Launch) (n : Nat) : Prop := ∀ (d mid : Nat) (av : List Vv) (S : List Sh) (M : Mem) (r : Option Vv) (Sf : List Sh) (Mf : Mem), run n d mid 0 (entryL mid av) [] S M = some (r, Sf, Mf) →
  ∀ (D : va_G) (cA : Nat → ClassId) (base : Nat) (tt : Nat → Nat), mid < 206 → (eLoc av).length ≤ mL mid → (∀ v ∈ av, okV v) → (∀ a i, inR (M a i)) → S.length ≤ 1000000 →
  Met l (mY mid) (wsM mid) (rmD d (Sf.length - S.length) (tot Sf - tot S)) (PP D cA base tt av S M) (QQ D cA base tt r Sf Mf) (Sf.length - S.length) (tot Sf - tot S) (fun q => base ≤ q)
theorem met_of_sim {l : Launch} {n : Nat} (h : SimW l n) : MetA l n := by
  intro d mid av S M r Sf Mf hrun D cA base tt hmid hlen hok hM hSl
  have hg := gr_run _ _ _ _ _ _ _ _ _ _ _ hrun
  refine Met.ofW (cc := mB mid) (maxL := mL mid) (ret := mR mid) (all_at mW6 hmid) rfl ?_
  intro p e s m args below meth c s₁ B hml hv
  obtain ⟨rfl, hsz, hP, hK, hZ, hX⟩ := hv
  have hts := atoms_spec (ws := wsM mid) B.pre
  have hown : s.vm.findClass (mY mid).cls = some m.cls := findClass_of_methodNamed B.named
  rw [(m_facts hmid).1] at hown
  have hname : meth.name = (mY mid).name := (name_of_methodNamed B.named B.method).1
  rw [lg_entry_eq]
  exact h d mid 0 (entryL mid av) [] S M r Sf Mf hrun D cA base tt p e s m _ below meth c (Sf.length - S.length) (tot Sf - tot S) s.heap [] 0 0 _
    ⟨B.exec, B.bytes, hml, B.returns, hown, B.notSynchronized, hname⟩
    ⟨fun w hw => hts w (List.mem_cons_of_mem _ hw), hK, hZ, by omega, hX⟩
    ⟨hP, va_S.rf, hM, hSl, by omega, by have := hg.1; omega, by have := hg.2; omega⟩ (LR_entry hlen hok) (fun v hv => by cases hv)
section SIMI
variable {p : Program} {l : Launch} {e : Env} {R : Room} {s : State} {m : MethodId} {args : Array Value} {below : List Frame} {meth : Method} {c : Code} {H : Heap} {locs : List Loc} {cells slots : Nat} {Q : State → Prop}
variable {pc : Nat} {ls : Array Slot} {rest st0 : List Value} {mc ms : Nat} {free : Addr → Prop}
theorem call_go {Qa : State → Outcome → State → Prop} (hr : va_Run p l e R s m args below meth c H locs cells slots mc ms (F0 m pc ls st0) rest Qa free)
    (kk : ∀ (v : Option Value) (st₀ t : State) (L : List Loc), st₀.heap = H → s.vm.Alike t.vm → (∀ q ∈ L, free q.base) → Qa st₀ (.returned v) t → W p l e R s m args below meth c t.heap (locs ++ L) (cells + mc) (slots + ms) Q (F0 m (pc + 3) ls (v.toList ++ rest))) : W p l e R s m args below meth c H locs cells slots Q (F0 m pc ls st0) := by
  intro T hT X
  obtain ⟨v, st₀, t, T', L, h0, X', hL, e1, e2, hq, st⟩ := hr T hT X
  obtain ⟨t2, a1, b1⟩ := kk v st₀ t L h0 (by rw [← e2]; exact X'.warmed.alike) hL hq T' e1 X'
  exact ⟨t2, st t2 a1, b1⟩
end SIMI
end
section
section NR
variable {pc : Nat} {ls : Lv} {st : List Vv} {S : List Sh} {M : Mem} {q : (Nat × List Vv × List Vv) ⊕ Option Vv}
theorem nr_go (h : go pc ls st S M = some (.inr q)) : False := by unfold go at h; cases h
theorem nr_pI {x : Int} (h : pI pc ls st S M x = some (.inr q)) : False := by unfold pI at h; split at h <;> first | exact nr_go h | cases h
theorem nr_pL {x : Int} (h : pL pc ls st S M x = some (.inr q)) : False := by unfold pL at h; split at h <;> first | exact nr_go h | cases h
theorem nr_jmp {x : Int} (h : jmp pc x ls st S M = some (.inr q)) : False := by unfold jmp at h; split at h <;> first | exact nr_go h | cases h
theorem nr_br {b : Bool} {x : Int} (h : br b pc x ls st S M = some (.inr q)) : False := by
  unfold br at h; split at h <;> first | cases h | (split at h <;> exact nr_go h)
theorem nr_bI {f : Int → Int → Option Int} (h : bI pc ls st S M f = some (.inr q)) : False := by
  unfold bI at h; split at h <;> first | cases h | (split at h <;> first | exact nr_pI h | cases h)
theorem nr_bL {f : Int → Int → Option Int} (h : bL pc ls st S M f = some (.inr q)) : False := by
  unfold bL at h; split at h <;> first | cases h | (split at h <;> first | exact nr_pL h | cases h)
theorem nr_uI {f : Int → Int} (h : uI pc ls st S M f = some (.inr q)) : False := by
  unfold uI at h; split at h <;> first | exact nr_pI h | cases h
theorem nr_ldI {k : Nat} (h : ldI pc k ls st S M = some (.inr q)) : False := by
  unfold ldI at h; split at h <;> first | exact nr_go h | cases h
theorem nr_ldL {k : Nat} (h : ldL pc k ls st S M = some (.inr q)) : False := by
  unfold ldL at h; split at h <;> first | exact nr_go h | cases h
theorem nr_ldA {k : Nat} (h : ldA pc k ls st S M = some (.inr q)) : False := by
  unfold ldA at h; split at h <;> first | exact nr_go h | cases h
theorem nr_stI {k : Nat} (h : stI pc k ls st S M = some (.inr q)) : False := by
  unfold stI at h; split at h <;> first | cases h | (split at h <;> first | exact nr_go h | cases h)
theorem nr_stL {k : Nat} (h : stL pc k ls st S M = some (.inr q)) : False := by
  unfold stL at h; split at h <;> first | cases h | (split at h <;> first | exact nr_go h | cases h)
theorem nr_stA {k : Nat} (h : stA pc k ls st S M = some (.inr q)) : False := by
  unfold stA at h; split at h <;> first | cases h | (split at h <;> first | exact nr_go h | cases h)
theorem nr_c0 {x : Int} {f : Int → Bool} (h : c0 pc x ls st S M f = some (.inr q)) : False := by
  unfold c0 at h; split at h <;> first | exact nr_br h | cases h
theorem nr_cI {x : Int} {f : Int → Int → Bool} (h : cI pc x ls st S M f = some (.inr q)) : False := by
  unfold cI at h; split at h <;> first | exact nr_br h | cases h
theorem nr_getf {k : Nat} (h : aGetf k pc ls st S M = some (.inr q)) : False := by
  unfold aGetf at h
  split at h
  · split at h
    · split at h
      · split at h <;> exact nr_go h
      · cases h
    · cases h
  · cases h
theorem nr_putf {own k : Nat} {ini : Bool} (h : aPutf own ini k pc ls st S M = some (.inr q)) : False := by
  unfold aPutf at h
  split at h
  · split at h
    · split at h
      · split at h
        · split at h
          · exact nr_go h
          · cases h
        · split at h
          · exact nr_go h
          · cases h
        · cases h
      · cases h
    · cases h
  · cases h
theorem nr_iald (h : aIald pc ls st S M = some (.inr q)) : False := by
  unfold aIald at h
  split at h
  · split at h
    · split at h
      · split at h
        · split at h
          · exact nr_go h
          · cases h
        · cases h
      · split at h
        · split at h
          · exact nr_go h
          · cases h
        · cases h
    · cases h
  · cases h
theorem nr_iast (h : aIast pc ls st S M = some (.inr q)) : False := by
  unfold aIast at h; split at h <;> first | cases h | (split at h <;> first | cases h | (split at h <;> first | exact nr_go h | cases h))
theorem nr_bald (h : aBald pc ls st S M = some (.inr q)) : False := by
  unfold aBald at h; split at h <;> first | cases h | (split at h <;> first | cases h | (split at h <;> first | exact nr_go h | cases h))
theorem nr_bast (h : aBast pc ls st S M = some (.inr q)) : False := by
  unfold aBast at h; split at h <;> first | cases h | (split at h <;> first | cases h | (split at h <;> first | exact nr_go h | cases h))
theorem nr_aald (h : aAald pc ls st S M = some (.inr q)) : False := by
  unfold aAald at h; split at h <;> first | cases h | (split at h <;> first | cases h | (split at h <;> first | exact nr_go h | cases h))
theorem nr_alen (h : aAlen pc ls st S M = some (.inr q)) : False := by
  unfold aAlen at h; split at h <;> first | cases h | (split at h <;> first | cases h | (split at h <;> first | exact nr_go h | cases h))
theorem nr_aast (h : aAast pc ls st S M = some (.inr q)) : False := by
  unfold aAast at h
  split at h
  · split at h
    · split at h
      · exact nr_go h
      · cases h
    · cases h
  · cases h
theorem nr_newa {k : Nat} (h : aNewa k pc ls st S M = some (.inr q)) : False := by
  unfold aNewa at h; split at h <;> first | cases h | (split at h <;> first | exact nr_go h | cases h)
theorem nr_newq {k : Nat} (h : aNewq k pc ls st S M = some (.inr q)) : False := by
  unfold aNewq at h; split at h <;> first | cases h | (split at h <;> first | exact nr_go h | cases h)
theorem nr_newm {k : Nat} (h : aNewm k pc ls st S M = some (.inr q)) : False := by
  unfold aNewm at h; split at h <;> first | cases h | (split at h <;> first | exact nr_go h | cases h)
theorem nr_newO {k : Nat} (h : aNew k pc ls st S M = some (.inr q)) : False := by
  unfold aNew at h; split at h <;> first | cases h | (split at h <;> first | exact nr_go h | cases h)
theorem nr_tab {dflt lo hi : Int} {offs : Array Int} (h : aTab dflt lo hi offs pc ls st S M = some (.inr q)) : False := by
  unfold aTab at h; split at h <;> first | cases h | (split at h <;> first | exact nr_jmp h | (split at h <;> first | exact nr_jmp h | cases h))
theorem nr_look {dflt : Int} {ps : Array (Int × Int)} (h : aLook dflt ps pc ls st S M = some (.inr q)) : False := by
  unfold aLook at h; split at h <;> first | cases h | (split at h <;> first | exact nr_jmp h | cases h)
theorem nr_dup (h : aDup pc ls st S M = some (.inr q)) : False := by
  unfold aDup at h; split at h <;> first | cases h | (split at h <;> first | exact nr_go h | cases h)
theorem nr_dup2 (h : aDup2 pc ls st S M = some (.inr q)) : False := by
  unfold aDup2 at h; split at h <;> first | cases h | (split at h <;> first | exact nr_go h | cases h)
theorem nr_inc {k : Nat} {n : Int} (h : aInc pc k n ls st S M = some (.inr q)) : False := by
  unfold aInc at h; split at h <;> first | cases h | (split at h <;> first | cases h | (split at h <;> first | exact nr_go h | cases h))
theorem nr_lcmp (h : aLcmp pc ls st S M = some (.inr q)) : False := by
  unfold aLcmp at h; split at h <;> first | exact nr_go h | cases h
theorem nr_i2l (h : aI2l pc ls st S M = some (.inr q)) : False := by
  unfold aI2l at h; split at h <;> first | exact nr_go h | cases h
theorem nr_l2i (h : aL2i pc ls st S M = some (.inr q)) : False := by
  unfold aL2i at h; split at h <;> first | exact nr_pI h | cases h
theorem nr_ldc {k n : Nat} (h : aLdc k pc n ls st S M = some (.inr q)) : False := by
  unfold aLdc at h; split at h <;> first | exact nr_pI h | cases h
theorem nr_ldc2 {k : Nat} (h : aLdc2 k pc ls st S M = some (.inr q)) : False := by
  unfold aLdc2 at h; split at h <;> first | exact nr_pL h | cases h
theorem nr_gets {k : Nat} (h : aGets k pc ls st S M = some (.inr q)) : False := by
  unfold aGets at h; split at h <;> first | cases h | (split at h <;> first | exact nr_go h | cases h)
end NR
end
section
theorem aoa_moved {u U : State} (hvm : u.vm.Alike U.vm) (h : va_Nw (.arrayOver (.array .int)) u) : va_Nw (.arrayOver (.array .int)) U := by
  unfold va_Nw Cond.before Cond.holds at h ⊢
  simp only [Cond.value, beq_iff_eq] at h ⊢
  cases hc : u.vm.findClass (FieldType.array .int).toString with
  | none => simp [hc] at h
  | some comp =>
    simp only [hc, Option.bind_some, Option.bind_eq_some_iff, Option.map_eq_some_iff] at h
    obtain ⟨c, hi, k, hk, hb⟩ := h
    obtain ⟨k', hk', he⟩ := hvm.2.2 _ _ hk
    have hi2 : (U.vm.classes.findIdx? fun (x : Class) => match x.kind with | .array component _ => component == comp | _ => false) = some c := by
      have e1 := va_idx_bare U.vm comp
      have e2 := va_idx_bare u.vm comp
      have e3 : U.vm.bare = u.vm.bare := by first | exact hvm.bare_eq | exact hvm.bare_eq.symm
      rw [e3] at e1
      exact (e1.symm.trans e2).trans hi
    have hkind : k'.kind = k.kind := by rw [he]
    have f1 : U.vm.findClass (FieldType.array .int).toString = some comp := by rw [hvm.findClass]; exact hc
    have f2 : ∀ n, U.vm.findClass n = u.vm.findClass n := fun n => by rw [hvm.findClass]
    rw [f1]
    simp only [Option.bind_some, Option.bind_eq_some_iff, Option.map_eq_some_iff]
    exact ⟨c, hi2, k', hk', by rw [hkind]; simp only [f2]; exact hb⟩
theorem XW.moved {u U : State} (hW : u.WarmedH U.vm) (h : XW u) : XW U := ⟨va_AO.moved hW.alike h.1, va_AO.moved hW.alike h.2.1, aoa_moved hW.alike h.2.2.1, va_Nw.warmM hW h.2.2.2⟩
section NI
variable {pc mid : Nat} {mls : Lv} {mst : List Vv} {S : List Sh} {M : Mem} {k : Nat} {r : Option Vv} {q : Nat × List Vv × List Vv}
theorem nv_ret (h : aInvV k mst S = some (.inr (.inr r))) : False := by
  unfold aInvV at h
  split at h
  · split at h
    · split at h
      · split at h
        · split at h <;> cases h
        · cases h
      · cases h
    · cases h
  · cases h
theorem ns_ret (h : aInvS k pc mls mst S M = some (.inr (.inr r))) : False := by
  unfold aInvS at h
  split at h
  · split at h
    · split at h
      · split at h
        · split at h
          · exact nr_go h
          · cases h
        · cases h
      · cases h
    · split at h
      · split at h
        · split at h
          · exact nr_go h
          · cases h
        · cases h
      · split at h
        · split at h
          · split at h
            · exact nr_go h
            · cases h
          · cases h
        · split at h <;> cases h
  · cases h
theorem ni_ret (h : aInvI k pc mls mst S M = some (.inr (.inr r))) : False := by
  unfold aInvI at h
  split at h
  · split at h
    · split at h
      · split at h
        · exact nr_go h
        · cases h
      · cases h
    · split at h
      · split at h
        · split at h <;> cases h
        · cases h
      · cases h
  · cases h
theorem nc_i {rt : Option FieldType} (h : aIret rt mst = some (.inr (.inl q))) : False := by
  unfold aIret at h
  split at h
  · split at h
    · cases h
    · split at h <;> cases h
    · cases h
  · cases h
theorem nc_l {rt : Option FieldType} (h : aLret rt mst = some (.inr (.inl q))) : False := by
  unfold aLret at h; split at h <;> first | cases h | (split at h <;> cases h)
theorem nc_a {rt : Option FieldType} (h : aAret rt mst = some (.inr (.inl q))) : False := by
  unfold aAret at h; split at h <;> first | cases h | (split at h <;> cases h)
theorem nc_v {rt : Option FieldType} (h : aVret rt mst = some (.inr (.inl q))) : False := by
  unfold aVret at h; split at h <;> cases h
/-- an act that is no step is a return's, or a call's -/
theorem act_kind {own : Nat} {ini : Bool} {rt : Option FieldType} {i : Instr} {z : (Nat × List Vv × List Vv) ⊕ Option Vv} (h : actI own ini rt i pc mls mst S M = some (.inr z)) :
    (i = .ireturn ∧ aIret rt mst = some (.inr z)) ∨ (i = .lreturn ∧ aLret rt mst = some (.inr z)) ∨ (i = .areturn ∧ aAret rt mst = some (.inr z)) ∨ (i = .return_ ∧ aVret rt mst = some (.inr z)) ∨
    (∃ x, i = .invokevirtual x ∧ aInvV (own * 1000 + x) mst S = some (.inr z)) ∨ (∃ x, i = .invokestatic x ∧ aInvS (own * 1000 + x) pc mls mst S M = some (.inr z)) ∨ (∃ x, i = .invokespecial x ∧ aInvI (own * 1000 + x) pc mls mst S M = some (.inr z)) := by
  unfold actI at h
  split at h
  all_goals first
    | exact (nr_pI h).elim
    | exact (nr_go h).elim
    | exact (nr_bI h).elim
    | exact (nr_bL h).elim
    | exact (nr_uI h).elim
    | exact (nr_ldI h).elim
    | exact (nr_ldL h).elim
    | exact (nr_ldA h).elim
    | exact (nr_stI h).elim
    | exact (nr_stL h).elim
    | exact (nr_stA h).elim
    | exact (nr_c0 h).elim
    | exact (nr_cI h).elim
    | exact (nr_jmp h).elim
    | exact (nr_ldc h).elim
    | exact (nr_ldc2 h).elim
    | exact (nr_inc h).elim
    | exact (nr_i2l h).elim
    | exact (nr_l2i h).elim
    | exact (nr_lcmp h).elim
    | exact (nr_dup h).elim
    | exact (nr_dup2 h).elim
    | exact (nr_tab h).elim
    | exact (nr_look h).elim
    | exact (nr_getf h).elim
    | exact (nr_putf h).elim
    | exact (nr_gets h).elim
    | exact (nr_iald h).elim
    | exact (nr_iast h).elim
    | exact (nr_bald h).elim
    | exact (nr_bast h).elim
    | exact (nr_aald h).elim
    | exact (nr_aast h).elim
    | exact (nr_alen h).elim
    | exact (nr_newa h).elim
    | exact (nr_newq h).elim
    | exact (nr_newm h).elim
    | exact (nr_newO h).elim
    | exact Or.inl ⟨rfl, h⟩
    | exact Or.inr (Or.inl ⟨rfl, h⟩)
    | exact Or.inr (Or.inr (Or.inl ⟨rfl, h⟩))
    | exact Or.inr (Or.inr (Or.inr (Or.inl ⟨rfl, h⟩)))
    | exact Or.inr (Or.inr (Or.inr (Or.inr (Or.inl ⟨_, rfl, h⟩))))
    | exact Or.inr (Or.inr (Or.inr (Or.inr (Or.inr (Or.inl ⟨_, rfl, h⟩)))))
    | exact Or.inr (Or.inr (Or.inr (Or.inr (Or.inr (Or.inr ⟨_, rfl, h⟩)))))
    | (exfalso; split at h <;> first | exact nr_go h | cases h)
    | cases h
end NI
section SIMR
variable {p : Program} {l : Launch} {e : Env} {s : State} {m : MethodId} {args : Array Value} {below : List Frame} {meth : Method} {c : Code} {H : Heap} {locs : List Loc} {cells slots : Nat}
variable {pc : Nat} {ls : Array Slot}
variable {D : va_G} {cA : Nat → ClassId} {base : Nat} {tt : Nat → Nat} {MC MS : Nat} {S Sf : List Sh} {M Mf : Mem} {mls : Lv} {mst : List Vv} {mid d : Nat}
theorem retW {r : Option Vv} (hF : FF p s m meth c mid) (hC : CK D cA base tt s args) (hH : HI D cA base tt s MC MS S S M H locs cells slots) (hst : ∀ v ∈ mst, okV v) (ha : act mid pc mls mst S M = some (.inr (.inr r))) :
    W p l e (rmD d MC MS) s m args below meth c H locs cells slots (MQ below (QQ D cA base tt r S M) args s MC MS (fun q => base ≤ q)) (F0 m pc ls (mst.map (rv (ph base tt)))) := by
  obtain ⟨hx, hb, hml, hret, hown, hlocks, hname⟩ := hF
  obtain ⟨hP, hS, hM, hSl, h1, h2, h3⟩ := id hH
  have hc1 : cells = MC := by omega
  have hc2 : slots = MS := by omega
  subst hc1
  subst hc2
  refine W_size (fun hz => ?_)
  have hsz := hH.size hC.2.2.2.1 hz
  have hq : ∀ (r : Option Vv), okR r → ∀ t : State, t.heap = H → s.WarmedH t.vm → QQ D cA base tt r S M args s (.returned (r.map (rv (ph base tt)))) t := fun r hr t ht _ => ⟨rfl, by rw [ht]; exact hP, by rw [ht]; exact hsz, fun q q1 q2 => by rw [ht]; exact hS.2.1 q q1 q2, hM, hr, hSl⟩
  have hf : ∀ q ∈ locs, base ≤ q.base := hS.2.2
  have hoks : ∀ v : Vv, (∀ w ∈ [v], okV w) → okR (some v) := fun v h w hw => h w hw
  unfold act at ha
  split at ha
  · next i hi =>
    obtain ⟨len, hd, hlen, hpi⟩ := ins_spec hi
    rcases act_kind ha with ⟨rfl, ha2⟩ | ⟨rfl, ha2⟩ | ⟨rfl, ha2⟩ | ⟨rfl, ha2⟩ | ⟨x, rfl, ha2⟩ | ⟨x, rfl, ha2⟩ | ⟨x, rfl, ha2⟩
    all_goals clear ha
    · cases len_of hlen rfl
      unfold aIret at ha2
      split at ha2
      · next x =>
        split at ha2
        · next hrt =>
          cases ha2
          exact W.iret (v := Int32.ofInt x) hx hb (hret.trans hrt) (hq (some (vI x)) (hoks _ hst)) hf hd hlocks
        · next hrt =>
          split at ha2
          · next hz01 =>
            cases ha2
            exact W.zret (v := Int32.ofInt x) (ty := .boolean) hx hb (hret.trans hrt) (nar_z hz01).1 (hq (some (vI x)) (hoks _ hst)) hf hd hlocks
          · cases ha2
        · cases ha2
      · cases ha2
    · cases len_of hlen rfl
      unfold aLret at ha2
      split at ha2
      · next x =>
        split at ha2
        · next hrt =>
          cases ha2
          exact W.lret (v := Int64.ofInt x) hx hb (hret.trans hrt) (hq (some (vL x)) (hoks _ hst)) hf hd hlocks
        · cases ha2
      · cases ha2
    · cases len_of hlen rfl
      unfold aAret at ha2
      split at ha2
      · next x =>
        split at ha2
        · next C hrt =>
          cases ha2
          exact W.aret (v := .ref (ph base tt x)) hx hb (hret.trans hrt) (Or.inl ⟨_, rfl⟩) (Or.inr ⟨_, rfl⟩) (hq (some (vR (some x))) (hoks _ hst)) hf hd hlocks
        · cases ha2
      · cases ha2
    · cases len_of hlen rfl
      unfold aVret at ha2
      split at ha2
      · next hrt =>
        cases ha2
        exact W.vret hx hb (hret.trans hrt) (hq none (fun v hv => by cases hv)) hf hd hlocks
      · cases ha2
    · exact (nv_ret ha2).elim
    · exact (ns_ret ha2).elim
    · exact (ni_ret ha2).elim
  · cases ha
end SIMR
end
section
section SIMQ
variable {p : Program} {l : Launch} {e : Env} {s : State} {m : MethodId} {args : Array Value} {below : List Frame} {meth : Method} {c : Code} {H : Heap} {locs : List Loc} {cells slots : Nat} {Q : State → Prop}
variable {pc : Nat} {ls : Array Slot}
variable {D : va_G} {cA : Nat → ClassId} {base : Nat} {tt : Nat → Nat} {MC MS : Nat} {S Sf S1 : List Sh} {M Mf M1 : Mem} {mls : Lv} {mst : List Vv} {mid d : Nat}
theorem cells_call {d : Nat} {k : Nat} (hk : k < 206) {a b : Nat} : (rmD d a b).frames + 1 ≤ (rmD (d + 1) MC MS).frames ∧ 8 + (mL k + 11) + (rmD d a b).locals ≤ (rmD (d + 1) MC MS).locals := by
  have h := (m_facts hk).2.1
  refine ⟨Nat.le_refl _, ?_⟩
  show 8 + (mL k + 11) + (40 * d + 60) ≤ 40 * (d + 1) + 60
  omega
/-- behind a call -/
theorem afterW {r : Option Vv} {rest : List Vv} {st0 : List Value} {as : Array Value} (hC : CK D cA base tt s args) (hH : HI D cA base tt s MC MS Sf S M H locs cells slots) (hL : LR (ph base tt) (mL mid) mls ls) (hrest : ∀ v ∈ rest, okV v) (hg : Gr S S1)
    (hr : va_Run p l e (rmD (d + 1) MC MS) s m args below meth c H locs cells slots (S1.length - S.length) (tot S1 - tot S) (F0 m pc ls st0) (rest.map (rv (ph base tt))) (QQ D cA base tt r S1 M1 as) (fun q => base ≤ q))
    (K : KK p l e (rmD (d + 1) MC MS) s m args below meth c Q D cA base tt (mL mid) MC MS Sf (pc + 3) mls (r.toList ++ rest) S1 M1) : W p l e (rmD (d + 1) MC MS) s m args below meth c H locs cells slots Q (F0 m pc ls st0) := by
  refine call_go hr (fun v st₀ t L h0 _ hLo hq => ?_)
  obtain ⟨q1, q2, q3, q4, q5, q6, q7⟩ := hq
  obtain ⟨hP, hS, hM, hSl, h1, h2, h3⟩ := id hH
  have hv : v = r.map (rv (ph base tt)) := Outcome.returned.inj q1
  have hst : (r.toList ++ rest).map (rv (ph base tt)) = v.toList ++ rest.map (rv (ph base tt)) := by
    rw [hv]
    cases r <;> rfl
  have hsz0 : s.heap.size ≤ t.heap.size := by rw [q3]; have := hg.1; omega
  have K1 := K t.heap (locs ++ L) (cells + (S1.length - S.length)) (slots + (tot S1 - tot S)) ls
    ⟨q2, ⟨hsz0, fun q a1 a2 => by
      rw [q4 q (by rw [h0]; exact Nat.lt_of_lt_of_le a1 hS.1) a2, h0]
      exact hS.2.1 q a1 a2, fun q hq => by
      rcases List.mem_append.mp hq with h | h
      · exact hS.2.2 q h
      · exact hLo q h⟩, q5, q7, by have := hg.1; omega, by have := hg.1; omega, by have := hg.2; omega⟩ hL (fun v hv => by
      rcases List.mem_append.mp hv with h | h
      · exact q6 v h
      · exact hrest v h)
  rw [hst] at K1
  exact K1
theorem preP {av : List Vv} (hC : CK D cA base tt s args) (hH : HI D cA base tt s MC MS Sf S M H locs cells slots) (hsz : H.size = base + S.length) : ∀ U : State, U.heap = H → s.WarmedH U.vm → PP D cA base tt av S M (av.map (rv (ph base tt))).toArray U := by
  intro U hU hW
  obtain ⟨hP, hS, -⟩ := hH
  refine ⟨rfl, by rw [hU]; exact hsz, by rw [hU]; exact hP, va_K.moved hW.alike hC.2.1, fun j hj => ⟨?_, ?_⟩, XW.moved hW hC.2.2.2.2⟩
  · rw [hU]
    exact ((hC.2.2.1 j hj).1.moved hW.alike).kept (fun a h1 h2 => hS.2.1 a h1 h2)
  · rw [hU]
    exact ((hC.2.2.1 j hj).2.moved hW.alike).kept (fun a h1 h2 => hS.2.1 a h1 h2)
theorem take_drop_rv {f : Nat → Nat} {st : List Vv} {n : Nat} {v : Vv} {rest : List Vv} (h : st.drop n = v :: rest) : st.map (rv f) = ((st.take n).reverse.map (rv f)).reverse ++ rv f v :: rest.map (rv f) := by
  rw [← List.map_reverse, List.reverse_reverse, ← List.map_cons, ← List.map_append, ← h, List.take_append_drop]
set_option maxHeartbeats 4000000 in
theorem callW {n : Nat} (hA : MetA l n) {mid' : Nat} {av rest : List Vv} {r : Option Vv} (hF : FF p s m meth c mid) (hC : CK D cA base tt s args) (hH : HI D cA base tt s MC MS Sf S M H locs cells slots) (hL : LR (ph base tt) (mL mid) mls ls) (hst : ∀ v ∈ mst, okV v) (ha : act mid pc mls mst S M = some (.inr (.inl (mid', av, rest)))) (hlen : (eLoc av).length ≤ mL mid') (hrun : run n d mid' 0 (entryL mid' av) [] S M = some (r, S1, M1)) (hg1 : Gr S1 Sf)
    (K : KK p l e (rmD (d + 1) MC MS) s m args below meth c Q D cA base tt (mL mid) MC MS Sf (pc + 3) mls (r.toList ++ rest) S1 M1) : W p l e (rmD (d + 1) MC MS) s m args below meth c H locs cells slots Q (F0 m pc ls (mst.map (rv (ph base tt)))) := by
  obtain ⟨hx, hb, hml, hret, hown, hlocks, hname⟩ := hF
  obtain ⟨hP, hS, hM, hSl, h1, h2, h3⟩ := id hH
  have hg := gr_run _ _ _ _ _ _ _ _ _ _ _ hrun
  refine W_size (fun hz => ?_)
  have hsz := hH.size hC.2.2.2.1 hz
  have hfix : CallFix p m c (mB mid) (mL mid) s args gwT (cN (mOwn mid)) := ⟨hx, hb, hml, hown, hC.1⟩
  have hfit : cells + (S1.length - S.length) ≤ (rmD (d + 1) MC MS).cells ∧ slots + (tot S1 - tot S) ≤ (rmD (d + 1) MC MS).slots := by
    show cells + (S1.length - S.length) ≤ MC ∧ slots + (tot S1 - tot S) ≤ MS
    have := hg1.1
    have := hg1.2
    have := hg.1
    have := hg.2
    omega
  have hokt : ∀ k, ∀ v ∈ mst.take k, okV v := fun k v hv => hst v (List.mem_of_mem_take hv)
  have hokd : ∀ k, ∀ v ∈ mst.drop k, okV v := fun k v hv => hst v (List.mem_of_mem_drop hv)
  unfold act at ha
  split at ha
  · next i hi =>
    obtain ⟨len, hd, hlen2, hpi⟩ := ins_spec hi
    rcases act_kind ha with ⟨rfl, ha2⟩ | ⟨rfl, ha2⟩ | ⟨rfl, ha2⟩ | ⟨rfl, ha2⟩ | ⟨x, rfl, ha2⟩ | ⟨x, rfl, ha2⟩ | ⟨x, rfl, ha2⟩
    · exact (nc_i ha2).elim
    · exact (nc_l ha2).elim
    · exact (nc_a ha2).elim
    · exact (nc_v ha2).elim
    · cases len_of hlen2 rfl
      unfold aInvV at ha2
      split at ha2
      · next mi hk =>
        split at ha2
        · next hmi =>
          split at ha2
          · next a rest' hdr =>
            split at ha2
            · next kd nn rf hs =>
              split at ha2
              · next hcc =>
                cases ha2
                obtain ⟨hkd, hcat, hpl⟩ := hcc
                have hpi : x < 1000 := hpi
                have hmm : mid' < 206 := by rcases poolM_ok _ (lk_mem hk) with h | h <;> simp only at h <;> omega
                obtain ⟨f1, f2, f3, f4, f5⟩ := m_facts hmm
                have hw := wM _ (lk_mem hk)
                rw [notNest (nest_1000 _ (lk_mem hk) (Or.inr (Or.inr hmi.2.2))), (key_div hpi).1, (key_div hpi).2] at hw
                have hyy : mYY mid' = mY mid' := by unfold mYY; rw [if_neg (by omega), if_neg (by omega), if_neg (by omega), if_neg (by omega)]
                rw [hyy] at hw
                have hst1 := w_st hmm
                unfold wSt at hst1
                rw [hmi.2.1] at hst1
                have hoki : ∀ v ∈ vR (some a) :: (mst.take (mP mid')).reverse, okV v := ok1 (fun v hv => hokt _ v (List.mem_reverse.mp hv)) trivial
                have hM1 := hA d mid' _ S M r S1 M1 hrun D cA base tt hmm hlen hoki hM hSl
                have hat := world_at (base := base) (f := ph base tt) (cA := cA) (M := M) hs
                have hkd9 : kd < 9 := by
                  rw [hkd]
                  have h9 := f1
                  exact (of_decide_eq_true (all_at mW7 hmm))
                rw [cellE_obj hkd9] at hat
                have hra : rv (ph base tt) (vR (some a)) = .ref (base + a) := by show Value.ref (ph base tt a) = _; rw [ph_lt (S_lt hs hSl).2]
                have hpre := preP (av := vR (some a) :: (mst.take (mP mid')).reverse) hC hH hsz
                rw [List.map_cons, hra] at hpre
                have hrun2 := va_runV (e := e) (below := below) (meth := meth) (locs := locs) (b := base + a) (As := ((mst.take (mP mid')).reverse).map (rv (ph base tt))) (rest := rest.map (rv (ph base tt))) (n := mP mid') (index := x) (C := (mY mid').cls) (g := F0 m pc ls (mst.map (rv (ph base tt)))) hfix hM1
                  ⟨callB_of (mP mid') hC.1 (wsM_good hmm) rfl rfl rfl (hC.1 _ (tb_in (w_ini hmm))) (hC.1 _ (tb_in hw)) ⟨f3, f4, f5⟩ (cells_call hmm), hC.1 _ (tb_in hst1), hC.1 _ (w_sel hmm hmi.2.1 hmi.2.2)⟩
                  ⟨PP.blind, (by rw [f1, ← hkd]; exact va_recv hC.2.1 hP (cls_cl kd hkd9) hat), hpre⟩ rfl (by simp; omega) hL.2.1 (by show mst.map _ = _; rw [take_drop_rv hdr, hra]) (by show 2 * 0 + _ ≤ 8; rw [catS_rv]; omega) hd hfit
                exact afterW hC hH hL (fun v hv => hokd _ v (by rw [hdr]; exact List.mem_cons_of_mem _ hv)) hg hrun2 K
              · cases ha2
            · cases ha2
          · cases ha2
        · cases ha2
      · cases ha2
    · cases len_of hlen2 rfl
      have hpi : x < 1000 := hpi
      unfold aInvS at ha2
      split at ha2
      · next mi hk =>
        split at ha2
        · split at ha2
          · split at ha2
            · split at ha2
              · exact (nr_go ha2).elim
              · cases ha2
            · cases ha2
          · cases ha2
        · split at ha2
          · split at ha2
            · split at ha2
              · exact (nr_go ha2).elim
              · cases ha2
            · cases ha2
          · split at ha2
            · split at ha2
              · split at ha2
                · exact (nr_go ha2).elim
                · cases ha2
              · cases ha2
            · split at ha2
              · next hmi =>
                cases ha2
                have hmm : mid' < 206 := by rcases poolM_ok _ (lk_mem hk) with h | h <;> simp only at h <;> omega
                obtain ⟨f1, f2, f3, f4, f5⟩ := m_facts hmm
                have hw := wM _ (lk_mem hk)
                rw [notNest (nest_1000 _ (lk_mem hk) (Or.inr (Or.inl hmi.2.1))), (key_div hpi).1, (key_div hpi).2] at hw
                have hyy : mYY mid' = mY mid' := by unfold mYY; rw [if_neg (by omega), if_neg (by omega), if_neg (by omega), if_neg (by omega)]
                rw [hyy] at hw
                have hst1 := w_st hmm
                unfold wSt at hst1
                rw [hmi.2.1] at hst1
                have hoki : ∀ v ∈ (mst.take (mP mid')).reverse, okV v := fun v hv => hokt _ v (List.mem_reverse.mp hv)
                have hM1 := hA d mid' _ S M r S1 M1 hrun D cA base tt hmm hlen hoki hM hSl
                have hpre := preP (av := (mst.take (mP mid')).reverse) hC hH hsz
                have hrun2 := va_runS (e := e) (below := below) (meth := meth) (locs := locs) (As := ((mst.take (mP mid')).reverse).map (rv (ph base tt))) (rest := (mst.drop (mP mid')).map (rv (ph base tt))) (n := mP mid') (index := x) (g := F0 m pc ls (mst.map (rv (ph base tt)))) hfix hM1
                  ⟨callB_of (mP mid') hC.1 (wsM_good hmm) rfl rfl rfl (hC.1 _ (tb_in (w_ini hmm))) (hC.1 _ (tb_in hw)) ⟨f3, f4, f5⟩ (cells_call hmm), hC.1 _ (tb_in hst1)⟩
                  ⟨PP.blind, hpre⟩ rfl (by simp; omega) hL.2.1 (by show mst.map _ = _; rw [← List.map_reverse, List.reverse_reverse, ← List.map_append, List.take_append_drop]) (by show 2 * 0 + _ ≤ 8; rw [catS_rv]; omega) hd hfit
                exact afterW hC hH hL (hokd _) hg hrun2 K
              · cases ha2
      · cases ha2
    · cases len_of hlen2 rfl
      have hpi : x < 1000 := hpi
      unfold aInvI at ha2
      split at ha2
      · next mi hk =>
        split at ha2
        · split at ha2
          · split at ha2
            · exact (nr_go ha2).elim
            · cases ha2
          · cases ha2
        · split at ha2
          · next hmi =>
            split at ha2
            · next a rest' hdr =>
              split at ha2
              · next hcat =>
                cases ha2
                have hmm : mid' < 206 := by rcases poolM_ok _ (lk_mem hk) with h | h <;> simp only at h <;> omega
                obtain ⟨f1, f2, f3, f4, f5⟩ := m_facts hmm
                have hw := wM _ (lk_mem hk)
                have hyy : mYY mid' = mY mid' := by unfold mYY; rw [if_neg (by omega), if_neg (by omega), if_neg (by omega), if_neg (by omega)]
                have hst1 := w_st hmm
                unfold wSt at hst1
                rw [hmi.2.1] at hst1
                have hoki : ∀ v ∈ vR (some a) :: (mst.take (mP mid')).reverse, okV v := ok1 (fun v hv => hokt _ v (List.mem_reverse.mp hv)) trivial
                have hM1 := hA d mid' _ S M r S1 M1 hrun D cA base tt hmm hlen hoki hM hSl
                have hpre := preP (av := vR (some a) :: (mst.take (mP mid')).reverse) hC hH hsz
                rw [List.map_cons] at hpre
                have hra : rv (ph base tt) (vR (some a)) = .ref (ph base tt a) := rfl
                rw [hra] at hpre
                have hret0 : mR mid' = none := Option.isNone_iff_eq_none.mp (by have h9 := all_at mW8 hmm; simp only [hmi.2.2.1, decide_true, Bool.not_true, Bool.false_or] at h9; exact h9)
                by_cases hn : isNest (mOwn mid * 1000 + x, mid') = true
                · have hN := nest_ini _ (lk_mem hk) hn
                  have hkey : mOwn mid * 1000 + x = 7018 := by simpa [isNest] using hn
                  have ho7 : mOwn mid = 7 := by omega
                  have hx18 : x = 18 := by omega
                  subst hx18
                  have hm29 : mid' = 29 := nest_29 _ (lk_mem hk) hn
                  subst hm29
                  have hnw : va_Nw (.methodLinkNest (cN (mOwn mid)) 18 (mY 29) "ElbowQueue") s := by rw [ho7]; exact hC.2.2.2.2.2.2.2
                  have hcw := va_cnB (R := rmD (d + 1) MC MS) (s := s) (args := args) (own := cN (mOwn mid)) (host := "ElbowQueue") (index := 18) (y := mY 29) (bytes := mB 29) (maxL := mL 29) (ret := none) (ws := wsM 29) (rm := rmD d (S1.length - S.length) (tot S1 - tot S)) (mP 29) hC.1 (wsM_good hmm) rfl rfl rfl hnw (hC.1 _ (tb_in (w_ini hmm))) ⟨f3, f4, f5⟩ (cells_call hmm)
                  have hrun2 := va_runIN (e := e) (below := below) (meth := meth) (locs := locs) (b := ph base tt a) (As := ((mst.take (mP 29)).reverse).map (rv (ph base tt))) (rest := rest.map (rv (ph base tt))) (n := mP 29) (index := 18) (g := F0 m pc ls (mst.map (rv (ph base tt)))) hfix hM1
                    ⟨hcw, hmi.2.2.1, hC.1 _ (tb_in hst1)⟩
                    ⟨PP.blind, hpre⟩ rfl (by simp; omega) hL.2.1 (by show mst.map _ = _; rw [take_drop_rv hdr, hra]) (by show 2 * 0 + _ ≤ 8; rw [catS_rv]; omega) hd hfit
                  exact afterW hC hH hL (fun v hv => hokd _ v (by rw [hdr]; exact List.mem_cons_of_mem _ hv)) hg hrun2 K
                · have hn2 : isNest (mOwn mid * 1000 + x, mid') = false := by simpa using hn
                  rw [notNest hn2, (key_div hpi).1, (key_div hpi).2, hyy] at hw
                  have hrun2 := va_runI (e := e) (below := below) (meth := meth) (locs := locs) (b := ph base tt a) (As := ((mst.take (mP mid')).reverse).map (rv (ph base tt))) (rest := rest.map (rv (ph base tt))) (n := mP mid') (index := x) (g := F0 m pc ls (mst.map (rv (ph base tt)))) hfix hM1
                    ⟨callB_of (bytes := mB mid') (maxL := mL mid') (ret := none) (ws' := gwT) (mP mid') hC.1 (wsM_good hmm) (by unfold wsM; rw [hret0]) rfl rfl (hC.1 _ (tb_in (w_ini hmm))) (hC.1 _ (tb_in hw)) ⟨f3, f4, f5⟩ (cells_call hmm), hmi.2.2.1, hC.1 _ (tb_in hst1)⟩
                    ⟨PP.blind, hpre⟩ rfl (by simp; omega) hL.2.1 (by show mst.map _ = _; rw [take_drop_rv hdr, hra]) (by show 2 * 0 + _ ≤ 8; rw [catS_rv]; omega) hd hfit
                  exact afterW hC hH hL (fun v hv => hokd _ v (by rw [hdr]; exact List.mem_cons_of_mem _ hv)) hg hrun2 K
              · cases ha2
            · cases ha2
          · cases ha2
      · cases ha2
  · cases ha
end SIMQ
set_option maxHeartbeats 4000000 in
theorem simW {l : Launch} (hmna : MNA l) : ∀ n, SimW l n := by
  intro n
  induction n with
  | zero =>
    intro d mid pc mls mst S M r Sf Mf h
    cases h
  | succ n ih =>
    intro d mid pc mls mst S M r Sf Mf h D cA base tt p e s m args below meth c MC MS H locs cells slots ls hF hC hH hL hst
    unfold run at h
    split at h
    · cases h
    · next pc1 ls1 st1 S1 M1 ha =>
      have hg := gr_run _ _ _ _ _ _ _ _ _ _ _ h
      exact stepW hmna hF hC hH hL hst ha hg (fun H1 locs1 cells1 slots1 ls1 hH1 hL1 hst1 => ih d mid pc1 _ _ S1 M1 r Sf Mf h D cA base tt p e s m args below meth c MC MS H1 locs1 cells1 slots1 ls1 hF hC hH1 hL1 hst1)
    · next mid' av rest ha =>
      split at h
      · cases h
      · next d' =>
        split at h
        · next hlen =>
          split at h
          · cases h
          · next r1 S1 M1 hrun =>
            have hg := gr_run _ _ _ _ _ _ _ _ _ _ _ h
            exact callW (met_of_sim ih) hF hC hH hL hst ha hlen hrun hg (fun H1 locs1 cells1 slots1 ls1 hH1 hL1 hst1 => ih (d' + 1) mid (pc + 3) _ _ S1 M1 r Sf Mf h D cA base tt p e s m args below meth c MC MS H1 locs1 cells1 slots1 ls1 hF hC hH1 hL1 hst1)
        · cases h
    · next r1 ha =>
      cases h
      exact retW hF hC hH hst ha
/-- a method's contract, out of its run in the little machine -/
theorem metA {l : Launch} (hmna : MNA l) (n : Nat) : MetA l n := met_of_sim (simW hmna n)
end
section
theorem mna_outer (c : ClassId) (N h0 : Nat) : ∀ i : Nat, Jvm.Free.Multi.outerC c N h0 i = arrV c N (fun j => va_rf (if j < i then some (h0 + 1 + j) else none))
  | 0 => by
    show ({ cls := c, slots := Array.replicate N .null, vm := .none } : Cell) = _
    rw [arrV_new]
    refine congrArg (arrV c N) (funext fun j => ?_)
    simp [va_rf]
  | i + 1 => by
    show (Jvm.Free.Multi.outerC c N h0 i).setSlot i (.ref (h0 + 1 + i)) = _
    rw [mna_outer c N h0 i, arrV_store]
    refine congrArg (arrV c N) (funext fun j => ?_)
    by_cases e : j = i
    · subst e
      simp [updV, va_rf]
    · by_cases h : j < i
      · simp [updV, e, h, Nat.lt_succ_of_lt h]
      · simp [updV, e, h, show ¬ j < i + 1 by omega]
theorem mna_str : "[" ++ (FieldType.array FieldType.int).toString = "[[I" := by decide +kernel
theorem mna_str2 : (FieldType.array FieldType.int).toString = "[" ++ FieldType.int.toString := by decide +kernel
theorem mna_tot (n k : Nat) : tot (List.replicate n ((20, k, []) : Sh)) = n * k := by
  unfold tot
  rw [List.map_replicate, List.sum_replicate_nat]
set_option maxHeartbeats 4000000 in
theorem mna (l : Launch) : MNA l := by
  intro p e R s m args below meth c H locs cells slots Q cc pc ls D cA base tt nL MC MS Sf S S' M M' mls mls' mst mst' pc' own idx hx hb hC hown hix hg hRc hRs hH hL hst hd ha K
  unfold aNewm at ha
  obtain ⟨hP, hS, hM, hSl, h1, h2, h3⟩ := id hH
  split at ha
  · next k n rest ci hk =>
    have hkr : inR k := okh hst
    have hnr : inR n := okh (okt hst)
    split at ha
    · next hc =>
      obtain ⟨hn0, hn1, hk0, hk1, rfl, hl⟩ := hc
      obtain ⟨rfl, rfl, rfl, rfl, rfl⟩ := go_inj ha
      have hw := wK _ (lk_mem hk)
      unfold wordK at hw
      rw [(key_div hix).1, (key_div hix).2] at hw
      have hcK : cK 22 = "[" ++ (FieldType.array FieldType.int).toString := by rw [mna_str]; rfl
      rw [hcK] at hw
      have htot : tot ((22, n.toNat, (List.range n.toNat).map (fun i => some (S.length + 1 + i))) :: List.replicate n.toNat ((20, k.toNat, []) : Sh)) = n.toNat + n.toNat * k.toNat := by
        rw [show ((22, n.toNat, (List.range n.toNat).map (fun i => some (S.length + 1 + i))) :: List.replicate n.toNat ((20, k.toNat, []) : Sh)) = [(22, n.toNat, (List.range n.toNat).map (fun i => some (S.length + 1 + i)))] ++ List.replicate n.toNat ((20, k.toNat, []) : Sh) from rfl, tot_app, mna_tot]
        simp [tot]
      have hlen : (S ++ ((22, n.toNat, (List.range n.toNat).map (fun i => some (S.length + 1 + i))) :: List.replicate n.toNat ((20, k.toNat, []) : Sh))).length = S.length + 1 + n.toNat := by simp; omega
      rw [tot_app, htot, hlen] at hg
      refine W_size (fun hz => ?_)
      have hsz := hH.size hC.2.2.2.1 hz
      have hby4 : (Int32.ofInt k).toNatClampNeg * componentBytes FieldType.int ≤ 536870912 := by
        have h9 : componentBytes FieldType.int = 4 := rfl
        rw [i32_clamp hkr, h9]
        omega
      intro T hT Xs
      obtain ⟨vm₁, cA1, comp, -, fA, fC, hO, -, X', step⟩ := Xs.multianewarray2F hx (ty := .int) hown (hC.1 _ (tb_in hw)) hC.2.2.2.2.2.2.1 (hC.1 _ (tb_in w_arrI)) (g := F0 m pc ls ((vI k :: vI n :: rest).map (rv (ph base tt)))) rfl (by rw [hb]; exact hd) (n := Int32.ofInt n) (k := Int32.ofInt k) rfl (i32_neg hnr hn0) (i32_neg hkr hk0) (by rw [i32_clamp hnr]; omega) hby4 (by rw [i32_clamp hkr]; omega) rfl rfl (by rw [hRc, i32_clamp hnr]; omega) (by rw [hRs, i32_clamp hnr, i32_clamp hkr]; omega)
      rw [i32_clamp hnr, i32_clamp hkr] at X' step
      have e22 : cA1 = cA 22 := Option.some.inj (fA.symm.trans (hC.2.1.2 2 _ rfl).2)
      have e20 : comp = cA 20 := by
        have q := (hC.2.1.2 0 _ rfl).2
        rw [mna_str2] at fC
        exact Option.some.inj (fC.symm.trans q)
      subst e22
      subst e20
      generalize hF : Jvm.Free.Multi.fill (T.setVm vm₁) (cA 22) (cA 20) n.toNat k.toNat (defaultValue .int) n.toNat = F at X' step
      have hTh : (T.setVm vm₁).heap = H := hT
      obtain ⟨f1, f2, -, -⟩ := Jvm.Free.Multi.fill_facts (T.setVm vm₁) (cA 22) (cA 20) n.toNat k.toNat (defaultValue .int) n.toNat
      rw [hF, hTh] at f1 f2
      have hold : ∀ x : Nat, x < H.size → F.heap[x]? = H[x]? := fun x hx => by
        have q := Jvm.Free.Multi.fill_old (T.setVm vm₁) (cA 22) (cA 20) n.toNat k.toNat (defaultValue .int) (a := x) (by rw [hTh]; exact hx) n.toNat
        rw [hF, hTh] at q
        exact q
      have hrow : ∀ j : Nat, j < n.toNat → F.heap[H.size + 1 + j]? = some (Jvm.Free.Multi.innerC (cA 20) k.toNat (defaultValue .int)) := fun j hj => by
        have q := Jvm.Free.Multi.fill_inner (T.setVm vm₁) (cA 22) (cA 20) n.toNat k.toNat (defaultValue .int) n.toNat j hj
        rw [hF, hTh] at q
        exact q
      rw [mna_outer] at f2
      have hPn : va_P D vwCl (world base (ph base tt) cA (S ++ ((22, n.toNat, (List.range n.toNat).map (fun i => some (S.length + 1 + i))) :: List.replicate n.toNat (20, k.toNat, []))) (mzs M S.length)) F.heap := by
        intro b q hb2
        simp only [world, List.getElem?_mapIdx, Option.map_eq_some_iff] at hb2
        obtain ⟨h, hbS, rfl⟩ := hb2
        by_cases c1 : b < S.length
        · rw [List.getElem?_append_left c1] at hbS
          rw [cellE_congr (N := M) (fun i => mzs_lt c1 i)]
          have q1 := hP b _ (world_at hbS)
          exact q1.kept (hold _ (q1.lt))
        · rw [List.getElem?_append_right (by omega)] at hbS
          by_cases c2 : b = S.length
          · subst c2
            rw [Nat.sub_self] at hbS
            cases hbS
            rw [cellE_ref (Or.inl rfl)]
            show F.heap[base + S.length]? = some (vp_cell _ _)
            rw [vp_cell_q, ← hsz, f2]
            congr 2
            funext j
            by_cases c3 : j < n.toNat
            · simp only [if_pos c3, List.getD_eq_getElem?_getD, List.getElem?_map, List.getElem?_range c3, Option.map_some, Option.getD_some]
              rw [ph_lt (by omega)]
              rw [hsz]
              congr 2
              omega
            · simp only [if_neg c3, List.getD_eq_getElem?_getD]
              rw [List.getElem?_eq_none (by simp; omega)]
              rfl
          · obtain ⟨j, rfl⟩ : ∃ j, b = S.length + 1 + j := ⟨b - S.length - 1, by omega⟩
            rw [show S.length + 1 + j - S.length = j + 1 by omega, List.getElem?_cons_succ, List.getElem?_replicate] at hbS
            split at hbS
            · next hj =>
              cases hbS
              rw [cellE_arr (Or.inl rfl)]
              show F.heap[base + (S.length + 1 + j)]? = some (vp_cell _ _)
              rw [vp_cell_i, show base + (S.length + 1 + j) = H.size + 1 + j by omega, hrow j hj]
              show some ({ cls := cA 20, slots := Array.replicate k.toNat (defaultValue .int), vm := .none } : Cell) = _
              rw [arrV_new]
              congr 2
              funext i
              have q9 : mzs M S.length (S.length + 1 + j) (i : Int) = 0 := if_pos (by omega)
              rw [q9]
              rfl
            · cases hbS
      have K1 := K F.heap locs (cells + 1 + n.toNat) (slots + n.toNat + n.toNat * k.toNat) ls
        ⟨hPn, ⟨by rw [f1]; have := hS.1; omega, fun q q1 q2 => (hold q (by have := hS.1; omega)).trans (hS.2.1 q q1 q2), hS.2.2⟩, mzs_R hM, by rw [hlen]; omega, by rw [hlen]; omega, by rw [hlen]; omega, by rw [tot_app, htot]; omega⟩ hL (ok1 (okt (okt hst)) (v := vR (some S.length)) trivial)
      obtain ⟨t, a1, b1⟩ := K1 F rfl X'
      refine ⟨t, step t ?_, b1⟩
      have hr : rv (ph base tt) (vR (some S.length)) = .ref T.heap.size := by show Value.ref (ph base tt _) = _; rw [ph_lt (by omega), hT, hsz]
      rw [List.map_cons, hr] at a1
      exact a1
    · cases ha
  · cases ha
end
section
/-- the shapes behind both constructors -/
def SS : List Sh := [(7, 14, [some 1, some 13, some 15, some 20, some 25, some 31, some 177, some 246, some 248, some 249, some 250, none, none, none]),
  (4, 3, [some 2, some 11, some 12]),
  (22, 8, [some 3, some 4, some 5, some 6, some 7, some 8, some 9, some 10]),
  (20, 40, []),
  (20, 40, []),
  (20, 40, []),
  (20, 40, []),
  (20, 40, []),
  (20, 40, []),
  (20, 40, []),
  (20, 40, []),
  (20, 8, []),
  (20, 8, []),
  (3, 4, [some 14, none, none, none]),
  (20, 160, []),
  (5, 8, [some 16, some 17, some 18, some 19, none, none, none, none]),
  (20, 28, []),
  (20, 28, []),
  (20, 16, []),
  (20, 16, []),
  (5, 8, [some 21, some 22, some 23, some 24, none, none, none, none]),
  (20, 28, []),
  (20, 28, []),
  (20, 16, []),
  (20, 16, []),
  (6, 11, [some 20, some 26, some 27, some 28, some 29, some 30, none, none, none, none, none]),
  (20, 16, []),
  (20, 16, []),
  (20, 16, []),
  (20, 16, []),
  (20, 16, []),
  (0, 3, [some 32, none, none]),
  (24, 24, [some 33, some 39, some 45, some 51, some 57, some 63, some 69, some 75, some 81, some 87, some 93, some 99, some 105, some 111, some 117, some 123, some 129, some 135, some 141, some 147, some 153, some 159, some 165, some 171]),
  (6, 11, [some 20, some 34, some 35, some 36, some 37, some 38, none, none, none, none, none]),
  (20, 16, []),
  (20, 16, []),
  (20, 16, []),
  (20, 16, []),
  (20, 16, []),
  (6, 11, [some 20, some 40, some 41, some 42, some 43, some 44, none, none, none, none, none]),
  (20, 16, []),
  (20, 16, []),
  (20, 16, []),
  (20, 16, []),
  (20, 16, []),
  (6, 11, [some 20, some 46, some 47, some 48, some 49, some 50, none, none, none, none, none]),
  (20, 16, []),
  (20, 16, []),
  (20, 16, []),
  (20, 16, []),
  (20, 16, []),
  (6, 11, [some 20, some 52, some 53, some 54, some 55, some 56, none, none, none, none, none]),
  (20, 16, []),
  (20, 16, []),
  (20, 16, []),
  (20, 16, []),
  (20, 16, []),
  (6, 11, [some 20, some 58, some 59, some 60, some 61, some 62, none, none, none, none, none]),
  (20, 16, []),
  (20, 16, []),
  (20, 16, []),
  (20, 16, []),
  (20, 16, []),
  (6, 11, [some 20, some 64, some 65, some 66, some 67, some 68, none, none, none, none, none]),
  (20, 16, []),
  (20, 16, []),
  (20, 16, []),
  (20, 16, []),
  (20, 16, []),
  (6, 11, [some 20, some 70, some 71, some 72, some 73, some 74, none, none, none, none, none]),
  (20, 16, []),
  (20, 16, []),
  (20, 16, []),
  (20, 16, []),
  (20, 16, []),
  (6, 11, [some 20, some 76, some 77, some 78, some 79, some 80, none, none, none, none, none]),
  (20, 16, []),
  (20, 16, []),
  (20, 16, []),
  (20, 16, []),
  (20, 16, []),
  (6, 11, [some 20, some 82, some 83, some 84, some 85, some 86, none, none, none, none, none]),
  (20, 16, []),
  (20, 16, []),
  (20, 16, []),
  (20, 16, []),
  (20, 16, []),
  (6, 11, [some 20, some 88, some 89, some 90, some 91, some 92, none, none, none, none, none]),
  (20, 16, []),
  (20, 16, []),
  (20, 16, []),
  (20, 16, []),
  (20, 16, []),
  (6, 11, [some 20, some 94, some 95, some 96, some 97, some 98, none, none, none, none, none]),
  (20, 16, []),
  (20, 16, []),
  (20, 16, []),
  (20, 16, []),
  (20, 16, []),
  (6, 11, [some 20, some 100, some 101, some 102, some 103, some 104, none, none, none, none, none]),
  (20, 16, []),
  (20, 16, []),
  (20, 16, []),
  (20, 16, []),
  (20, 16, []),
  (6, 11, [some 20, some 106, some 107, some 108, some 109, some 110, none, none, none, none, none]),
  (20, 16, []),
  (20, 16, []),
  (20, 16, []),
  (20, 16, []),
  (20, 16, []),
  (6, 11, [some 20, some 112, some 113, some 114, some 115, some 116, none, none, none, none, none]),
  (20, 16, []),
  (20, 16, []),
  (20, 16, []),
  (20, 16, []),
  (20, 16, []),
  (6, 11, [some 20, some 118, some 119, some 120, some 121, some 122, none, none, none, none, none]),
  (20, 16, []),
  (20, 16, []),
  (20, 16, []),
  (20, 16, []),
  (20, 16, []),
  (6, 11, [some 20, some 124, some 125, some 126, some 127, some 128, none, none, none, none, none]),
  (20, 16, []),
  (20, 16, []),
  (20, 16, []),
  (20, 16, []),
  (20, 16, []),
  (6, 11, [some 20, some 130, some 131, some 132, some 133, some 134, none, none, none, none, none]),
  (20, 16, []),
  (20, 16, []),
  (20, 16, []),
  (20, 16, []),
  (20, 16, []),
  (6, 11, [some 20, some 136, some 137, some 138, some 139, some 140, none, none, none, none, none]),
  (20, 16, []),
  (20, 16, []),
  (20, 16, []),
  (20, 16, []),
  (20, 16, []),
  (6, 11, [some 20, some 142, some 143, some 144, some 145, some 146, none, none, none, none, none]),
  (20, 16, []),
  (20, 16, []),
  (20, 16, []),
  (20, 16, []),
  (20, 16, []),
  (6, 11, [some 20, some 148, some 149, some 150, some 151, some 152, none, none, none, none, none]),
  (20, 16, []),
  (20, 16, []),
  (20, 16, []),
  (20, 16, []),
  (20, 16, []),
  (6, 11, [some 20, some 154, some 155, some 156, some 157, some 158, none, none, none, none, none]),
  (20, 16, []),
  (20, 16, []),
  (20, 16, []),
  (20, 16, []),
  (20, 16, []),
  (6, 11, [some 20, some 160, some 161, some 162, some 163, some 164, none, none, none, none, none]),
  (20, 16, []),
  (20, 16, []),
  (20, 16, []),
  (20, 16, []),
  (20, 16, []),
  (6, 11, [some 20, some 166, some 167, some 168, some 169, some 170, none, none, none, none, none]),
  (20, 16, []),
  (20, 16, []),
  (20, 16, []),
  (20, 16, []),
  (20, 16, []),
  (6, 11, [some 20, some 172, some 173, some 174, some 175, some 176, none, none, none, none, none]),
  (20, 16, []),
  (20, 16, []),
  (20, 16, []),
  (20, 16, []),
  (20, 16, []),
  (2, 5, [some 178, some 25, some 179, some 185, some 191]),
  (20, 16, []),
  (6, 11, [some 20, some 180, some 181, some 182, some 183, some 184, none, none, none, none, none]),
  (20, 28, []),
  (20, 28, []),
  (20, 28, []),
  (20, 28, []),
  (20, 28, []),
  (6, 11, [some 20, some 186, some 187, some 188, some 189, some 190, none, none, none, none, none]),
  (20, 16, []),
  (20, 16, []),
  (20, 16, []),
  (20, 16, []),
  (20, 16, []),
  (24, 9, [some 192, some 198, some 204, some 210, some 216, some 222, some 228, some 234, some 240]),
  (6, 11, [some 20, some 193, some 194, some 195, some 196, some 197, none, none, none, none, none]),
  (20, 16, []),
  (20, 16, []),
  (20, 16, []),
  (20, 16, []),
  (20, 16, []),
  (6, 11, [some 20, some 199, some 200, some 201, some 202, some 203, none, none, none, none, none]),
  (20, 16, []),
  (20, 16, []),
  (20, 16, []),
  (20, 16, []),
  (20, 16, []),
  (6, 11, [some 20, some 205, some 206, some 207, some 208, some 209, none, none, none, none, none]),
  (20, 16, []),
  (20, 16, []),
  (20, 16, []),
  (20, 16, []),
  (20, 16, []),
  (6, 11, [some 20, some 211, some 212, some 213, some 214, some 215, none, none, none, none, none]),
  (20, 16, []),
  (20, 16, []),
  (20, 16, []),
  (20, 16, []),
  (20, 16, []),
  (6, 11, [some 20, some 217, some 218, some 219, some 220, some 221, none, none, none, none, none]),
  (20, 16, []),
  (20, 16, []),
  (20, 16, []),
  (20, 16, []),
  (20, 16, []),
  (6, 11, [some 20, some 223, some 224, some 225, some 226, some 227, none, none, none, none, none]),
  (20, 16, []),
  (20, 16, []),
  (20, 16, []),
  (20, 16, []),
  (20, 16, []),
  (6, 11, [some 20, some 229, some 230, some 231, some 232, some 233, none, none, none, none, none]),
  (20, 16, []),
  (20, 16, []),
  (20, 16, []),
  (20, 16, []),
  (20, 16, []),
  (6, 11, [some 20, some 235, some 236, some 237, some 238, some 239, none, none, none, none, none]),
  (20, 16, []),
  (20, 16, []),
  (20, 16, []),
  (20, 16, []),
  (20, 16, []),
  (6, 11, [some 20, some 241, some 242, some 243, some 244, some 245, none, none, none, none, none]),
  (20, 16, []),
  (20, 16, []),
  (20, 16, []),
  (20, 16, []),
  (20, 16, []),
  (1, 4, [some 20, some 25, some 247, none]),
  (20, 16, []),
  (23, 2, [some 251, some 262]),
  (24, 2, [some 256, some 267]),
  (21, 2, []),
  (5, 8, [some 252, some 253, some 254, some 255, none, none, none, none]),
  (20, 28, []),
  (20, 28, []),
  (20, 16, []),
  (20, 16, []),
  (6, 11, [some 251, some 257, some 258, some 259, some 260, some 261, none, none, none, none, none]),
  (20, 16, []),
  (20, 16, []),
  (20, 16, []),
  (20, 16, []),
  (20, 16, []),
  (5, 8, [some 263, some 264, some 265, some 266, none, none, none, none]),
  (20, 28, []),
  (20, 28, []),
  (20, 16, []),
  (20, 16, []),
  (6, 11, [some 262, some 268, some 269, some 270, some 271, some 272, none, none, none, none, none]),
  (20, 16, []),
  (20, 16, []),
  (20, 16, []),
  (20, 16, []),
  (20, 16, []),
  (8, 22, [some 274, some 275, some 276, some 277, none, some 278, none, some 279, some 280, some 281, some 282, some 283, some 284, none, none, none, none, some 285, some 286, some 287, some 288, none]),
  (20, 232, []),
  (20, 464, []),
  (21, 2, []),
  (20, 3480, []),
  (20, 232, []),
  (20, 8, []),
  (20, 8, []),
  (21, 8, []),
  (20, 320, []),
  (20, 40, []),
  (20, 160, []),
  (20, 232, []),
  (20, 28, []),
  (20, 28, []),
  (20, 16, [])]
theorem s_0 : SS[0]? = some (7, 14, [some 1, some 13, some 15, some 20, some 25, some 31, some 177, some 246, some 248, some 249, some 250, none, none, none]) := by decide +kernel
theorem s_1 : SS[1]? = some (4, 3, [some 2, some 11, some 12]) := by decide +kernel
theorem s_2 : SS[2]? = some (22, 8, [some 3, some 4, some 5, some 6, some 7, some 8, some 9, some 10]) := by decide +kernel
theorem s_3 : SS[3]? = some (20, 40, []) := by decide +kernel
theorem s_4 : SS[4]? = some (20, 40, []) := by decide +kernel
theorem s_5 : SS[5]? = some (20, 40, []) := by decide +kernel
theorem s_6 : SS[6]? = some (20, 40, []) := by decide +kernel
theorem s_7 : SS[7]? = some (20, 40, []) := by decide +kernel
theorem s_8 : SS[8]? = some (20, 40, []) := by decide +kernel
theorem s_9 : SS[9]? = some (20, 40, []) := by decide +kernel
theorem s_10 : SS[10]? = some (20, 40, []) := by decide +kernel
theorem s_11 : SS[11]? = some (20, 8, []) := by decide +kernel
theorem s_12 : SS[12]? = some (20, 8, []) := by decide +kernel
theorem s_13 : SS[13]? = some (3, 4, [some 14, none, none, none]) := by decide +kernel
theorem s_14 : SS[14]? = some (20, 160, []) := by decide +kernel
theorem s_15 : SS[15]? = some (5, 8, [some 16, some 17, some 18, some 19, none, none, none, none]) := by decide +kernel
theorem s_16 : SS[16]? = some (20, 28, []) := by decide +kernel
theorem s_17 : SS[17]? = some (20, 28, []) := by decide +kernel
theorem s_18 : SS[18]? = some (20, 16, []) := by decide +kernel
theorem s_19 : SS[19]? = some (20, 16, []) := by decide +kernel
theorem s_20 : SS[20]? = some (5, 8, [some 21, some 22, some 23, some 24, none, none, none, none]) := by decide +kernel
theorem s_21 : SS[21]? = some (20, 28, []) := by decide +kernel
theorem s_22 : SS[22]? = some (20, 28, []) := by decide +kernel
theorem s_23 : SS[23]? = some (20, 16, []) := by decide +kernel
theorem s_24 : SS[24]? = some (20, 16, []) := by decide +kernel
theorem s_25 : SS[25]? = some (6, 11, [some 20, some 26, some 27, some 28, some 29, some 30, none, none, none, none, none]) := by decide +kernel
theorem s_26 : SS[26]? = some (20, 16, []) := by decide +kernel
theorem s_27 : SS[27]? = some (20, 16, []) := by decide +kernel
theorem s_28 : SS[28]? = some (20, 16, []) := by decide +kernel
theorem s_29 : SS[29]? = some (20, 16, []) := by decide +kernel
theorem s_30 : SS[30]? = some (20, 16, []) := by decide +kernel
theorem s_31 : SS[31]? = some (0, 3, [some 32, none, none]) := by decide +kernel
theorem s_32 : SS[32]? = some (24, 24, [some 33, some 39, some 45, some 51, some 57, some 63, some 69, some 75, some 81, some 87, some 93, some 99, some 105, some 111, some 117, some 123, some 129, some 135, some 141, some 147, some 153, some 159, some 165, some 171]) := by decide +kernel
theorem s_33 : SS[33]? = some (6, 11, [some 20, some 34, some 35, some 36, some 37, some 38, none, none, none, none, none]) := by decide +kernel
theorem s_34 : SS[34]? = some (20, 16, []) := by decide +kernel
theorem s_35 : SS[35]? = some (20, 16, []) := by decide +kernel
theorem s_36 : SS[36]? = some (20, 16, []) := by decide +kernel
theorem s_37 : SS[37]? = some (20, 16, []) := by decide +kernel
theorem s_38 : SS[38]? = some (20, 16, []) := by decide +kernel
theorem s_39 : SS[39]? = some (6, 11, [some 20, some 40, some 41, some 42, some 43, some 44, none, none, none, none, none]) := by decide +kernel
theorem s_40 : SS[40]? = some (20, 16, []) := by decide +kernel
theorem s_41 : SS[41]? = some (20, 16, []) := by decide +kernel
theorem s_42 : SS[42]? = some (20, 16, []) := by decide +kernel
theorem s_43 : SS[43]? = some (20, 16, []) := by decide +kernel
theorem s_44 : SS[44]? = some (20, 16, []) := by decide +kernel
theorem s_45 : SS[45]? = some (6, 11, [some 20, some 46, some 47, some 48, some 49, some 50, none, none, none, none, none]) := by decide +kernel
theorem s_46 : SS[46]? = some (20, 16, []) := by decide +kernel
theorem s_47 : SS[47]? = some (20, 16, []) := by decide +kernel
theorem s_48 : SS[48]? = some (20, 16, []) := by decide +kernel
theorem s_49 : SS[49]? = some (20, 16, []) := by decide +kernel
theorem s_50 : SS[50]? = some (20, 16, []) := by decide +kernel
theorem s_51 : SS[51]? = some (6, 11, [some 20, some 52, some 53, some 54, some 55, some 56, none, none, none, none, none]) := by decide +kernel
theorem s_52 : SS[52]? = some (20, 16, []) := by decide +kernel
theorem s_53 : SS[53]? = some (20, 16, []) := by decide +kernel
theorem s_54 : SS[54]? = some (20, 16, []) := by decide +kernel
theorem s_55 : SS[55]? = some (20, 16, []) := by decide +kernel
theorem s_56 : SS[56]? = some (20, 16, []) := by decide +kernel
theorem s_57 : SS[57]? = some (6, 11, [some 20, some 58, some 59, some 60, some 61, some 62, none, none, none, none, none]) := by decide +kernel
theorem s_58 : SS[58]? = some (20, 16, []) := by decide +kernel
theorem s_59 : SS[59]? = some (20, 16, []) := by decide +kernel
theorem s_60 : SS[60]? = some (20, 16, []) := by decide +kernel
theorem s_61 : SS[61]? = some (20, 16, []) := by decide +kernel
theorem s_62 : SS[62]? = some (20, 16, []) := by decide +kernel
theorem s_63 : SS[63]? = some (6, 11, [some 20, some 64, some 65, some 66, some 67, some 68, none, none, none, none, none]) := by decide +kernel
theorem s_64 : SS[64]? = some (20, 16, []) := by decide +kernel
theorem s_65 : SS[65]? = some (20, 16, []) := by decide +kernel
theorem s_66 : SS[66]? = some (20, 16, []) := by decide +kernel
theorem s_67 : SS[67]? = some (20, 16, []) := by decide +kernel
theorem s_68 : SS[68]? = some (20, 16, []) := by decide +kernel
theorem s_69 : SS[69]? = some (6, 11, [some 20, some 70, some 71, some 72, some 73, some 74, none, none, none, none, none]) := by decide +kernel
theorem s_70 : SS[70]? = some (20, 16, []) := by decide +kernel
theorem s_71 : SS[71]? = some (20, 16, []) := by decide +kernel
theorem s_72 : SS[72]? = some (20, 16, []) := by decide +kernel
theorem s_73 : SS[73]? = some (20, 16, []) := by decide +kernel
theorem s_74 : SS[74]? = some (20, 16, []) := by decide +kernel
theorem s_75 : SS[75]? = some (6, 11, [some 20, some 76, some 77, some 78, some 79, some 80, none, none, none, none, none]) := by decide +kernel
theorem s_76 : SS[76]? = some (20, 16, []) := by decide +kernel
theorem s_77 : SS[77]? = some (20, 16, []) := by decide +kernel
theorem s_78 : SS[78]? = some (20, 16, []) := by decide +kernel
theorem s_79 : SS[79]? = some (20, 16, []) := by decide +kernel
theorem s_80 : SS[80]? = some (20, 16, []) := by decide +kernel
theorem s_81 : SS[81]? = some (6, 11, [some 20, some 82, some 83, some 84, some 85, some 86, none, none, none, none, none]) := by decide +kernel
theorem s_82 : SS[82]? = some (20, 16, []) := by decide +kernel
theorem s_83 : SS[83]? = some (20, 16, []) := by decide +kernel
theorem s_84 : SS[84]? = some (20, 16, []) := by decide +kernel
theorem s_85 : SS[85]? = some (20, 16, []) := by decide +kernel
theorem s_86 : SS[86]? = some (20, 16, []) := by decide +kernel
theorem s_87 : SS[87]? = some (6, 11, [some 20, some 88, some 89, some 90, some 91, some 92, none, none, none, none, none]) := by decide +kernel
theorem s_88 : SS[88]? = some (20, 16, []) := by decide +kernel
theorem s_89 : SS[89]? = some (20, 16, []) := by decide +kernel
theorem s_90 : SS[90]? = some (20, 16, []) := by decide +kernel
theorem s_91 : SS[91]? = some (20, 16, []) := by decide +kernel
theorem s_92 : SS[92]? = some (20, 16, []) := by decide +kernel
theorem s_93 : SS[93]? = some (6, 11, [some 20, some 94, some 95, some 96, some 97, some 98, none, none, none, none, none]) := by decide +kernel
theorem s_94 : SS[94]? = some (20, 16, []) := by decide +kernel
theorem s_95 : SS[95]? = some (20, 16, []) := by decide +kernel
theorem s_96 : SS[96]? = some (20, 16, []) := by decide +kernel
theorem s_97 : SS[97]? = some (20, 16, []) := by decide +kernel
theorem s_98 : SS[98]? = some (20, 16, []) := by decide +kernel
theorem s_99 : SS[99]? = some (6, 11, [some 20, some 100, some 101, some 102, some 103, some 104, none, none, none, none, none]) := by decide +kernel
theorem s_100 : SS[100]? = some (20, 16, []) := by decide +kernel
theorem s_101 : SS[101]? = some (20, 16, []) := by decide +kernel
theorem s_102 : SS[102]? = some (20, 16, []) := by decide +kernel
theorem s_103 : SS[103]? = some (20, 16, []) := by decide +kernel
theorem s_104 : SS[104]? = some (20, 16, []) := by decide +kernel
theorem s_105 : SS[105]? = some (6, 11, [some 20, some 106, some 107, some 108, some 109, some 110, none, none, none, none, none]) := by decide +kernel
theorem s_106 : SS[106]? = some (20, 16, []) := by decide +kernel
theorem s_107 : SS[107]? = some (20, 16, []) := by decide +kernel
theorem s_108 : SS[108]? = some (20, 16, []) := by decide +kernel
theorem s_109 : SS[109]? = some (20, 16, []) := by decide +kernel
theorem s_110 : SS[110]? = some (20, 16, []) := by decide +kernel
theorem s_111 : SS[111]? = some (6, 11, [some 20, some 112, some 113, some 114, some 115, some 116, none, none, none, none, none]) := by decide +kernel
theorem s_112 : SS[112]? = some (20, 16, []) := by decide +kernel
theorem s_113 : SS[113]? = some (20, 16, []) := by decide +kernel
theorem s_114 : SS[114]? = some (20, 16, []) := by decide +kernel
theorem s_115 : SS[115]? = some (20, 16, []) := by decide +kernel
theorem s_116 : SS[116]? = some (20, 16, []) := by decide +kernel
theorem s_117 : SS[117]? = some (6, 11, [some 20, some 118, some 119, some 120, some 121, some 122, none, none, none, none, none]) := by decide +kernel
theorem s_118 : SS[118]? = some (20, 16, []) := by decide +kernel
theorem s_119 : SS[119]? = some (20, 16, []) := by decide +kernel
theorem s_120 : SS[120]? = some (20, 16, []) := by decide +kernel
theorem s_121 : SS[121]? = some (20, 16, []) := by decide +kernel
theorem s_122 : SS[122]? = some (20, 16, []) := by decide +kernel
theorem s_123 : SS[123]? = some (6, 11, [some 20, some 124, some 125, some 126, some 127, some 128, none, none, none, none, none]) := by decide +kernel
theorem s_124 : SS[124]? = some (20, 16, []) := by decide +kernel
theorem s_125 : SS[125]? = some (20, 16, []) := by decide +kernel
theorem s_126 : SS[126]? = some (20, 16, []) := by decide +kernel
theorem s_127 : SS[127]? = some (20, 16, []) := by decide +kernel
theorem s_128 : SS[128]? = some (20, 16, []) := by decide +kernel
theorem s_129 : SS[129]? = some (6, 11, [some 20, some 130, some 131, some 132, some 133, some 134, none, none, none, none, none]) := by decide +kernel
theorem s_130 : SS[130]? = some (20, 16, []) := by decide +kernel
theorem s_131 : SS[131]? = some (20, 16, []) := by decide +kernel
theorem s_132 : SS[132]? = some (20, 16, []) := by decide +kernel
theorem s_133 : SS[133]? = some (20, 16, []) := by decide +kernel
theorem s_134 : SS[134]? = some (20, 16, []) := by decide +kernel
theorem s_135 : SS[135]? = some (6, 11, [some 20, some 136, some 137, some 138, some 139, some 140, none, none, none, none, none]) := by decide +kernel
theorem s_136 : SS[136]? = some (20, 16, []) := by decide +kernel
theorem s_137 : SS[137]? = some (20, 16, []) := by decide +kernel
theorem s_138 : SS[138]? = some (20, 16, []) := by decide +kernel
theorem s_139 : SS[139]? = some (20, 16, []) := by decide +kernel
theorem s_140 : SS[140]? = some (20, 16, []) := by decide +kernel
theorem s_141 : SS[141]? = some (6, 11, [some 20, some 142, some 143, some 144, some 145, some 146, none, none, none, none, none]) := by decide +kernel
theorem s_142 : SS[142]? = some (20, 16, []) := by decide +kernel
theorem s_143 : SS[143]? = some (20, 16, []) := by decide +kernel
theorem s_144 : SS[144]? = some (20, 16, []) := by decide +kernel
theorem s_145 : SS[145]? = some (20, 16, []) := by decide +kernel
theorem s_146 : SS[146]? = some (20, 16, []) := by decide +kernel
theorem s_147 : SS[147]? = some (6, 11, [some 20, some 148, some 149, some 150, some 151, some 152, none, none, none, none, none]) := by decide +kernel
theorem s_148 : SS[148]? = some (20, 16, []) := by decide +kernel
theorem s_149 : SS[149]? = some (20, 16, []) := by decide +kernel
theorem s_150 : SS[150]? = some (20, 16, []) := by decide +kernel
theorem s_151 : SS[151]? = some (20, 16, []) := by decide +kernel
theorem s_152 : SS[152]? = some (20, 16, []) := by decide +kernel
theorem s_153 : SS[153]? = some (6, 11, [some 20, some 154, some 155, some 156, some 157, some 158, none, none, none, none, none]) := by decide +kernel
theorem s_154 : SS[154]? = some (20, 16, []) := by decide +kernel
theorem s_155 : SS[155]? = some (20, 16, []) := by decide +kernel
theorem s_156 : SS[156]? = some (20, 16, []) := by decide +kernel
theorem s_157 : SS[157]? = some (20, 16, []) := by decide +kernel
theorem s_158 : SS[158]? = some (20, 16, []) := by decide +kernel
theorem s_159 : SS[159]? = some (6, 11, [some 20, some 160, some 161, some 162, some 163, some 164, none, none, none, none, none]) := by decide +kernel
theorem s_160 : SS[160]? = some (20, 16, []) := by decide +kernel
theorem s_161 : SS[161]? = some (20, 16, []) := by decide +kernel
theorem s_162 : SS[162]? = some (20, 16, []) := by decide +kernel
theorem s_163 : SS[163]? = some (20, 16, []) := by decide +kernel
theorem s_164 : SS[164]? = some (20, 16, []) := by decide +kernel
theorem s_165 : SS[165]? = some (6, 11, [some 20, some 166, some 167, some 168, some 169, some 170, none, none, none, none, none]) := by decide +kernel
theorem s_166 : SS[166]? = some (20, 16, []) := by decide +kernel
theorem s_167 : SS[167]? = some (20, 16, []) := by decide +kernel
theorem s_168 : SS[168]? = some (20, 16, []) := by decide +kernel
theorem s_169 : SS[169]? = some (20, 16, []) := by decide +kernel
theorem s_170 : SS[170]? = some (20, 16, []) := by decide +kernel
theorem s_171 : SS[171]? = some (6, 11, [some 20, some 172, some 173, some 174, some 175, some 176, none, none, none, none, none]) := by decide +kernel
theorem s_172 : SS[172]? = some (20, 16, []) := by decide +kernel
theorem s_173 : SS[173]? = some (20, 16, []) := by decide +kernel
theorem s_174 : SS[174]? = some (20, 16, []) := by decide +kernel
theorem s_175 : SS[175]? = some (20, 16, []) := by decide +kernel
theorem s_176 : SS[176]? = some (20, 16, []) := by decide +kernel
theorem s_177 : SS[177]? = some (2, 5, [some 178, some 25, some 179, some 185, some 191]) := by decide +kernel
theorem s_178 : SS[178]? = some (20, 16, []) := by decide +kernel
theorem s_179 : SS[179]? = some (6, 11, [some 20, some 180, some 181, some 182, some 183, some 184, none, none, none, none, none]) := by decide +kernel
theorem s_180 : SS[180]? = some (20, 28, []) := by decide +kernel
theorem s_181 : SS[181]? = some (20, 28, []) := by decide +kernel
theorem s_182 : SS[182]? = some (20, 28, []) := by decide +kernel
theorem s_183 : SS[183]? = some (20, 28, []) := by decide +kernel
theorem s_184 : SS[184]? = some (20, 28, []) := by decide +kernel
theorem s_185 : SS[185]? = some (6, 11, [some 20, some 186, some 187, some 188, some 189, some 190, none, none, none, none, none]) := by decide +kernel
theorem s_186 : SS[186]? = some (20, 16, []) := by decide +kernel
theorem s_187 : SS[187]? = some (20, 16, []) := by decide +kernel
theorem s_188 : SS[188]? = some (20, 16, []) := by decide +kernel
theorem s_189 : SS[189]? = some (20, 16, []) := by decide +kernel
theorem s_190 : SS[190]? = some (20, 16, []) := by decide +kernel
theorem s_191 : SS[191]? = some (24, 9, [some 192, some 198, some 204, some 210, some 216, some 222, some 228, some 234, some 240]) := by decide +kernel
theorem s_192 : SS[192]? = some (6, 11, [some 20, some 193, some 194, some 195, some 196, some 197, none, none, none, none, none]) := by decide +kernel
theorem s_193 : SS[193]? = some (20, 16, []) := by decide +kernel
theorem s_194 : SS[194]? = some (20, 16, []) := by decide +kernel
theorem s_195 : SS[195]? = some (20, 16, []) := by decide +kernel
theorem s_196 : SS[196]? = some (20, 16, []) := by decide +kernel
theorem s_197 : SS[197]? = some (20, 16, []) := by decide +kernel
theorem s_198 : SS[198]? = some (6, 11, [some 20, some 199, some 200, some 201, some 202, some 203, none, none, none, none, none]) := by decide +kernel
theorem s_199 : SS[199]? = some (20, 16, []) := by decide +kernel
theorem s_200 : SS[200]? = some (20, 16, []) := by decide +kernel
theorem s_201 : SS[201]? = some (20, 16, []) := by decide +kernel
theorem s_202 : SS[202]? = some (20, 16, []) := by decide +kernel
theorem s_203 : SS[203]? = some (20, 16, []) := by decide +kernel
theorem s_204 : SS[204]? = some (6, 11, [some 20, some 205, some 206, some 207, some 208, some 209, none, none, none, none, none]) := by decide +kernel
theorem s_205 : SS[205]? = some (20, 16, []) := by decide +kernel
theorem s_206 : SS[206]? = some (20, 16, []) := by decide +kernel
theorem s_207 : SS[207]? = some (20, 16, []) := by decide +kernel
theorem s_208 : SS[208]? = some (20, 16, []) := by decide +kernel
theorem s_209 : SS[209]? = some (20, 16, []) := by decide +kernel
theorem s_210 : SS[210]? = some (6, 11, [some 20, some 211, some 212, some 213, some 214, some 215, none, none, none, none, none]) := by decide +kernel
theorem s_211 : SS[211]? = some (20, 16, []) := by decide +kernel
theorem s_212 : SS[212]? = some (20, 16, []) := by decide +kernel
theorem s_213 : SS[213]? = some (20, 16, []) := by decide +kernel
theorem s_214 : SS[214]? = some (20, 16, []) := by decide +kernel
theorem s_215 : SS[215]? = some (20, 16, []) := by decide +kernel
theorem s_216 : SS[216]? = some (6, 11, [some 20, some 217, some 218, some 219, some 220, some 221, none, none, none, none, none]) := by decide +kernel
theorem s_217 : SS[217]? = some (20, 16, []) := by decide +kernel
theorem s_218 : SS[218]? = some (20, 16, []) := by decide +kernel
theorem s_219 : SS[219]? = some (20, 16, []) := by decide +kernel
theorem s_220 : SS[220]? = some (20, 16, []) := by decide +kernel
theorem s_221 : SS[221]? = some (20, 16, []) := by decide +kernel
theorem s_222 : SS[222]? = some (6, 11, [some 20, some 223, some 224, some 225, some 226, some 227, none, none, none, none, none]) := by decide +kernel
theorem s_223 : SS[223]? = some (20, 16, []) := by decide +kernel
theorem s_224 : SS[224]? = some (20, 16, []) := by decide +kernel
theorem s_225 : SS[225]? = some (20, 16, []) := by decide +kernel
theorem s_226 : SS[226]? = some (20, 16, []) := by decide +kernel
theorem s_227 : SS[227]? = some (20, 16, []) := by decide +kernel
theorem s_228 : SS[228]? = some (6, 11, [some 20, some 229, some 230, some 231, some 232, some 233, none, none, none, none, none]) := by decide +kernel
theorem s_229 : SS[229]? = some (20, 16, []) := by decide +kernel
theorem s_230 : SS[230]? = some (20, 16, []) := by decide +kernel
theorem s_231 : SS[231]? = some (20, 16, []) := by decide +kernel
theorem s_232 : SS[232]? = some (20, 16, []) := by decide +kernel
theorem s_233 : SS[233]? = some (20, 16, []) := by decide +kernel
theorem s_234 : SS[234]? = some (6, 11, [some 20, some 235, some 236, some 237, some 238, some 239, none, none, none, none, none]) := by decide +kernel
theorem s_235 : SS[235]? = some (20, 16, []) := by decide +kernel
theorem s_236 : SS[236]? = some (20, 16, []) := by decide +kernel
theorem s_237 : SS[237]? = some (20, 16, []) := by decide +kernel
theorem s_238 : SS[238]? = some (20, 16, []) := by decide +kernel
theorem s_239 : SS[239]? = some (20, 16, []) := by decide +kernel
theorem s_240 : SS[240]? = some (6, 11, [some 20, some 241, some 242, some 243, some 244, some 245, none, none, none, none, none]) := by decide +kernel
theorem s_241 : SS[241]? = some (20, 16, []) := by decide +kernel
theorem s_242 : SS[242]? = some (20, 16, []) := by decide +kernel
theorem s_243 : SS[243]? = some (20, 16, []) := by decide +kernel
theorem s_244 : SS[244]? = some (20, 16, []) := by decide +kernel
theorem s_245 : SS[245]? = some (20, 16, []) := by decide +kernel
theorem s_246 : SS[246]? = some (1, 4, [some 20, some 25, some 247, none]) := by decide +kernel
theorem s_247 : SS[247]? = some (20, 16, []) := by decide +kernel
theorem s_248 : SS[248]? = some (23, 2, [some 251, some 262]) := by decide +kernel
theorem s_249 : SS[249]? = some (24, 2, [some 256, some 267]) := by decide +kernel
theorem s_250 : SS[250]? = some (21, 2, []) := by decide +kernel
theorem s_251 : SS[251]? = some (5, 8, [some 252, some 253, some 254, some 255, none, none, none, none]) := by decide +kernel
theorem s_252 : SS[252]? = some (20, 28, []) := by decide +kernel
theorem s_253 : SS[253]? = some (20, 28, []) := by decide +kernel
theorem s_254 : SS[254]? = some (20, 16, []) := by decide +kernel
theorem s_255 : SS[255]? = some (20, 16, []) := by decide +kernel
theorem s_256 : SS[256]? = some (6, 11, [some 251, some 257, some 258, some 259, some 260, some 261, none, none, none, none, none]) := by decide +kernel
theorem s_257 : SS[257]? = some (20, 16, []) := by decide +kernel
theorem s_258 : SS[258]? = some (20, 16, []) := by decide +kernel
theorem s_259 : SS[259]? = some (20, 16, []) := by decide +kernel
theorem s_260 : SS[260]? = some (20, 16, []) := by decide +kernel
theorem s_261 : SS[261]? = some (20, 16, []) := by decide +kernel
theorem s_262 : SS[262]? = some (5, 8, [some 263, some 264, some 265, some 266, none, none, none, none]) := by decide +kernel
theorem s_263 : SS[263]? = some (20, 28, []) := by decide +kernel
theorem s_264 : SS[264]? = some (20, 28, []) := by decide +kernel
theorem s_265 : SS[265]? = some (20, 16, []) := by decide +kernel
theorem s_266 : SS[266]? = some (20, 16, []) := by decide +kernel
theorem s_267 : SS[267]? = some (6, 11, [some 262, some 268, some 269, some 270, some 271, some 272, none, none, none, none, none]) := by decide +kernel
theorem s_268 : SS[268]? = some (20, 16, []) := by decide +kernel
theorem s_269 : SS[269]? = some (20, 16, []) := by decide +kernel
theorem s_270 : SS[270]? = some (20, 16, []) := by decide +kernel
theorem s_271 : SS[271]? = some (20, 16, []) := by decide +kernel
theorem s_272 : SS[272]? = some (20, 16, []) := by decide +kernel
theorem s_273 : SS[273]? = some (8, 22, [some 274, some 275, some 276, some 277, none, some 278, none, some 279, some 280, some 281, some 282, some 283, some 284, none, none, none, none, some 285, some 286, some 287, some 288, none]) := by decide +kernel
theorem s_274 : SS[274]? = some (20, 232, []) := by decide +kernel
theorem s_275 : SS[275]? = some (20, 464, []) := by decide +kernel
theorem s_276 : SS[276]? = some (21, 2, []) := by decide +kernel
theorem s_277 : SS[277]? = some (20, 3480, []) := by decide +kernel
theorem s_278 : SS[278]? = some (20, 232, []) := by decide +kernel
theorem s_279 : SS[279]? = some (20, 8, []) := by decide +kernel
theorem s_280 : SS[280]? = some (20, 8, []) := by decide +kernel
theorem s_281 : SS[281]? = some (21, 8, []) := by decide +kernel
theorem s_282 : SS[282]? = some (20, 320, []) := by decide +kernel
theorem s_283 : SS[283]? = some (20, 40, []) := by decide +kernel
theorem s_284 : SS[284]? = some (20, 160, []) := by decide +kernel
theorem s_285 : SS[285]? = some (20, 232, []) := by decide +kernel
theorem s_286 : SS[286]? = some (20, 28, []) := by decide +kernel
theorem s_287 : SS[287]? = some (20, 28, []) := by decide +kernel
theorem s_288 : SS[288]? = some (20, 16, []) := by decide +kernel
end
section
theorem o_0 : mOwn 0 = 0 := rfl
theorem i_0_0 : ins 0 0 = some (.aload_n 0) := by decide +kernel
theorem i_0_1 : ins 0 1 = some (.invokespecial 3) := by decide +kernel
theorem i_0_4 : ins 0 4 = some (.aload_n 0) := by decide +kernel
theorem i_0_5 : ins 0 5 = some (.bipush 24) := by decide +kernel
theorem i_0_7 : ins 0 7 = some (.anewarray 11) := by decide +kernel
theorem i_0_10 : ins 0 10 = some (.putfield 13) := by decide +kernel
theorem i_0_13 : ins 0 13 = some (.iconst 0) := by decide +kernel
theorem i_0_14 : ins 0 14 = some (.istore_n 2) := by decide +kernel
theorem i_0_15 : ins 0 15 = some (.iload_n 2) := by decide +kernel
theorem i_0_16 : ins 0 16 = some (.bipush 24) := by decide +kernel
theorem i_0_18 : ins 0 18 = some (.if_icmp .ge 25) := by decide +kernel
theorem i_0_21 : ins 0 21 = some (.aload_n 0) := by decide +kernel
theorem i_0_22 : ins 0 22 = some (.getfield 13) := by decide +kernel
theorem i_0_25 : ins 0 25 = some (.iload_n 2) := by decide +kernel
theorem i_0_26 : ins 0 26 = some (.new 11) := by decide +kernel
theorem i_0_29 : ins 0 29 = some (.dup) := by decide +kernel
theorem i_0_30 : ins 0 30 = some (.aload_n 1) := by decide +kernel
theorem i_0_31 : ins 0 31 = some (.bipush 16) := by decide +kernel
theorem i_0_33 : ins 0 33 = some (.invokespecial 17) := by decide +kernel
theorem i_0_36 : ins 0 36 = some (.aastore) := by decide +kernel
theorem i_0_37 : ins 0 37 = some (.iinc 2 1) := by decide +kernel
theorem i_0_40 : ins 0 40 = some (.goto (-25)) := by decide +kernel
theorem i_0_43 : ins 0 43 = some (.return_) := by decide +kernel
theorem o_1 : mOwn 1 = 0 := rfl
theorem i_1_0 : ins 1 0 = some (.aload_n 0) := by decide +kernel
theorem i_1_1 : ins 1 1 = some (.getfield 20) := by decide +kernel
theorem i_1_4 : ins 1 4 = some (.ireturn) := by decide +kernel
theorem o_2 : mOwn 2 = 0 := rfl
theorem i_2_0 : ins 2 0 = some (.aload_n 0) := by decide +kernel
theorem i_2_1 : ins 2 1 = some (.iconst 0) := by decide +kernel
theorem i_2_2 : ins 2 2 = some (.putfield 20) := by decide +kernel
theorem i_2_5 : ins 2 5 = some (.return_) := by decide +kernel
theorem o_3 : mOwn 3 = 0 := rfl
theorem i_3_0 : ins 3 0 = some (.aload_n 0) := by decide +kernel
theorem i_3_1 : ins 3 1 = some (.getfield 13) := by decide +kernel
theorem i_3_4 : ins 3 4 = some (.aload_n 0) := by decide +kernel
theorem i_3_5 : ins 3 5 = some (.getfield 24) := by decide +kernel
theorem i_3_8 : ins 3 8 = some (.aaload) := by decide +kernel
theorem i_3_9 : ins 3 9 = some (.aload_n 1) := by decide +kernel
theorem i_3_10 : ins 3 10 = some (.invokevirtual 27) := by decide +kernel
theorem i_3_13 : ins 3 13 = some (.aload_n 0) := by decide +kernel
theorem i_3_14 : ins 3 14 = some (.aload_n 0) := by decide +kernel
theorem i_3_15 : ins 3 15 = some (.getfield 24) := by decide +kernel
theorem i_3_18 : ins 3 18 = some (.iconst 1) := by decide +kernel
theorem i_3_19 : ins 3 19 = some (.iadd) := by decide +kernel
theorem i_3_20 : ins 3 20 = some (.bipush 24) := by decide +kernel
theorem i_3_22 : ins 3 22 = some (.if_icmp .ge 12) := by decide +kernel
theorem i_3_25 : ins 3 25 = some (.aload_n 0) := by decide +kernel
theorem i_3_26 : ins 3 26 = some (.getfield 24) := by decide +kernel
theorem i_3_29 : ins 3 29 = some (.iconst 1) := by decide +kernel
theorem i_3_30 : ins 3 30 = some (.iadd) := by decide +kernel
theorem i_3_31 : ins 3 31 = some (.goto 4) := by decide +kernel
theorem i_3_34 : ins 3 34 = some (.iconst 0) := by decide +kernel
theorem i_3_35 : ins 3 35 = some (.putfield 24) := by decide +kernel
theorem i_3_38 : ins 3 38 = some (.aload_n 0) := by decide +kernel
theorem i_3_39 : ins 3 39 = some (.aload_n 0) := by decide +kernel
theorem i_3_40 : ins 3 40 = some (.getfield 20) := by decide +kernel
theorem i_3_43 : ins 3 43 = some (.iconst 1) := by decide +kernel
theorem i_3_44 : ins 3 44 = some (.iadd) := by decide +kernel
theorem i_3_45 : ins 3 45 = some (.bipush 24) := by decide +kernel
theorem i_3_47 : ins 3 47 = some (.invokestatic 31) := by decide +kernel
theorem i_3_50 : ins 3 50 = some (.putfield 20) := by decide +kernel
theorem i_3_53 : ins 3 53 = some (.return_) := by decide +kernel
theorem o_4 : mOwn 4 = 0 := rfl
theorem i_4_0 : ins 4 0 = some (.aload_n 0) := by decide +kernel
theorem i_4_1 : ins 4 1 = some (.aload_n 0) := by decide +kernel
theorem i_4_2 : ins 4 2 = some (.getfield 24) := by decide +kernel
theorem i_4_5 : ins 4 5 = some (.ifCond .le 12) := by decide +kernel
theorem i_4_8 : ins 4 8 = some (.aload_n 0) := by decide +kernel
theorem i_4_9 : ins 4 9 = some (.getfield 24) := by decide +kernel
theorem i_4_12 : ins 4 12 = some (.iconst 1) := by decide +kernel
theorem i_4_13 : ins 4 13 = some (.isub) := by decide +kernel
theorem i_4_14 : ins 4 14 = some (.goto 5) := by decide +kernel
theorem i_4_17 : ins 4 17 = some (.bipush 23) := by decide +kernel
theorem i_4_19 : ins 4 19 = some (.putfield 24) := by decide +kernel
theorem i_4_22 : ins 4 22 = some (.aload_n 0) := by decide +kernel
theorem i_4_23 : ins 4 23 = some (.dup) := by decide +kernel
theorem i_4_24 : ins 4 24 = some (.getfield 20) := by decide +kernel
theorem i_4_27 : ins 4 27 = some (.iconst 1) := by decide +kernel
theorem i_4_28 : ins 4 28 = some (.isub) := by decide +kernel
theorem i_4_29 : ins 4 29 = some (.putfield 20) := by decide +kernel
theorem i_4_32 : ins 4 32 = some (.aload_n 1) := by decide +kernel
theorem i_4_33 : ins 4 33 = some (.aload_n 0) := by decide +kernel
theorem i_4_34 : ins 4 34 = some (.getfield 13) := by decide +kernel
theorem i_4_37 : ins 4 37 = some (.aload_n 0) := by decide +kernel
theorem i_4_38 : ins 4 38 = some (.getfield 24) := by decide +kernel
theorem i_4_41 : ins 4 41 = some (.aaload) := by decide +kernel
theorem i_4_42 : ins 4 42 = some (.invokevirtual 27) := by decide +kernel
theorem i_4_45 : ins 4 45 = some (.return_) := by decide +kernel
theorem o_5 : mOwn 5 = 1 := rfl
theorem i_5_0 : ins 5 0 = some (.aload_n 0) := by decide +kernel
theorem i_5_1 : ins 5 1 = some (.invokespecial 3) := by decide +kernel
theorem i_5_4 : ins 5 4 = some (.aload_n 0) := by decide +kernel
theorem i_5_5 : ins 5 5 = some (.bipush 16) := by decide +kernel
theorem i_5_7 : ins 5 7 = some (.newarray .int) := by decide +kernel
theorem i_5_9 : ins 5 9 = some (.putfield 11) := by decide +kernel
theorem i_5_12 : ins 5 12 = some (.aload_n 0) := by decide +kernel
theorem i_5_13 : ins 5 13 = some (.aload_n 1) := by decide +kernel
theorem i_5_14 : ins 5 14 = some (.putfield 15) := by decide +kernel
theorem i_5_17 : ins 5 17 = some (.aload_n 0) := by decide +kernel
theorem i_5_18 : ins 5 18 = some (.aload_n 2) := by decide +kernel
theorem i_5_19 : ins 5 19 = some (.putfield 19) := by decide +kernel
theorem i_5_22 : ins 5 22 = some (.return_) := by decide +kernel
theorem o_6 : mOwn 6 = 1 := rfl
theorem i_6_0 : ins 6 0 = some (.iload_n 0) := by decide +kernel
theorem i_6_1 : ins 6 1 = some (.istore_n 2) := by decide +kernel
theorem i_6_2 : ins 6 2 = some (.iconst 0) := by decide +kernel
theorem i_6_3 : ins 6 3 = some (.istore_n 3) := by decide +kernel
theorem i_6_4 : ins 6 4 = some (.iload_n 3) := by decide +kernel
theorem i_6_5 : ins 6 5 = some (.bipush 6) := by decide +kernel
theorem i_6_7 : ins 6 7 = some (.if_icmp .ge 26) := by decide +kernel
theorem i_6_10 : ins 6 10 = some (.iload_n 2) := by decide +kernel
theorem i_6_11 : ins 6 11 = some (.ifCond .lt 22) := by decide +kernel
theorem i_6_14 : ins 6 14 = some (.iload_n 2) := by decide +kernel
theorem i_6_15 : ins 6 15 = some (.iload_n 1) := by decide +kernel
theorem i_6_16 : ins 6 16 = some (.if_icmp .ne 5) := by decide +kernel
theorem i_6_19 : ins 6 19 = some (.iconst 1) := by decide +kernel
theorem i_6_20 : ins 6 20 = some (.ireturn) := by decide +kernel
theorem i_6_21 : ins 6 21 = some (.getstatic 23) := by decide +kernel
theorem i_6_24 : ins 6 24 = some (.iload_n 2) := by decide +kernel
theorem i_6_25 : ins 6 25 = some (.iaload) := by decide +kernel
theorem i_6_26 : ins 6 26 = some (.istore_n 2) := by decide +kernel
theorem i_6_27 : ins 6 27 = some (.iinc 3 1) := by decide +kernel
theorem i_6_30 : ins 6 30 = some (.goto (-26)) := by decide +kernel
theorem i_6_33 : ins 6 33 = some (.iconst 0) := by decide +kernel
theorem i_6_34 : ins 6 34 = some (.ireturn) := by decide +kernel
theorem o_7 : mOwn 7 = 1 := rfl
theorem i_7_0 : ins 7 0 = some (.iload_n 1) := by decide +kernel
theorem i_7_1 : ins 7 1 = some (.ifCond .lt 20) := by decide +kernel
theorem i_7_4 : ins 7 4 = some (.iload_n 1) := by decide +kernel
theorem i_7_5 : ins 7 5 = some (.aload_n 0) := by decide +kernel
theorem i_7_6 : ins 7 6 = some (.getfield 26) := by decide +kernel
theorem i_7_9 : ins 7 9 = some (.if_icmp .ge 12) := by decide +kernel
theorem i_7_12 : ins 7 12 = some (.aload_n 0) := by decide +kernel
theorem i_7_13 : ins 7 13 = some (.getfield 11) := by decide +kernel
theorem i_7_16 : ins 7 16 = some (.iload_n 1) := by decide +kernel
theorem i_7_17 : ins 7 17 = some (.iaload) := by decide +kernel
theorem i_7_18 : ins 7 18 = some (.goto 5) := by decide +kernel
theorem i_7_21 : ins 7 21 = some (.ldc 30) := by decide +kernel
theorem i_7_23 : ins 7 23 = some (.ireturn) := by decide +kernel
theorem o_8 : mOwn 8 = 1 := rfl
theorem i_8_0 : ins 8 0 = some (.aload_n 0) := by decide +kernel
theorem i_8_1 : ins 8 1 = some (.iconst 0) := by decide +kernel
theorem i_8_2 : ins 8 2 = some (.putfield 26) := by decide +kernel
theorem i_8_5 : ins 8 5 = some (.aload_n 0) := by decide +kernel
theorem i_8_6 : ins 8 6 = some (.iload_n 1) := by decide +kernel
theorem i_8_7 : ins 8 7 = some (.iload_n 2) := by decide +kernel
theorem i_8_8 : ins 8 8 = some (.iconst 0) := by decide +kernel
theorem i_8_9 : ins 8 9 = some (.invokevirtual 31) := by decide +kernel
theorem i_8_12 : ins 8 12 = some (.ireturn) := by decide +kernel
theorem o_9 : mOwn 9 = 1 := rfl
theorem i_9_0 : ins 9 0 = some (.aload_n 0) := by decide +kernel
theorem i_9_1 : ins 9 1 = some (.getfield 15) := by decide +kernel
theorem i_9_4 : ins 9 4 = some (.getfield 35) := by decide +kernel
theorem i_9_7 : ins 9 7 = some (.iload_n 1) := by decide +kernel
theorem i_9_8 : ins 9 8 = some (.iaload) := by decide +kernel
theorem i_9_9 : ins 9 9 = some (.istore 4) := by decide +kernel
theorem i_9_11 : ins 9 11 = some (.iconst 0) := by decide +kernel
theorem i_9_12 : ins 9 12 = some (.istore 5) := by decide +kernel
theorem i_9_14 : ins 9 14 = some (.iload 5) := by decide +kernel
theorem i_9_16 : ins 9 16 = some (.bipush 6) := by decide +kernel
theorem i_9_18 : ins 9 18 = some (.if_icmp .ge 26) := by decide +kernel
theorem i_9_21 : ins 9 21 = some (.iload 4) := by decide +kernel
theorem i_9_23 : ins 9 23 = some (.iload_n 2) := by decide +kernel
theorem i_9_24 : ins 9 24 = some (.invokestatic 40) := by decide +kernel
theorem i_9_27 : ins 9 27 = some (.ifCond .ne 17) := by decide +kernel
theorem i_9_30 : ins 9 30 = some (.getstatic 23) := by decide +kernel
theorem i_9_33 : ins 9 33 = some (.iload 4) := by decide +kernel
theorem i_9_35 : ins 9 35 = some (.iaload) := by decide +kernel
theorem i_9_36 : ins 9 36 = some (.istore 4) := by decide +kernel
theorem i_9_38 : ins 9 38 = some (.iinc 5 1) := by decide +kernel
theorem i_9_41 : ins 9 41 = some (.goto (-27)) := by decide +kernel
theorem i_9_44 : ins 9 44 = some (.aload_n 0) := by decide +kernel
theorem i_9_45 : ins 9 45 = some (.iload 4) := by decide +kernel
theorem i_9_47 : ins 9 47 = some (.iload_n 2) := by decide +kernel
theorem i_9_48 : ins 9 48 = some (.invokestatic 40) := by decide +kernel
theorem i_9_51 : ins 9 51 = some (.iload_n 1) := by decide +kernel
theorem i_9_52 : ins 9 52 = some (.iload_n 3) := by decide +kernel
theorem i_9_53 : ins 9 53 = some (.iconst 1) := by decide +kernel
theorem i_9_54 : ins 9 54 = some (.iadd) := by decide +kernel
theorem i_9_55 : ins 9 55 = some (.invokevirtual 44) := by decide +kernel
theorem i_9_58 : ins 9 58 = some (.ireturn) := by decide +kernel
theorem o_10 : mOwn 10 = 1 := rfl
theorem i_10_0 : ins 10 0 = some (.iload_n 0) := by decide +kernel
theorem i_10_1 : ins 10 1 = some (.iconst 0) := by decide +kernel
theorem i_10_2 : ins 10 2 = some (.invokestatic 47) := by decide +kernel
theorem i_10_5 : ins 10 5 = some (.istore_n 2) := by decide +kernel
theorem i_10_6 : ins 10 6 = some (.iload_n 1) := by decide +kernel
theorem i_10_7 : ins 10 7 = some (.ifCond .ne 11) := by decide +kernel
theorem i_10_10 : ins 10 10 = some (.getstatic 52) := by decide +kernel
theorem i_10_13 : ins 10 13 = some (.iload_n 2) := by decide +kernel
theorem i_10_14 : ins 10 14 = some (.iaload) := by decide +kernel
theorem i_10_15 : ins 10 15 = some (.goto 8) := by decide +kernel
theorem i_10_18 : ins 10 18 = some (.getstatic 55) := by decide +kernel
theorem i_10_21 : ins 10 21 = some (.iload_n 2) := by decide +kernel
theorem i_10_22 : ins 10 22 = some (.iaload) := by decide +kernel
theorem i_10_23 : ins 10 23 = some (.ireturn) := by decide +kernel
theorem o_11 : mOwn 11 = 1 := rfl
theorem i_11_0 : ins 11 0 = some (.iload_n 3) := by decide +kernel
theorem i_11_1 : ins 11 1 = some (.bipush 20) := by decide +kernel
theorem i_11_3 : ins 11 3 = some (.if_icmp .le 5) := by decide +kernel
theorem i_11_6 : ins 11 6 = some (.iconst 0) := by decide +kernel
theorem i_11_7 : ins 11 7 = some (.ireturn) := by decide +kernel
theorem i_11_8 : ins 11 8 = some (.aload_n 0) := by decide +kernel
theorem i_11_9 : ins 11 9 = some (.iload_n 1) := by decide +kernel
theorem i_11_10 : ins 11 10 = some (.invokevirtual 58) := by decide +kernel
theorem i_11_13 : ins 11 13 = some (.iload_n 1) := by decide +kernel
theorem i_11_14 : ins 11 14 = some (.tableswitch 215 10 24 #[74, 84, 105, 117, 131, 215, 215, 215, 215, 215, 144, 146, 166, 181, 202]) := by decide +kernel
theorem i_11_88 : ins 11 88 = some (.aload_n 0) := by decide +kernel
theorem i_11_89 : ins 11 89 = some (.getfield 19) := by decide +kernel
theorem i_11_92 : ins 11 92 = some (.getfield 62) := by decide +kernel
theorem i_11_95 : ins 11 95 = some (.iload_n 2) := by decide +kernel
theorem i_11_96 : ins 11 96 = some (.iaload) := by decide +kernel
theorem i_11_97 : ins 11 97 = some (.ireturn) := by decide +kernel
theorem i_11_98 : ins 11 98 = some (.aload_n 0) := by decide +kernel
theorem i_11_99 : ins 11 99 = some (.bipush 10) := by decide +kernel
theorem i_11_101 : ins 11 101 = some (.iload_n 2) := by decide +kernel
theorem i_11_102 : ins 11 102 = some (.iload_n 3) := by decide +kernel
theorem i_11_103 : ins 11 103 = some (.iconst 1) := by decide +kernel
theorem i_11_104 : ins 11 104 = some (.iadd) := by decide +kernel
theorem i_11_105 : ins 11 105 = some (.invokevirtual 44) := by decide +kernel
theorem i_11_108 : ins 11 108 = some (.aload_n 0) := by decide +kernel
theorem i_11_109 : ins 11 109 = some (.iload_n 2) := by decide +kernel
theorem i_11_110 : ins 11 110 = some (.iconst 1) := by decide +kernel
theorem i_11_111 : ins 11 111 = some (.iload_n 3) := by decide +kernel
theorem i_11_112 : ins 11 112 = some (.iconst 1) := by decide +kernel
theorem i_11_113 : ins 11 113 = some (.iadd) := by decide +kernel
theorem i_11_114 : ins 11 114 = some (.invokevirtual 31) := by decide +kernel
theorem i_11_117 : ins 11 117 = some (.iadd) := by decide +kernel
theorem i_11_118 : ins 11 118 = some (.ireturn) := by decide +kernel
theorem i_11_119 : ins 11 119 = some (.aload_n 0) := by decide +kernel
theorem i_11_120 : ins 11 120 = some (.bipush 11) := by decide +kernel
theorem i_11_122 : ins 11 122 = some (.iload_n 2) := by decide +kernel
theorem i_11_123 : ins 11 123 = some (.iload_n 3) := by decide +kernel
theorem i_11_124 : ins 11 124 = some (.iconst 1) := by decide +kernel
theorem i_11_125 : ins 11 125 = some (.iadd) := by decide +kernel
theorem i_11_126 : ins 11 126 = some (.invokevirtual 44) := by decide +kernel
theorem i_11_129 : ins 11 129 = some (.ineg) := by decide +kernel
theorem i_11_130 : ins 11 130 = some (.ireturn) := by decide +kernel
theorem i_11_131 : ins 11 131 = some (.aload_n 0) := by decide +kernel
theorem i_11_132 : ins 11 132 = some (.bipush 10) := by decide +kernel
theorem i_11_134 : ins 11 134 = some (.iload_n 2) := by decide +kernel
theorem i_11_135 : ins 11 135 = some (.iload_n 3) := by decide +kernel
theorem i_11_136 : ins 11 136 = some (.iconst 1) := by decide +kernel
theorem i_11_137 : ins 11 137 = some (.iadd) := by decide +kernel
theorem i_11_138 : ins 11 138 = some (.invokevirtual 44) := by decide +kernel
theorem i_11_141 : ins 11 141 = some (.bipush 100) := by decide +kernel
theorem i_11_143 : ins 11 143 = some (.isub) := by decide +kernel
theorem i_11_144 : ins 11 144 = some (.ireturn) := by decide +kernel
theorem i_11_145 : ins 11 145 = some (.iconst 2) := by decide +kernel
theorem i_11_146 : ins 11 146 = some (.aload_n 0) := by decide +kernel
theorem i_11_147 : ins 11 147 = some (.bipush 13) := by decide +kernel
theorem i_11_149 : ins 11 149 = some (.iload_n 2) := by decide +kernel
theorem i_11_150 : ins 11 150 = some (.iload_n 3) := by decide +kernel
theorem i_11_151 : ins 11 151 = some (.iconst 1) := by decide +kernel
theorem i_11_152 : ins 11 152 = some (.iadd) := by decide +kernel
theorem i_11_153 : ins 11 153 = some (.invokevirtual 44) := by decide +kernel
theorem i_11_156 : ins 11 156 = some (.imul) := by decide +kernel
theorem i_11_157 : ins 11 157 = some (.ireturn) := by decide +kernel
theorem i_11_158 : ins 11 158 = some (.iload_n 2) := by decide +kernel
theorem i_11_159 : ins 11 159 = some (.ireturn) := by decide +kernel
theorem i_11_160 : ins 11 160 = some (.aload_n 0) := by decide +kernel
theorem i_11_161 : ins 11 161 = some (.bipush 20) := by decide +kernel
theorem i_11_163 : ins 11 163 = some (.iload_n 2) := by decide +kernel
theorem i_11_164 : ins 11 164 = some (.iload_n 3) := by decide +kernel
theorem i_11_165 : ins 11 165 = some (.iconst 1) := by decide +kernel
theorem i_11_166 : ins 11 166 = some (.iadd) := by decide +kernel
theorem i_11_167 : ins 11 167 = some (.invokevirtual 44) := by decide +kernel
theorem i_11_170 : ins 11 170 = some (.aload_n 0) := by decide +kernel
theorem i_11_171 : ins 11 171 = some (.getfield 19) := by decide +kernel
theorem i_11_174 : ins 11 174 = some (.iload_n 2) := by decide +kernel
theorem i_11_175 : ins 11 175 = some (.invokevirtual 67) := by decide +kernel
theorem i_11_178 : ins 11 178 = some (.iadd) := by decide +kernel
theorem i_11_179 : ins 11 179 = some (.ireturn) := by decide +kernel
theorem i_11_180 : ins 11 180 = some (.aload_n 0) := by decide +kernel
theorem i_11_181 : ins 11 181 = some (.bipush 21) := by decide +kernel
theorem i_11_183 : ins 11 183 = some (.iload_n 2) := by decide +kernel
theorem i_11_184 : ins 11 184 = some (.iload_n 3) := by decide +kernel
theorem i_11_185 : ins 11 185 = some (.iconst 1) := by decide +kernel
theorem i_11_186 : ins 11 186 = some (.iadd) := by decide +kernel
theorem i_11_187 : ins 11 187 = some (.invokevirtual 44) := by decide +kernel
theorem i_11_190 : ins 11 190 = some (.sipush 1000) := by decide +kernel
theorem i_11_193 : ins 11 193 = some (.isub) := by decide +kernel
theorem i_11_194 : ins 11 194 = some (.ireturn) := by decide +kernel
theorem i_11_195 : ins 11 195 = some (.aload_n 0) := by decide +kernel
theorem i_11_196 : ins 11 196 = some (.bipush 20) := by decide +kernel
theorem i_11_198 : ins 11 198 = some (.iload_n 2) := by decide +kernel
theorem i_11_199 : ins 11 199 = some (.iload_n 3) := by decide +kernel
theorem i_11_200 : ins 11 200 = some (.iconst 1) := by decide +kernel
theorem i_11_201 : ins 11 201 = some (.iadd) := by decide +kernel
theorem i_11_202 : ins 11 202 = some (.invokevirtual 44) := by decide +kernel
theorem i_11_205 : ins 11 205 = some (.aload_n 0) := by decide +kernel
theorem i_11_206 : ins 11 206 = some (.iload_n 2) := by decide +kernel
theorem i_11_207 : ins 11 207 = some (.iconst 0) := by decide +kernel
theorem i_11_208 : ins 11 208 = some (.iload_n 3) := by decide +kernel
theorem i_11_209 : ins 11 209 = some (.iconst 1) := by decide +kernel
theorem i_11_210 : ins 11 210 = some (.iadd) := by decide +kernel
theorem i_11_211 : ins 11 211 = some (.invokevirtual 31) := by decide +kernel
theorem i_11_214 : ins 11 214 = some (.isub) := by decide +kernel
theorem i_11_215 : ins 11 215 = some (.ireturn) := by decide +kernel
theorem i_11_216 : ins 11 216 = some (.iconst 2) := by decide +kernel
theorem i_11_217 : ins 11 217 = some (.aload_n 0) := by decide +kernel
theorem i_11_218 : ins 11 218 = some (.bipush 21) := by decide +kernel
theorem i_11_220 : ins 11 220 = some (.iload_n 2) := by decide +kernel
theorem i_11_221 : ins 11 221 = some (.iload_n 3) := by decide +kernel
theorem i_11_222 : ins 11 222 = some (.iconst 1) := by decide +kernel
theorem i_11_223 : ins 11 223 = some (.iadd) := by decide +kernel
theorem i_11_224 : ins 11 224 = some (.invokevirtual 44) := by decide +kernel
theorem i_11_227 : ins 11 227 = some (.imul) := by decide +kernel
theorem i_11_228 : ins 11 228 = some (.ireturn) := by decide +kernel
theorem i_11_229 : ins 11 229 = some (.iconst 0) := by decide +kernel
theorem i_11_230 : ins 11 230 = some (.ireturn) := by decide +kernel
theorem o_12 : mOwn 12 = 1 := rfl
theorem i_12_0 : ins 12 0 = some (.aload_n 0) := by decide +kernel
theorem i_12_1 : ins 12 1 = some (.getfield 26) := by decide +kernel
theorem i_12_4 : ins 12 4 = some (.bipush 16) := by decide +kernel
theorem i_12_6 : ins 12 6 = some (.if_icmp .ge 23) := by decide +kernel
theorem i_12_9 : ins 12 9 = some (.aload_n 0) := by decide +kernel
theorem i_12_10 : ins 12 10 = some (.getfield 11) := by decide +kernel
theorem i_12_13 : ins 12 13 = some (.aload_n 0) := by decide +kernel
theorem i_12_14 : ins 12 14 = some (.getfield 26) := by decide +kernel
theorem i_12_17 : ins 12 17 = some (.iload_n 1) := by decide +kernel
theorem i_12_18 : ins 12 18 = some (.iastore) := by decide +kernel
theorem i_12_19 : ins 12 19 = some (.aload_n 0) := by decide +kernel
theorem i_12_20 : ins 12 20 = some (.dup) := by decide +kernel
theorem i_12_21 : ins 12 21 = some (.getfield 26) := by decide +kernel
theorem i_12_24 : ins 12 24 = some (.iconst 1) := by decide +kernel
theorem i_12_25 : ins 12 25 = some (.iadd) := by decide +kernel
theorem i_12_26 : ins 12 26 = some (.putfield 26) := by decide +kernel
theorem i_12_29 : ins 12 29 = some (.return_) := by decide +kernel
theorem o_13 : mOwn 13 = 2 := rfl
theorem i_13_0 : ins 13 0 = some (.aload_n 0) := by decide +kernel
theorem i_13_1 : ins 13 1 = some (.invokespecial 3) := by decide +kernel
theorem i_13_4 : ins 13 4 = some (.aload_n 0) := by decide +kernel
theorem i_13_5 : ins 13 5 = some (.bipush 16) := by decide +kernel
theorem i_13_7 : ins 13 7 = some (.newarray .int) := by decide +kernel
theorem i_13_9 : ins 13 9 = some (.putfield 9) := by decide +kernel
theorem i_13_12 : ins 13 12 = some (.aload_n 0) := by decide +kernel
theorem i_13_13 : ins 13 13 = some (.aload_n 2) := by decide +kernel
theorem i_13_14 : ins 13 14 = some (.putfield 15) := by decide +kernel
theorem i_13_17 : ins 13 17 = some (.aload_n 0) := by decide +kernel
theorem i_13_18 : ins 13 18 = some (.new 19) := by decide +kernel
theorem i_13_21 : ins 13 21 = some (.dup) := by decide +kernel
theorem i_13_22 : ins 13 22 = some (.aload_n 1) := by decide +kernel
theorem i_13_23 : ins 13 23 = some (.bipush 28) := by decide +kernel
theorem i_13_25 : ins 13 25 = some (.invokespecial 21) := by decide +kernel
theorem i_13_28 : ins 13 28 = some (.putfield 24) := by decide +kernel
theorem i_13_31 : ins 13 31 = some (.aload_n 0) := by decide +kernel
theorem i_13_32 : ins 13 32 = some (.new 19) := by decide +kernel
theorem i_13_35 : ins 13 35 = some (.dup) := by decide +kernel
theorem i_13_36 : ins 13 36 = some (.aload_n 1) := by decide +kernel
theorem i_13_37 : ins 13 37 = some (.bipush 16) := by decide +kernel
theorem i_13_39 : ins 13 39 = some (.invokespecial 21) := by decide +kernel
theorem i_13_42 : ins 13 42 = some (.putfield 27) := by decide +kernel
theorem i_13_45 : ins 13 45 = some (.aload_n 0) := by decide +kernel
theorem i_13_46 : ins 13 46 = some (.bipush 9) := by decide +kernel
theorem i_13_48 : ins 13 48 = some (.anewarray 19) := by decide +kernel
theorem i_13_51 : ins 13 51 = some (.putfield 30) := by decide +kernel
theorem i_13_54 : ins 13 54 = some (.iconst 0) := by decide +kernel
theorem i_13_55 : ins 13 55 = some (.istore_n 3) := by decide +kernel
theorem i_13_56 : ins 13 56 = some (.iload_n 3) := by decide +kernel
theorem i_13_57 : ins 13 57 = some (.aload_n 0) := by decide +kernel
theorem i_13_58 : ins 13 58 = some (.getfield 30) := by decide +kernel
theorem i_13_61 : ins 13 61 = some (.arraylength) := by decide +kernel
theorem i_13_62 : ins 13 62 = some (.if_icmp .ge 25) := by decide +kernel
theorem i_13_65 : ins 13 65 = some (.aload_n 0) := by decide +kernel
theorem i_13_66 : ins 13 66 = some (.getfield 30) := by decide +kernel
theorem i_13_69 : ins 13 69 = some (.iload_n 3) := by decide +kernel
theorem i_13_70 : ins 13 70 = some (.new 19) := by decide +kernel
theorem i_13_73 : ins 13 73 = some (.dup) := by decide +kernel
theorem i_13_74 : ins 13 74 = some (.aload_n 1) := by decide +kernel
theorem i_13_75 : ins 13 75 = some (.bipush 16) := by decide +kernel
theorem i_13_77 : ins 13 77 = some (.invokespecial 21) := by decide +kernel
theorem i_13_80 : ins 13 80 = some (.aastore) := by decide +kernel
theorem i_13_81 : ins 13 81 = some (.iinc 3 1) := by decide +kernel
theorem i_13_84 : ins 13 84 = some (.goto (-28)) := by decide +kernel
theorem i_13_87 : ins 13 87 = some (.return_) := by decide +kernel
theorem o_14 : mOwn 14 = 2 := rfl
theorem i_14_0 : ins 14 0 = some (.iconst 0) := by decide +kernel
theorem i_14_1 : ins 14 1 = some (.istore_n 2) := by decide +kernel
theorem i_14_2 : ins 14 2 = some (.iload_n 2) := by decide +kernel
theorem i_14_3 : ins 14 3 = some (.iload_n 1) := by decide +kernel
theorem i_14_4 : ins 14 4 = some (.if_icmp .ge 21) := by decide +kernel
theorem i_14_7 : ins 14 7 = some (.aload_n 0) := by decide +kernel
theorem i_14_8 : ins 14 8 = some (.invokevirtual 34) := by decide +kernel
theorem i_14_11 : ins 14 11 = some (.ifCond .ne 14) := by decide +kernel
theorem i_14_14 : ins 14 14 = some (.aload_n 0) := by decide +kernel
theorem i_14_15 : ins 14 15 = some (.iconst 1) := by decide +kernel
theorem i_14_16 : ins 14 16 = some (.invokevirtual 38) := by decide +kernel
theorem i_14_19 : ins 14 19 = some (.iinc 2 1) := by decide +kernel
theorem i_14_22 : ins 14 22 = some (.goto (-20)) := by decide +kernel
theorem i_14_25 : ins 14 25 = some (.return_) := by decide +kernel
theorem o_15 : mOwn 15 = 2 := rfl
theorem i_15_0 : ins 15 0 = some (.aload_n 0) := by decide +kernel
theorem i_15_1 : ins 15 1 = some (.getfield 24) := by decide +kernel
theorem i_15_4 : ins 15 4 = some (.aload_n 0) := by decide +kernel
theorem i_15_5 : ins 15 5 = some (.getfield 15) := by decide +kernel
theorem i_15_8 : ins 15 8 = some (.invokevirtual 42) := by decide +kernel
theorem i_15_11 : ins 15 11 = some (.aload_n 0) := by decide +kernel
theorem i_15_12 : ins 15 12 = some (.getfield 24) := by decide +kernel
theorem i_15_15 : ins 15 15 = some (.iload_n 1) := by decide +kernel
theorem i_15_16 : ins 15 16 = some (.invokestatic 46) := by decide +kernel
theorem i_15_19 : ins 15 19 = some (.aload_n 0) := by decide +kernel
theorem i_15_20 : ins 15 20 = some (.getfield 24) := by decide +kernel
theorem i_15_23 : ins 15 23 = some (.areturn) := by decide +kernel
theorem o_16 : mOwn 16 = 2 := rfl
theorem i_16_0 : ins 16 0 = some (.iconst 0) := by decide +kernel
theorem i_16_1 : ins 16 1 = some (.istore 5) := by decide +kernel
theorem i_16_3 : ins 16 3 = some (.iload 5) := by decide +kernel
theorem i_16_5 : ins 16 5 = some (.iload_n 1) := by decide +kernel
theorem i_16_6 : ins 16 6 = some (.if_icmp .gt 44) := by decide +kernel
theorem i_16_9 : ins 16 9 = some (.aload_n 0) := by decide +kernel
theorem i_16_10 : ins 16 10 = some (.iload_n 2) := by decide +kernel
theorem i_16_11 : ins 16 11 = some (.iload_n 3) := by decide +kernel
theorem i_16_12 : ins 16 12 = some (.iload 4) := by decide +kernel
theorem i_16_14 : ins 16 14 = some (.invokevirtual 50) := by decide +kernel
theorem i_16_17 : ins 16 17 = some (.ifCond .eq 6) := by decide +kernel
theorem i_16_20 : ins 16 20 = some (.iload 5) := by decide +kernel
theorem i_16_22 : ins 16 22 = some (.ireturn) := by decide +kernel
theorem i_16_23 : ins 16 23 = some (.aload_n 0) := by decide +kernel
theorem i_16_24 : ins 16 24 = some (.getfield 24) := by decide +kernel
theorem i_16_27 : ins 16 27 = some (.invokevirtual 34) := by decide +kernel
theorem i_16_30 : ins 16 30 = some (.ifCond .eq 6) := by decide +kernel
theorem i_16_33 : ins 16 33 = some (.ldc 54) := by decide +kernel
theorem i_16_35 : ins 16 35 = some (.ireturn) := by decide +kernel
theorem i_16_36 : ins 16 36 = some (.aload_n 0) := by decide +kernel
theorem i_16_37 : ins 16 37 = some (.getfield 24) := by decide +kernel
theorem i_16_40 : ins 16 40 = some (.iconst 1) := by decide +kernel
theorem i_16_41 : ins 16 41 = some (.invokevirtual 38) := by decide +kernel
theorem i_16_44 : ins 16 44 = some (.iinc 5 1) := by decide +kernel
theorem i_16_47 : ins 16 47 = some (.goto (-44)) := by decide +kernel
theorem i_16_50 : ins 16 50 = some (.ldc 54) := by decide +kernel
theorem i_16_52 : ins 16 52 = some (.ireturn) := by decide +kernel
theorem o_17 : mOwn 17 = 2 := rfl
theorem i_17_0 : ins 17 0 = some (.iload_n 1) := by decide +kernel
theorem i_17_1 : ins 17 1 = some (.tableswitch 68 1 3 #[27, 46, 55]) := by decide +kernel
theorem i_17_28 : ins 17 28 = some (.aload_n 0) := by decide +kernel
theorem i_17_29 : ins 17 29 = some (.getfield 24) := by decide +kernel
theorem i_17_32 : ins 17 32 = some (.getfield 55) := by decide +kernel
theorem i_17_35 : ins 17 35 = some (.iload_n 2) := by decide +kernel
theorem i_17_36 : ins 17 36 = some (.iaload) := by decide +kernel
theorem i_17_37 : ins 17 37 = some (.iload_n 3) := by decide +kernel
theorem i_17_38 : ins 17 38 = some (.if_icmp .ne 7) := by decide +kernel
theorem i_17_41 : ins 17 41 = some (.iconst 1) := by decide +kernel
theorem i_17_42 : ins 17 42 = some (.goto 4) := by decide +kernel
theorem i_17_45 : ins 17 45 = some (.iconst 0) := by decide +kernel
theorem i_17_46 : ins 17 46 = some (.ireturn) := by decide +kernel
theorem i_17_47 : ins 17 47 = some (.aload_n 0) := by decide +kernel
theorem i_17_48 : ins 17 48 = some (.getfield 24) := by decide +kernel
theorem i_17_51 : ins 17 51 = some (.iload_n 2) := by decide +kernel
theorem i_17_52 : ins 17 52 = some (.invokevirtual 58) := by decide +kernel
theorem i_17_55 : ins 17 55 = some (.ireturn) := by decide +kernel
theorem i_17_56 : ins 17 56 = some (.aload_n 0) := by decide +kernel
theorem i_17_57 : ins 17 57 = some (.getfield 24) := by decide +kernel
theorem i_17_60 : ins 17 60 = some (.aload_n 0) := by decide +kernel
theorem i_17_61 : ins 17 61 = some (.getfield 9) := by decide +kernel
theorem i_17_64 : ins 17 64 = some (.iload_n 2) := by decide +kernel
theorem i_17_65 : ins 17 65 = some (.invokevirtual 62) := by decide +kernel
theorem i_17_68 : ins 17 68 = some (.ireturn) := by decide +kernel
theorem i_17_69 : ins 17 69 = some (.aload_n 0) := by decide +kernel
theorem i_17_70 : ins 17 70 = some (.getfield 24) := by decide +kernel
theorem i_17_73 : ins 17 73 = some (.invokevirtual 34) := by decide +kernel
theorem i_17_76 : ins 17 76 = some (.ireturn) := by decide +kernel
theorem o_18 : mOwn 18 = 2 := rfl
theorem i_18_0 : ins 18 0 = some (.aload_n 0) := by decide +kernel
theorem i_18_1 : ins 18 1 = some (.getfield 24) := by decide +kernel
theorem i_18_4 : ins 18 4 = some (.aload_n 0) := by decide +kernel
theorem i_18_5 : ins 18 5 = some (.getfield 15) := by decide +kernel
theorem i_18_8 : ins 18 8 = some (.invokevirtual 42) := by decide +kernel
theorem i_18_11 : ins 18 11 = some (.aload_n 0) := by decide +kernel
theorem i_18_12 : ins 18 12 = some (.sipush 200) := by decide +kernel
theorem i_18_15 : ins 18 15 = some (.iconst 0) := by decide +kernel
theorem i_18_16 : ins 18 16 = some (.iconst 0) := by decide +kernel
theorem i_18_17 : ins 18 17 = some (.iconst 0) := by decide +kernel
theorem i_18_18 : ins 18 18 = some (.invokevirtual 66) := by decide +kernel
theorem i_18_21 : ins 18 21 = some (.ireturn) := by decide +kernel
theorem o_19 : mOwn 19 = 2 := rfl
theorem i_19_0 : ins 19 0 = some (.aload_n 0) := by decide +kernel
theorem i_19_1 : ins 19 1 = some (.getfield 24) := by decide +kernel
theorem i_19_4 : ins 19 4 = some (.aload_n 0) := by decide +kernel
theorem i_19_5 : ins 19 5 = some (.getfield 15) := by decide +kernel
theorem i_19_8 : ins 19 8 = some (.invokevirtual 42) := by decide +kernel
theorem i_19_11 : ins 19 11 = some (.aload_n 0) := by decide +kernel
theorem i_19_12 : ins 19 12 = some (.sipush 200) := by decide +kernel
theorem i_19_15 : ins 19 15 = some (.iconst 1) := by decide +kernel
theorem i_19_16 : ins 19 16 = some (.iload_n 1) := by decide +kernel
theorem i_19_17 : ins 19 17 = some (.iload_n 2) := by decide +kernel
theorem i_19_18 : ins 19 18 = some (.invokevirtual 66) := by decide +kernel
theorem i_19_21 : ins 19 21 = some (.ireturn) := by decide +kernel
theorem o_20 : mOwn 20 = 2 := rfl
theorem i_20_0 : ins 20 0 = some (.aload_n 0) := by decide +kernel
theorem i_20_1 : ins 20 1 = some (.getfield 24) := by decide +kernel
theorem i_20_4 : ins 20 4 = some (.aload_n 0) := by decide +kernel
theorem i_20_5 : ins 20 5 = some (.getfield 15) := by decide +kernel
theorem i_20_8 : ins 20 8 = some (.invokevirtual 42) := by decide +kernel
theorem i_20_11 : ins 20 11 = some (.aload_n 0) := by decide +kernel
theorem i_20_12 : ins 20 12 = some (.bipush 60) := by decide +kernel
theorem i_20_14 : ins 20 14 = some (.iconst 2) := by decide +kernel
theorem i_20_15 : ins 20 15 = some (.iload_n 1) := by decide +kernel
theorem i_20_16 : ins 20 16 = some (.iconst 0) := by decide +kernel
theorem i_20_17 : ins 20 17 = some (.invokevirtual 66) := by decide +kernel
theorem i_20_20 : ins 20 20 = some (.ireturn) := by decide +kernel
theorem o_21 : mOwn 21 = 2 := rfl
theorem i_21_0 : ins 21 0 = some (.aload_n 0) := by decide +kernel
theorem i_21_1 : ins 21 1 = some (.getfield 24) := by decide +kernel
theorem i_21_4 : ins 21 4 = some (.aload_n 0) := by decide +kernel
theorem i_21_5 : ins 21 5 = some (.getfield 15) := by decide +kernel
theorem i_21_8 : ins 21 8 = some (.invokevirtual 42) := by decide +kernel
theorem i_21_11 : ins 21 11 = some (.aload_n 0) := by decide +kernel
theorem i_21_12 : ins 21 12 = some (.sipush 200) := by decide +kernel
theorem i_21_15 : ins 21 15 = some (.iconst 3) := by decide +kernel
theorem i_21_16 : ins 21 16 = some (.iload_n 1) := by decide +kernel
theorem i_21_17 : ins 21 17 = some (.iconst 0) := by decide +kernel
theorem i_21_18 : ins 21 18 = some (.invokevirtual 66) := by decide +kernel
theorem i_21_21 : ins 21 21 = some (.ireturn) := by decide +kernel
theorem o_22 : mOwn 22 = 2 := rfl
theorem i_22_0 : ins 22 0 = some (.iconst 0) := by decide +kernel
theorem i_22_1 : ins 22 1 = some (.istore_n 3) := by decide +kernel
theorem i_22_2 : ins 22 2 = some (.iconst 0) := by decide +kernel
theorem i_22_3 : ins 22 3 = some (.istore 4) := by decide +kernel
theorem i_22_5 : ins 22 5 = some (.iconst 0) := by decide +kernel
theorem i_22_6 : ins 22 6 = some (.istore 5) := by decide +kernel
theorem i_22_8 : ins 22 8 = some (.iload 5) := by decide +kernel
theorem i_22_10 : ins 22 10 = some (.iconst 3) := by decide +kernel
theorem i_22_11 : ins 22 11 = some (.if_icmp .gt 87) := by decide +kernel
theorem i_22_14 : ins 22 14 = some (.aload_n 0) := by decide +kernel
theorem i_22_15 : ins 22 15 = some (.getfield 24) := by decide +kernel
theorem i_22_18 : ins 22 18 = some (.aload_n 0) := by decide +kernel
theorem i_22_19 : ins 22 19 = some (.getfield 15) := by decide +kernel
theorem i_22_22 : ins 22 22 = some (.invokevirtual 42) := by decide +kernel
theorem i_22_25 : ins 22 25 = some (.aload_n 0) := by decide +kernel
theorem i_22_26 : ins 22 26 = some (.getfield 24) := by decide +kernel
theorem i_22_29 : ins 22 29 = some (.iload_n 1) := by decide +kernel
theorem i_22_30 : ins 22 30 = some (.iload 5) := by decide +kernel
theorem i_22_32 : ins 22 32 = some (.invokevirtual 70) := by decide +kernel
theorem i_22_35 : ins 22 35 = some (.aload_n 0) := by decide +kernel
theorem i_22_36 : ins 22 36 = some (.sipush 200) := by decide +kernel
theorem i_22_39 : ins 22 39 = some (.iconst 0) := by decide +kernel
theorem i_22_40 : ins 22 40 = some (.iconst 0) := by decide +kernel
theorem i_22_41 : ins 22 41 = some (.iconst 0) := by decide +kernel
theorem i_22_42 : ins 22 42 = some (.invokevirtual 66) := by decide +kernel
theorem i_22_45 : ins 22 45 = some (.istore 6) := by decide +kernel
theorem i_22_47 : ins 22 47 = some (.iload 6) := by decide +kernel
theorem i_22_49 : ins 22 49 = some (.ldc 54) := by decide +kernel
theorem i_22_51 : ins 22 51 = some (.if_icmp .ne 8) := by decide +kernel
theorem i_22_54 : ins 22 54 = some (.sipush 201) := by decide +kernel
theorem i_22_57 : ins 22 57 = some (.istore 6) := by decide +kernel
theorem i_22_59 : ins 22 59 = some (.iload 5) := by decide +kernel
theorem i_22_61 : ins 22 61 = some (.ifCond .eq 24) := by decide +kernel
theorem i_22_64 : ins 22 64 = some (.iload_n 2) := by decide +kernel
theorem i_22_65 : ins 22 65 = some (.ifCond .eq 13) := by decide +kernel
theorem i_22_68 : ins 22 68 = some (.iload 6) := by decide +kernel
theorem i_22_70 : ins 22 70 = some (.iload 4) := by decide +kernel
theorem i_22_72 : ins 22 72 = some (.if_icmp .le 20) := by decide +kernel
theorem i_22_75 : ins 22 75 = some (.goto 10) := by decide +kernel
theorem i_22_78 : ins 22 78 = some (.iload 6) := by decide +kernel
theorem i_22_80 : ins 22 80 = some (.iload 4) := by decide +kernel
theorem i_22_82 : ins 22 82 = some (.if_icmp .ge 10) := by decide +kernel
theorem i_22_85 : ins 22 85 = some (.iload 5) := by decide +kernel
theorem i_22_87 : ins 22 87 = some (.istore_n 3) := by decide +kernel
theorem i_22_88 : ins 22 88 = some (.iload 6) := by decide +kernel
theorem i_22_90 : ins 22 90 = some (.istore 4) := by decide +kernel
theorem i_22_92 : ins 22 92 = some (.iinc 5 1) := by decide +kernel
theorem i_22_95 : ins 22 95 = some (.goto (-87)) := by decide +kernel
theorem i_22_98 : ins 22 98 = some (.iload_n 3) := by decide +kernel
theorem i_22_99 : ins 22 99 = some (.ireturn) := by decide +kernel
theorem o_23 : mOwn 23 = 2 := rfl
theorem i_23_0 : ins 23 0 = some (.iconst 0) := by decide +kernel
theorem i_23_1 : ins 23 1 = some (.istore_n 2) := by decide +kernel
theorem i_23_2 : ins 23 2 = some (.iload_n 2) := by decide +kernel
theorem i_23_3 : ins 23 3 = some (.bipush 12) := by decide +kernel
theorem i_23_5 : ins 23 5 = some (.if_icmp .gt 41) := by decide +kernel
theorem i_23_8 : ins 23 8 = some (.aload_n 0) := by decide +kernel
theorem i_23_9 : ins 23 9 = some (.getfield 24) := by decide +kernel
theorem i_23_12 : ins 23 12 = some (.aload_n 0) := by decide +kernel
theorem i_23_13 : ins 23 13 = some (.getfield 15) := by decide +kernel
theorem i_23_16 : ins 23 16 = some (.invokevirtual 42) := by decide +kernel
theorem i_23_19 : ins 23 19 = some (.aload_n 0) := by decide +kernel
theorem i_23_20 : ins 23 20 = some (.getfield 24) := by decide +kernel
theorem i_23_23 : ins 23 23 = some (.iload_n 2) := by decide +kernel
theorem i_23_24 : ins 23 24 = some (.invokevirtual 74) := by decide +kernel
theorem i_23_27 : ins 23 27 = some (.aload_n 0) := by decide +kernel
theorem i_23_28 : ins 23 28 = some (.getfield 24) := by decide +kernel
theorem i_23_31 : ins 23 31 = some (.invokevirtual 78) := by decide +kernel
theorem i_23_34 : ins 23 34 = some (.iload_n 1) := by decide +kernel
theorem i_23_35 : ins 23 35 = some (.if_icmp .lt 5) := by decide +kernel
theorem i_23_38 : ins 23 38 = some (.iload_n 2) := by decide +kernel
theorem i_23_39 : ins 23 39 = some (.ireturn) := by decide +kernel
theorem i_23_40 : ins 23 40 = some (.iinc 2 1) := by decide +kernel
theorem i_23_43 : ins 23 43 = some (.goto (-41)) := by decide +kernel
theorem i_23_46 : ins 23 46 = some (.ldc 54) := by decide +kernel
theorem i_23_48 : ins 23 48 = some (.ireturn) := by decide +kernel
theorem o_24 : mOwn 24 = 2 := rfl
theorem i_24_0 : ins 24 0 = some (.aload_n 0) := by decide +kernel
theorem i_24_1 : ins 24 1 = some (.getfield 30) := by decide +kernel
theorem i_24_4 : ins 24 4 = some (.iconst 0) := by decide +kernel
theorem i_24_5 : ins 24 5 = some (.aaload) := by decide +kernel
theorem i_24_6 : ins 24 6 = some (.aload_n 0) := by decide +kernel
theorem i_24_7 : ins 24 7 = some (.getfield 15) := by decide +kernel
theorem i_24_10 : ins 24 10 = some (.invokevirtual 42) := by decide +kernel
theorem i_24_13 : ins 24 13 = some (.aload_n 0) := by decide +kernel
theorem i_24_14 : ins 24 14 = some (.iconst 0) := by decide +kernel
theorem i_24_15 : ins 24 15 = some (.iload_n 1) := by decide +kernel
theorem i_24_16 : ins 24 16 = some (.iload_n 2) := by decide +kernel
theorem i_24_17 : ins 24 17 = some (.iload_n 3) := by decide +kernel
theorem i_24_18 : ins 24 18 = some (.invokevirtual 82) := by decide +kernel
theorem i_24_21 : ins 24 21 = some (.lstore 5) := by decide +kernel
theorem i_24_23 : ins 24 23 = some (.lconst 1) := by decide +kernel
theorem i_24_24 : ins 24 24 = some (.lstore 7) := by decide +kernel
theorem i_24_26 : ins 24 26 = some (.iconst 0) := by decide +kernel
theorem i_24_27 : ins 24 27 = some (.istore 9) := by decide +kernel
theorem i_24_29 : ins 24 29 = some (.iload 9) := by decide +kernel
theorem i_24_31 : ins 24 31 = some (.iload_n 2) := by decide +kernel
theorem i_24_32 : ins 24 32 = some (.if_icmp .ge 17) := by decide +kernel
theorem i_24_35 : ins 24 35 = some (.lload 7) := by decide +kernel
theorem i_24_37 : ins 24 37 = some (.ldc2_w 86) := by decide +kernel
theorem i_24_40 : ins 24 40 = some (.lmul) := by decide +kernel
theorem i_24_41 : ins 24 41 = some (.lstore 7) := by decide +kernel
theorem i_24_43 : ins 24 43 = some (.iinc 9 1) := by decide +kernel
theorem i_24_46 : ins 24 46 = some (.goto (-17)) := by decide +kernel
theorem i_24_49 : ins 24 49 = some (.lload 5) := by decide +kernel
theorem i_24_51 : ins 24 51 = some (.lload 7) := by decide +kernel
theorem i_24_53 : ins 24 53 = some (.invokestatic 88) := by decide +kernel
theorem i_24_56 : ins 24 56 = some (.lstore 9) := by decide +kernel
theorem i_24_58 : ins 24 58 = some (.lload 9) := by decide +kernel
theorem i_24_60 : ins 24 60 = some (.lconst 0) := by decide +kernel
theorem i_24_61 : ins 24 61 = some (.lcmp) := by decide +kernel
theorem i_24_62 : ins 24 62 = some (.ifCond .ne 6) := by decide +kernel
theorem i_24_65 : ins 24 65 = some (.ldc 92) := by decide +kernel
theorem i_24_67 : ins 24 67 = some (.ireturn) := by decide +kernel
theorem i_24_68 : ins 24 68 = some (.iload 4) := by decide +kernel
theorem i_24_70 : ins 24 70 = some (.ifCond .eq 8) := by decide +kernel
theorem i_24_73 : ins 24 73 = some (.lload 5) := by decide +kernel
theorem i_24_75 : ins 24 75 = some (.goto 5) := by decide +kernel
theorem i_24_78 : ins 24 78 = some (.lload 7) := by decide +kernel
theorem i_24_80 : ins 24 80 = some (.lload 9) := by decide +kernel
theorem i_24_82 : ins 24 82 = some (.ldiv) := by decide +kernel
theorem i_24_83 : ins 24 83 = some (.l2i) := by decide +kernel
theorem i_24_84 : ins 24 84 = some (.ireturn) := by decide +kernel
theorem o_25 : mOwn 25 = 2 := rfl
theorem i_25_0 : ins 25 0 = some (.aload_n 0) := by decide +kernel
theorem i_25_1 : ins 25 1 = some (.getfield 30) := by decide +kernel
theorem i_25_4 : ins 25 4 = some (.iload_n 1) := by decide +kernel
theorem i_25_5 : ins 25 5 = some (.aaload) := by decide +kernel
theorem i_25_6 : ins 25 6 = some (.astore 5) := by decide +kernel
theorem i_25_8 : ins 25 8 = some (.iload_n 1) := by decide +kernel
theorem i_25_9 : ins 25 9 = some (.iload_n 3) := by decide +kernel
theorem i_25_10 : ins 25 10 = some (.if_icmp .ge 14) := by decide +kernel
theorem i_25_13 : ins 25 13 = some (.iload_n 1) := by decide +kernel
theorem i_25_14 : ins 25 14 = some (.iconst 1) := by decide +kernel
theorem i_25_15 : ins 25 15 = some (.iadd) := by decide +kernel
theorem i_25_16 : ins 25 16 = some (.aload_n 0) := by decide +kernel
theorem i_25_17 : ins 25 17 = some (.getfield 30) := by decide +kernel
theorem i_25_20 : ins 25 20 = some (.arraylength) := by decide +kernel
theorem i_25_21 : ins 25 21 = some (.if_icmp .lt 18) := by decide +kernel
theorem i_25_24 : ins 25 24 = some (.aload 5) := by decide +kernel
theorem i_25_26 : ins 25 26 = some (.getfield 93) := by decide +kernel
theorem i_25_29 : ins 25 29 = some (.iload_n 2) := by decide +kernel
theorem i_25_30 : ins 25 30 = some (.if_icmp .lt 7) := by decide +kernel
theorem i_25_33 : ins 25 33 = some (.lconst 1) := by decide +kernel
theorem i_25_34 : ins 25 34 = some (.goto 4) := by decide +kernel
theorem i_25_37 : ins 25 37 = some (.lconst 0) := by decide +kernel
theorem i_25_38 : ins 25 38 = some (.lreturn) := by decide +kernel
theorem i_25_39 : ins 25 39 = some (.aload 5) := by decide +kernel
theorem i_25_41 : ins 25 41 = some (.invokevirtual 97) := by decide +kernel
theorem i_25_44 : ins 25 44 = some (.ifCond .eq 8) := by decide +kernel
theorem i_25_47 : ins 25 47 = some (.iload 4) := by decide +kernel
theorem i_25_49 : ins 25 49 = some (.goto 5) := by decide +kernel
theorem i_25_52 : ins 25 52 = some (.bipush 10) := by decide +kernel
theorem i_25_54 : ins 25 54 = some (.istore 6) := by decide +kernel
theorem i_25_56 : ins 25 56 = some (.lconst 0) := by decide +kernel
theorem i_25_57 : ins 25 57 = some (.lstore 7) := by decide +kernel
theorem i_25_59 : ins 25 59 = some (.iload 6) := by decide +kernel
theorem i_25_61 : ins 25 61 = some (.ifCond .le 29) := by decide +kernel
theorem i_25_64 : ins 25 64 = some (.aload_n 0) := by decide +kernel
theorem i_25_65 : ins 25 65 = some (.iload_n 1) := by decide +kernel
theorem i_25_66 : ins 25 66 = some (.iconst 1) := by decide +kernel
theorem i_25_67 : ins 25 67 = some (.invokevirtual 100) := by decide +kernel
theorem i_25_70 : ins 25 70 = some (.lload 7) := by decide +kernel
theorem i_25_72 : ins 25 72 = some (.iload 6) := by decide +kernel
theorem i_25_74 : ins 25 74 = some (.i2l) := by decide +kernel
theorem i_25_75 : ins 25 75 = some (.aload_n 0) := by decide +kernel
theorem i_25_76 : ins 25 76 = some (.iload_n 1) := by decide +kernel
theorem i_25_77 : ins 25 77 = some (.iconst 1) := by decide +kernel
theorem i_25_78 : ins 25 78 = some (.iadd) := by decide +kernel
theorem i_25_79 : ins 25 79 = some (.iload_n 2) := by decide +kernel
theorem i_25_80 : ins 25 80 = some (.iload_n 3) := by decide +kernel
theorem i_25_81 : ins 25 81 = some (.iload 4) := by decide +kernel
theorem i_25_83 : ins 25 83 = some (.invokevirtual 82) := by decide +kernel
theorem i_25_86 : ins 25 86 = some (.lmul) := by decide +kernel
theorem i_25_87 : ins 25 87 = some (.ladd) := by decide +kernel
theorem i_25_88 : ins 25 88 = some (.lstore 7) := by decide +kernel
theorem i_25_90 : ins 25 90 = some (.iload 6) := by decide +kernel
theorem i_25_92 : ins 25 92 = some (.bipush 10) := by decide +kernel
theorem i_25_94 : ins 25 94 = some (.if_icmp .ge 32) := by decide +kernel
theorem i_25_97 : ins 25 97 = some (.aload_n 0) := by decide +kernel
theorem i_25_98 : ins 25 98 = some (.iload_n 1) := by decide +kernel
theorem i_25_99 : ins 25 99 = some (.iconst 0) := by decide +kernel
theorem i_25_100 : ins 25 100 = some (.invokevirtual 100) := by decide +kernel
theorem i_25_103 : ins 25 103 = some (.lload 7) := by decide +kernel
theorem i_25_105 : ins 25 105 = some (.bipush 10) := by decide +kernel
theorem i_25_107 : ins 25 107 = some (.iload 6) := by decide +kernel
theorem i_25_109 : ins 25 109 = some (.isub) := by decide +kernel
theorem i_25_110 : ins 25 110 = some (.i2l) := by decide +kernel
theorem i_25_111 : ins 25 111 = some (.aload_n 0) := by decide +kernel
theorem i_25_112 : ins 25 112 = some (.iload_n 1) := by decide +kernel
theorem i_25_113 : ins 25 113 = some (.iconst 1) := by decide +kernel
theorem i_25_114 : ins 25 114 = some (.iadd) := by decide +kernel
theorem i_25_115 : ins 25 115 = some (.iload_n 2) := by decide +kernel
theorem i_25_116 : ins 25 116 = some (.iload_n 3) := by decide +kernel
theorem i_25_117 : ins 25 117 = some (.iload 4) := by decide +kernel
theorem i_25_119 : ins 25 119 = some (.invokevirtual 82) := by decide +kernel
theorem i_25_122 : ins 25 122 = some (.lmul) := by decide +kernel
theorem i_25_123 : ins 25 123 = some (.ladd) := by decide +kernel
theorem i_25_124 : ins 25 124 = some (.lstore 7) := by decide +kernel
theorem i_25_126 : ins 25 126 = some (.lload 7) := by decide +kernel
theorem i_25_128 : ins 25 128 = some (.lreturn) := by decide +kernel
theorem o_26 : mOwn 26 = 2 := rfl
theorem i_26_0 : ins 26 0 = some (.aload_n 0) := by decide +kernel
theorem i_26_1 : ins 26 1 = some (.getfield 30) := by decide +kernel
theorem i_26_4 : ins 26 4 = some (.iload_n 1) := by decide +kernel
theorem i_26_5 : ins 26 5 = some (.iconst 1) := by decide +kernel
theorem i_26_6 : ins 26 6 = some (.iadd) := by decide +kernel
theorem i_26_7 : ins 26 7 = some (.aaload) := by decide +kernel
theorem i_26_8 : ins 26 8 = some (.astore_n 3) := by decide +kernel
theorem i_26_9 : ins 26 9 = some (.aload_n 3) := by decide +kernel
theorem i_26_10 : ins 26 10 = some (.aload_n 0) := by decide +kernel
theorem i_26_11 : ins 26 11 = some (.getfield 30) := by decide +kernel
theorem i_26_14 : ins 26 14 = some (.iload_n 1) := by decide +kernel
theorem i_26_15 : ins 26 15 = some (.aaload) := by decide +kernel
theorem i_26_16 : ins 26 16 = some (.invokevirtual 42) := by decide +kernel
theorem i_26_19 : ins 26 19 = some (.aload_n 3) := by decide +kernel
theorem i_26_20 : ins 26 20 = some (.iload_n 2) := by decide +kernel
theorem i_26_21 : ins 26 21 = some (.invokevirtual 38) := by decide +kernel
theorem i_26_24 : ins 26 24 = some (.return_) := by decide +kernel
theorem o_27 : mOwn 27 = 2 := rfl
theorem i_27_0 : ins 27 0 = some (.lload_n 2) := by decide +kernel
theorem i_27_1 : ins 27 1 = some (.lstore 4) := by decide +kernel
theorem i_27_3 : ins 27 3 = some (.lload_n 0) := by decide +kernel
theorem i_27_4 : ins 27 4 = some (.lstore 6) := by decide +kernel
theorem i_27_6 : ins 27 6 = some (.iconst 0) := by decide +kernel
theorem i_27_7 : ins 27 7 = some (.istore 8) := by decide +kernel
theorem i_27_9 : ins 27 9 = some (.iload 8) := by decide +kernel
theorem i_27_11 : ins 27 11 = some (.bipush 100) := by decide +kernel
theorem i_27_13 : ins 27 13 = some (.if_icmp .ge 31) := by decide +kernel
theorem i_27_16 : ins 27 16 = some (.lload 6) := by decide +kernel
theorem i_27_18 : ins 27 18 = some (.lconst 0) := by decide +kernel
theorem i_27_19 : ins 27 19 = some (.lcmp) := by decide +kernel
theorem i_27_20 : ins 27 20 = some (.ifCond .eq 24) := by decide +kernel
theorem i_27_23 : ins 27 23 = some (.lload 4) := by decide +kernel
theorem i_27_25 : ins 27 25 = some (.lload 6) := by decide +kernel
theorem i_27_27 : ins 27 27 = some (.lrem) := by decide +kernel
theorem i_27_28 : ins 27 28 = some (.lstore 9) := by decide +kernel
theorem i_27_30 : ins 27 30 = some (.lload 6) := by decide +kernel
theorem i_27_32 : ins 27 32 = some (.lstore 4) := by decide +kernel
theorem i_27_34 : ins 27 34 = some (.lload 9) := by decide +kernel
theorem i_27_36 : ins 27 36 = some (.lstore 6) := by decide +kernel
theorem i_27_38 : ins 27 38 = some (.iinc 8 1) := by decide +kernel
theorem i_27_41 : ins 27 41 = some (.goto (-32)) := by decide +kernel
theorem i_27_44 : ins 27 44 = some (.lload 4) := by decide +kernel
theorem i_27_46 : ins 27 46 = some (.lreturn) := by decide +kernel
theorem o_28 : mOwn 28 = 2 := rfl
theorem i_28_0 : ins 28 0 = some (.aload_n 0) := by decide +kernel
theorem i_28_1 : ins 28 1 = some (.getfield 15) := by decide +kernel
theorem i_28_4 : ins 28 4 = some (.iconst 2) := by decide +kernel
theorem i_28_5 : ins 28 5 = some (.invokevirtual 104) := by decide +kernel
theorem i_28_8 : ins 28 8 = some (.istore_n 3) := by decide +kernel
theorem i_28_9 : ins 28 9 = some (.iconst 0) := by decide +kernel
theorem i_28_10 : ins 28 10 = some (.istore 4) := by decide +kernel
theorem i_28_12 : ins 28 12 = some (.iconst 0) := by decide +kernel
theorem i_28_13 : ins 28 13 = some (.istore 5) := by decide +kernel
theorem i_28_15 : ins 28 15 = some (.aload_n 0) := by decide +kernel
theorem i_28_16 : ins 28 16 = some (.getfield 27) := by decide +kernel
theorem i_28_19 : ins 28 19 = some (.aload_n 0) := by decide +kernel
theorem i_28_20 : ins 28 20 = some (.getfield 15) := by decide +kernel
theorem i_28_23 : ins 28 23 = some (.invokevirtual 42) := by decide +kernel
theorem i_28_26 : ins 28 26 = some (.iconst 0) := by decide +kernel
theorem i_28_27 : ins 28 27 = some (.istore 6) := by decide +kernel
theorem i_28_29 : ins 28 29 = some (.iload 6) := by decide +kernel
theorem i_28_31 : ins 28 31 = some (.bipush 30) := by decide +kernel
theorem i_28_33 : ins 28 33 = some (.if_icmp .gt 75) := by decide +kernel
theorem i_28_36 : ins 28 36 = some (.aload_n 0) := by decide +kernel
theorem i_28_37 : ins 28 37 = some (.getfield 24) := by decide +kernel
theorem i_28_40 : ins 28 40 = some (.aload_n 0) := by decide +kernel
theorem i_28_41 : ins 28 41 = some (.getfield 27) := by decide +kernel
theorem i_28_44 : ins 28 44 = some (.invokevirtual 42) := by decide +kernel
theorem i_28_47 : ins 28 47 = some (.aload_n 0) := by decide +kernel
theorem i_28_48 : ins 28 48 = some (.getfield 24) := by decide +kernel
theorem i_28_51 : ins 28 51 = some (.iload_n 1) := by decide +kernel
theorem i_28_52 : ins 28 52 = some (.putfield 108) := by decide +kernel
theorem i_28_55 : ins 28 55 = some (.aload_n 0) := by decide +kernel
theorem i_28_56 : ins 28 56 = some (.getfield 24) := by decide +kernel
theorem i_28_59 : ins 28 59 = some (.bipush 60) := by decide +kernel
theorem i_28_61 : ins 28 61 = some (.iload 6) := by decide +kernel
theorem i_28_63 : ins 28 63 = some (.isub) := by decide +kernel
theorem i_28_64 : ins 28 64 = some (.invokestatic 46) := by decide +kernel
theorem i_28_67 : ins 28 67 = some (.aload_n 0) := by decide +kernel
theorem i_28_68 : ins 28 68 = some (.getfield 24) := by decide +kernel
theorem i_28_71 : ins 28 71 = some (.iconst 2) := by decide +kernel
theorem i_28_72 : ins 28 72 = some (.invokevirtual 104) := by decide +kernel
theorem i_28_75 : ins 28 75 = some (.iload_n 3) := by decide +kernel
theorem i_28_76 : ins 28 76 = some (.isub) := by decide +kernel
theorem i_28_77 : ins 28 77 = some (.istore 7) := by decide +kernel
theorem i_28_79 : ins 28 79 = some (.iload 7) := by decide +kernel
theorem i_28_81 : ins 28 81 = some (.iload 5) := by decide +kernel
theorem i_28_83 : ins 28 83 = some (.if_icmp .lt 11) := by decide +kernel
theorem i_28_86 : ins 28 86 = some (.iload 6) := by decide +kernel
theorem i_28_88 : ins 28 88 = some (.istore 4) := by decide +kernel
theorem i_28_90 : ins 28 90 = some (.iload 7) := by decide +kernel
theorem i_28_92 : ins 28 92 = some (.istore 5) := by decide +kernel
theorem i_28_94 : ins 28 94 = some (.aload_n 0) := by decide +kernel
theorem i_28_95 : ins 28 95 = some (.getfield 27) := by decide +kernel
theorem i_28_98 : ins 28 98 = some (.iconst 1) := by decide +kernel
theorem i_28_99 : ins 28 99 = some (.invokevirtual 38) := by decide +kernel
theorem i_28_102 : ins 28 102 = some (.iinc 6 1) := by decide +kernel
theorem i_28_105 : ins 28 105 = some (.goto (-76)) := by decide +kernel
theorem i_28_108 : ins 28 108 = some (.iload_n 2) := by decide +kernel
theorem i_28_109 : ins 28 109 = some (.ifCond .eq 8) := by decide +kernel
theorem i_28_112 : ins 28 112 = some (.iload 4) := by decide +kernel
theorem i_28_114 : ins 28 114 = some (.goto 5) := by decide +kernel
theorem i_28_117 : ins 28 117 = some (.iload 5) := by decide +kernel
theorem i_28_119 : ins 28 119 = some (.ireturn) := by decide +kernel
theorem o_29 : mOwn 29 = 3 := rfl
theorem i_29_0 : ins 29 0 = some (.aload_n 0) := by decide +kernel
theorem i_29_1 : ins 29 1 = some (.invokespecial 3) := by decide +kernel
theorem i_29_4 : ins 29 4 = some (.aload_n 0) := by decide +kernel
theorem i_29_5 : ins 29 5 = some (.sipush 160) := by decide +kernel
theorem i_29_8 : ins 29 8 = some (.newarray .int) := by decide +kernel
theorem i_29_10 : ins 29 10 = some (.putfield 11) := by decide +kernel
theorem i_29_13 : ins 29 13 = some (.return_) := by decide +kernel
theorem o_30 : mOwn 30 = 3 := rfl
theorem i_30_0 : ins 30 0 = some (.aload_n 0) := by decide +kernel
theorem i_30_1 : ins 30 1 = some (.getfield 15) := by decide +kernel
theorem i_30_4 : ins 30 4 = some (.sipush 160) := by decide +kernel
theorem i_30_7 : ins 30 7 = some (.if_icmp .lt 7) := by decide +kernel
theorem i_30_10 : ins 30 10 = some (.iconst 1) := by decide +kernel
theorem i_30_11 : ins 30 11 = some (.goto 4) := by decide +kernel
theorem i_30_14 : ins 30 14 = some (.iconst 0) := by decide +kernel
theorem i_30_15 : ins 30 15 = some (.ireturn) := by decide +kernel
theorem o_31 : mOwn 31 = 3 := rfl
theorem i_31_0 : ins 31 0 = some (.aload_n 0) := by decide +kernel
theorem i_31_1 : ins 31 1 = some (.getfield 11) := by decide +kernel
theorem i_31_4 : ins 31 4 = some (.aload_n 0) := by decide +kernel
theorem i_31_5 : ins 31 5 = some (.getfield 15) := by decide +kernel
theorem i_31_8 : ins 31 8 = some (.iload_n 1) := by decide +kernel
theorem i_31_9 : ins 31 9 = some (.iastore) := by decide +kernel
theorem i_31_10 : ins 31 10 = some (.aload_n 0) := by decide +kernel
theorem i_31_11 : ins 31 11 = some (.dup) := by decide +kernel
theorem i_31_12 : ins 31 12 = some (.getfield 15) := by decide +kernel
theorem i_31_15 : ins 31 15 = some (.iconst 1) := by decide +kernel
theorem i_31_16 : ins 31 16 = some (.iadd) := by decide +kernel
theorem i_31_17 : ins 31 17 = some (.putfield 15) := by decide +kernel
theorem i_31_20 : ins 31 20 = some (.aload_n 0) := by decide +kernel
theorem i_31_21 : ins 31 21 = some (.getfield 15) := by decide +kernel
theorem i_31_24 : ins 31 24 = some (.ireturn) := by decide +kernel
theorem o_32 : mOwn 32 = 3 := rfl
theorem i_32_0 : ins 32 0 = some (.aload_n 0) := by decide +kernel
theorem i_32_1 : ins 32 1 = some (.getfield 15) := by decide +kernel
theorem i_32_4 : ins 32 4 = some (.ireturn) := by decide +kernel
theorem o_33 : mOwn 33 = 3 := rfl
theorem i_33_0 : ins 33 0 = some (.aload_n 0) := by decide +kernel
theorem i_33_1 : ins 33 1 = some (.getfield 19) := by decide +kernel
theorem i_33_4 : ins 33 4 = some (.ireturn) := by decide +kernel
theorem o_34 : mOwn 34 = 3 := rfl
theorem i_34_0 : ins 34 0 = some (.aload_n 0) := by decide +kernel
theorem i_34_1 : ins 34 1 = some (.iconst 0) := by decide +kernel
theorem i_34_2 : ins 34 2 = some (.putfield 19) := by decide +kernel
theorem i_34_5 : ins 34 5 = some (.aload_n 0) := by decide +kernel
theorem i_34_6 : ins 34 6 = some (.iconst 0) := by decide +kernel
theorem i_34_7 : ins 34 7 = some (.putfield 22) := by decide +kernel
theorem i_34_10 : ins 34 10 = some (.aload_n 1) := by decide +kernel
theorem i_34_11 : ins 34 11 = some (.invokevirtual 25) := by decide +kernel
theorem i_34_14 : ins 34 14 = some (.aload_n 0) := by decide +kernel
theorem i_34_15 : ins 34 15 = some (.aload_n 1) := by decide +kernel
theorem i_34_16 : ins 34 16 = some (.invokevirtual 30) := by decide +kernel
theorem i_34_19 : ins 34 19 = some (.aload_n 0) := by decide +kernel
theorem i_34_20 : ins 34 20 = some (.aload_n 1) := by decide +kernel
theorem i_34_21 : ins 34 21 = some (.invokevirtual 34) := by decide +kernel
theorem i_34_24 : ins 34 24 = some (.aload_n 0) := by decide +kernel
theorem i_34_25 : ins 34 25 = some (.aload_n 1) := by decide +kernel
theorem i_34_26 : ins 34 26 = some (.invokevirtual 37) := by decide +kernel
theorem i_34_29 : ins 34 29 = some (.aload_n 0) := by decide +kernel
theorem i_34_30 : ins 34 30 = some (.getfield 22) := by decide +kernel
theorem i_34_33 : ins 34 33 = some (.ifCond .ne 19) := by decide +kernel
theorem i_34_36 : ins 34 36 = some (.aload_n 0) := by decide +kernel
theorem i_34_37 : ins 34 37 = some (.getfield 19) := by decide +kernel
theorem i_34_40 : ins 34 40 = some (.aload_n 0) := by decide +kernel
theorem i_34_41 : ins 34 41 = some (.getfield 15) := by decide +kernel
theorem i_34_44 : ins 34 44 = some (.if_icmp .ge 8) := by decide +kernel
theorem i_34_47 : ins 34 47 = some (.aload_n 0) := by decide +kernel
theorem i_34_48 : ins 34 48 = some (.iconst 1) := by decide +kernel
theorem i_34_49 : ins 34 49 = some (.putfield 22) := by decide +kernel
theorem i_34_52 : ins 34 52 = some (.aload_n 0) := by decide +kernel
theorem i_34_53 : ins 34 53 = some (.iconst 0) := by decide +kernel
theorem i_34_54 : ins 34 54 = some (.putfield 15) := by decide +kernel
theorem i_34_57 : ins 34 57 = some (.aload_n 0) := by decide +kernel
theorem i_34_58 : ins 34 58 = some (.getfield 22) := by decide +kernel
theorem i_34_61 : ins 34 61 = some (.ireturn) := by decide +kernel
theorem o_35 : mOwn 35 = 3 := rfl
theorem i_35_0 : ins 35 0 = some (.aload_n 0) := by decide +kernel
theorem i_35_1 : ins 35 1 = some (.bipush 113) := by decide +kernel
theorem i_35_3 : ins 35 3 = some (.invokevirtual 40) := by decide +kernel
theorem i_35_6 : ins 35 6 = some (.aload_n 1) := by decide +kernel
theorem i_35_7 : ins 35 7 = some (.aload_n 0) := by decide +kernel
theorem i_35_8 : ins 35 8 = some (.iconst 3) := by decide +kernel
theorem i_35_9 : ins 35 9 = some (.invokevirtual 44) := by decide +kernel
theorem i_35_12 : ins 35 12 = some (.putfield 48) := by decide +kernel
theorem i_35_15 : ins 35 15 = some (.aload_n 0) := by decide +kernel
theorem i_35_16 : ins 35 16 = some (.bipush 44) := by decide +kernel
theorem i_35_18 : ins 35 18 = some (.invokevirtual 40) := by decide +kernel
theorem i_35_21 : ins 35 21 = some (.aload_n 1) := by decide +kernel
theorem i_35_22 : ins 35 22 = some (.aload_n 0) := by decide +kernel
theorem i_35_23 : ins 35 23 = some (.bipush 9) := by decide +kernel
theorem i_35_25 : ins 35 25 = some (.invokevirtual 44) := by decide +kernel
theorem i_35_28 : ins 35 28 = some (.putfield 51) := by decide +kernel
theorem i_35_31 : ins 35 31 = some (.aload_n 0) := by decide +kernel
theorem i_35_32 : ins 35 32 = some (.bipush 59) := by decide +kernel
theorem i_35_34 : ins 35 34 = some (.invokevirtual 40) := by decide +kernel
theorem i_35_37 : ins 35 37 = some (.return_) := by decide +kernel
theorem o_36 : mOwn 36 = 3 := rfl
theorem i_36_0 : ins 36 0 = some (.iconst 0) := by decide +kernel
theorem i_36_1 : ins 36 1 = some (.istore_n 2) := by decide +kernel
theorem i_36_2 : ins 36 2 = some (.iload_n 2) := by decide +kernel
theorem i_36_3 : ins 36 3 = some (.bipush 8) := by decide +kernel
theorem i_36_5 : ins 36 5 = some (.if_icmp .gt 96) := by decide +kernel
theorem i_36_8 : ins 36 8 = some (.aload_n 0) := by decide +kernel
theorem i_36_9 : ins 36 9 = some (.getfield 22) := by decide +kernel
theorem i_36_12 : ins 36 12 = some (.ifCond .ne 89) := by decide +kernel
theorem i_36_15 : ins 36 15 = some (.aload_n 0) := by decide +kernel
theorem i_36_16 : ins 36 16 = some (.aload_n 0) := by decide +kernel
theorem i_36_17 : ins 36 17 = some (.getfield 19) := by decide +kernel
theorem i_36_20 : ins 36 20 = some (.invokevirtual 54) := by decide +kernel
theorem i_36_23 : ins 36 23 = some (.invokestatic 57) := by decide +kernel
theorem i_36_26 : ins 36 26 = some (.istore_n 3) := by decide +kernel
theorem i_36_27 : ins 36 27 = some (.iload_n 3) := by decide +kernel
theorem i_36_28 : ins 36 28 = some (.ifCond .ne 6) := by decide +kernel
theorem i_36_31 : ins 36 31 = some (.goto 70) := by decide +kernel
theorem i_36_34 : ins 36 34 = some (.iload_n 2) := by decide +kernel
theorem i_36_35 : ins 36 35 = some (.bipush 8) := by decide +kernel
theorem i_36_37 : ins 36 37 = some (.if_icmp .ne 11) := by decide +kernel
theorem i_36_40 : ins 36 40 = some (.aload_n 0) := by decide +kernel
theorem i_36_41 : ins 36 41 = some (.iconst 3) := by decide +kernel
theorem i_36_42 : ins 36 42 = some (.putfield 22) := by decide +kernel
theorem i_36_45 : ins 36 45 = some (.goto 56) := by decide +kernel
theorem i_36_48 : ins 36 48 = some (.aload_n 0) := by decide +kernel
theorem i_36_49 : ins 36 49 = some (.dup) := by decide +kernel
theorem i_36_50 : ins 36 50 = some (.getfield 19) := by decide +kernel
theorem i_36_53 : ins 36 53 = some (.iconst 1) := by decide +kernel
theorem i_36_54 : ins 36 54 = some (.iadd) := by decide +kernel
theorem i_36_55 : ins 36 55 = some (.putfield 19) := by decide +kernel
theorem i_36_58 : ins 36 58 = some (.aload_n 0) := by decide +kernel
theorem i_36_59 : ins 36 59 = some (.bipush 99) := by decide +kernel
theorem i_36_61 : ins 36 61 = some (.invokevirtual 44) := by decide +kernel
theorem i_36_64 : ins 36 64 = some (.istore 4) := by decide +kernel
theorem i_36_66 : ins 36 66 = some (.aload_n 0) := by decide +kernel
theorem i_36_67 : ins 36 67 = some (.bipush 44) := by decide +kernel
theorem i_36_69 : ins 36 69 = some (.invokevirtual 40) := by decide +kernel
theorem i_36_72 : ins 36 72 = some (.aload_n 0) := by decide +kernel
theorem i_36_73 : ins 36 73 = some (.iconst 3) := by decide +kernel
theorem i_36_74 : ins 36 74 = some (.invokevirtual 44) := by decide +kernel
theorem i_36_77 : ins 36 77 = some (.istore 5) := by decide +kernel
theorem i_36_79 : ins 36 79 = some (.aload_n 0) := by decide +kernel
theorem i_36_80 : ins 36 80 = some (.bipush 59) := by decide +kernel
theorem i_36_82 : ins 36 82 = some (.invokevirtual 40) := by decide +kernel
theorem i_36_85 : ins 36 85 = some (.aload_n 1) := by decide +kernel
theorem i_36_86 : ins 36 86 = some (.iload_n 3) := by decide +kernel
theorem i_36_87 : ins 36 87 = some (.iload 4) := by decide +kernel
theorem i_36_89 : ins 36 89 = some (.iload 5) := by decide +kernel
theorem i_36_91 : ins 36 91 = some (.iconst 0) := by decide +kernel
theorem i_36_92 : ins 36 92 = some (.invokevirtual 60) := by decide +kernel
theorem i_36_95 : ins 36 95 = some (.iinc 2 1) := by decide +kernel
theorem i_36_98 : ins 36 98 = some (.goto (-96)) := by decide +kernel
theorem i_36_101 : ins 36 101 = some (.aload_n 1) := by decide +kernel
theorem i_36_102 : ins 36 102 = some (.aload_n 1) := by decide +kernel
theorem i_36_103 : ins 36 103 = some (.getfield 64) := by decide +kernel
theorem i_36_106 : ins 36 106 = some (.putfield 67) := by decide +kernel
theorem i_36_109 : ins 36 109 = some (.return_) := by decide +kernel
theorem o_37 : mOwn 37 = 3 := rfl
theorem i_37_0 : ins 37 0 = some (.iconst 0) := by decide +kernel
theorem i_37_1 : ins 37 1 = some (.istore_n 2) := by decide +kernel
theorem i_37_2 : ins 37 2 = some (.iload_n 2) := by decide +kernel
theorem i_37_3 : ins 37 3 = some (.bipush 8) := by decide +kernel
theorem i_37_5 : ins 37 5 = some (.if_icmp .gt 113) := by decide +kernel
theorem i_37_8 : ins 37 8 = some (.aload_n 0) := by decide +kernel
theorem i_37_9 : ins 37 9 = some (.getfield 22) := by decide +kernel
theorem i_37_12 : ins 37 12 = some (.ifCond .ne 106) := by decide +kernel
theorem i_37_15 : ins 37 15 = some (.aload_n 0) := by decide +kernel
theorem i_37_16 : ins 37 16 = some (.aload_n 0) := by decide +kernel
theorem i_37_17 : ins 37 17 = some (.getfield 19) := by decide +kernel
theorem i_37_20 : ins 37 20 = some (.invokevirtual 54) := by decide +kernel
theorem i_37_23 : ins 37 23 = some (.bipush 112) := by decide +kernel
theorem i_37_25 : ins 37 25 = some (.if_icmp .eq 6) := by decide +kernel
theorem i_37_28 : ins 37 28 = some (.goto 90) := by decide +kernel
theorem i_37_31 : ins 37 31 = some (.iload_n 2) := by decide +kernel
theorem i_37_32 : ins 37 32 = some (.bipush 8) := by decide +kernel
theorem i_37_34 : ins 37 34 = some (.if_icmp .ne 11) := by decide +kernel
theorem i_37_37 : ins 37 37 = some (.aload_n 0) := by decide +kernel
theorem i_37_38 : ins 37 38 = some (.iconst 3) := by decide +kernel
theorem i_37_39 : ins 37 39 = some (.putfield 22) := by decide +kernel
theorem i_37_42 : ins 37 42 = some (.goto 76) := by decide +kernel
theorem i_37_45 : ins 37 45 = some (.aload_n 0) := by decide +kernel
theorem i_37_46 : ins 37 46 = some (.dup) := by decide +kernel
theorem i_37_47 : ins 37 47 = some (.getfield 19) := by decide +kernel
theorem i_37_50 : ins 37 50 = some (.iconst 1) := by decide +kernel
theorem i_37_51 : ins 37 51 = some (.iadd) := by decide +kernel
theorem i_37_52 : ins 37 52 = some (.putfield 19) := by decide +kernel
theorem i_37_55 : ins 37 55 = some (.aload_n 0) := by decide +kernel
theorem i_37_56 : ins 37 56 = some (.invokevirtual 70) := by decide +kernel
theorem i_37_59 : ins 37 59 = some (.istore_n 3) := by decide +kernel
theorem i_37_60 : ins 37 60 = some (.aload_n 0) := by decide +kernel
theorem i_37_61 : ins 37 61 = some (.bipush 99) := by decide +kernel
theorem i_37_63 : ins 37 63 = some (.invokevirtual 44) := by decide +kernel
theorem i_37_66 : ins 37 66 = some (.istore 4) := by decide +kernel
theorem i_37_68 : ins 37 68 = some (.aload_n 0) := by decide +kernel
theorem i_37_69 : ins 37 69 = some (.bipush 44) := by decide +kernel
theorem i_37_71 : ins 37 71 = some (.invokevirtual 40) := by decide +kernel
theorem i_37_74 : ins 37 74 = some (.aload_n 0) := by decide +kernel
theorem i_37_75 : ins 37 75 = some (.iconst 3) := by decide +kernel
theorem i_37_76 : ins 37 76 = some (.invokevirtual 44) := by decide +kernel
theorem i_37_79 : ins 37 79 = some (.istore 5) := by decide +kernel
theorem i_37_81 : ins 37 81 = some (.aload_n 0) := by decide +kernel
theorem i_37_82 : ins 37 82 = some (.bipush 44) := by decide +kernel
theorem i_37_84 : ins 37 84 = some (.invokevirtual 40) := by decide +kernel
theorem i_37_87 : ins 37 87 = some (.aload_n 0) := by decide +kernel
theorem i_37_88 : ins 37 88 = some (.bipush 16) := by decide +kernel
theorem i_37_90 : ins 37 90 = some (.invokevirtual 44) := by decide +kernel
theorem i_37_93 : ins 37 93 = some (.istore 6) := by decide +kernel
theorem i_37_95 : ins 37 95 = some (.aload_n 0) := by decide +kernel
theorem i_37_96 : ins 37 96 = some (.bipush 59) := by decide +kernel
theorem i_37_98 : ins 37 98 = some (.invokevirtual 40) := by decide +kernel
theorem i_37_101 : ins 37 101 = some (.aload_n 1) := by decide +kernel
theorem i_37_102 : ins 37 102 = some (.iload_n 3) := by decide +kernel
theorem i_37_103 : ins 37 103 = some (.iload 4) := by decide +kernel
theorem i_37_105 : ins 37 105 = some (.iload 5) := by decide +kernel
theorem i_37_107 : ins 37 107 = some (.iload 6) := by decide +kernel
theorem i_37_109 : ins 37 109 = some (.invokevirtual 60) := by decide +kernel
theorem i_37_112 : ins 37 112 = some (.iinc 2 1) := by decide +kernel
theorem i_37_115 : ins 37 115 = some (.goto (-113)) := by decide +kernel
theorem i_37_118 : ins 37 118 = some (.return_) := by decide +kernel
theorem o_38 : mOwn 38 = 3 := rfl
theorem i_38_0 : ins 38 0 = some (.iload_n 1) := by decide +kernel
theorem i_38_1 : ins 38 1 = some (.ifCond .lt 20) := by decide +kernel
theorem i_38_4 : ins 38 4 = some (.iload_n 1) := by decide +kernel
theorem i_38_5 : ins 38 5 = some (.aload_n 0) := by decide +kernel
theorem i_38_6 : ins 38 6 = some (.getfield 15) := by decide +kernel
theorem i_38_9 : ins 38 9 = some (.if_icmp .ge 12) := by decide +kernel
theorem i_38_12 : ins 38 12 = some (.aload_n 0) := by decide +kernel
theorem i_38_13 : ins 38 13 = some (.getfield 11) := by decide +kernel
theorem i_38_16 : ins 38 16 = some (.iload_n 1) := by decide +kernel
theorem i_38_17 : ins 38 17 = some (.iaload) := by decide +kernel
theorem i_38_18 : ins 38 18 = some (.goto 4) := by decide +kernel
theorem i_38_21 : ins 38 21 = some (.iconst (-1)) := by decide +kernel
theorem i_38_22 : ins 38 22 = some (.ireturn) := by decide +kernel
theorem o_39 : mOwn 39 = 3 := rfl
theorem i_39_0 : ins 39 0 = some (.aload_n 0) := by decide +kernel
theorem i_39_1 : ins 39 1 = some (.getfield 22) := by decide +kernel
theorem i_39_4 : ins 39 4 = some (.ifCond .eq 4) := by decide +kernel
theorem i_39_7 : ins 39 7 = some (.return_) := by decide +kernel
theorem i_39_8 : ins 39 8 = some (.aload_n 0) := by decide +kernel
theorem i_39_9 : ins 39 9 = some (.aload_n 0) := by decide +kernel
theorem i_39_10 : ins 39 10 = some (.getfield 19) := by decide +kernel
theorem i_39_13 : ins 39 13 = some (.invokevirtual 54) := by decide +kernel
theorem i_39_16 : ins 39 16 = some (.iload_n 1) := by decide +kernel
theorem i_39_17 : ins 39 17 = some (.if_icmp .ne 16) := by decide +kernel
theorem i_39_20 : ins 39 20 = some (.aload_n 0) := by decide +kernel
theorem i_39_21 : ins 39 21 = some (.dup) := by decide +kernel
theorem i_39_22 : ins 39 22 = some (.getfield 19) := by decide +kernel
theorem i_39_25 : ins 39 25 = some (.iconst 1) := by decide +kernel
theorem i_39_26 : ins 39 26 = some (.iadd) := by decide +kernel
theorem i_39_27 : ins 39 27 = some (.putfield 19) := by decide +kernel
theorem i_39_30 : ins 39 30 = some (.goto 8) := by decide +kernel
theorem i_39_33 : ins 39 33 = some (.aload_n 0) := by decide +kernel
theorem i_39_34 : ins 39 34 = some (.iconst 1) := by decide +kernel
theorem i_39_35 : ins 39 35 = some (.putfield 22) := by decide +kernel
theorem i_39_38 : ins 39 38 = some (.return_) := by decide +kernel
theorem o_40 : mOwn 40 = 3 := rfl
theorem i_40_0 : ins 40 0 = some (.aload_n 0) := by decide +kernel
theorem i_40_1 : ins 40 1 = some (.aload_n 0) := by decide +kernel
theorem i_40_2 : ins 40 2 = some (.getfield 19) := by decide +kernel
theorem i_40_5 : ins 40 5 = some (.invokevirtual 54) := by decide +kernel
theorem i_40_8 : ins 40 8 = some (.invokestatic 57) := by decide +kernel
theorem i_40_11 : ins 40 11 = some (.istore_n 1) := by decide +kernel
theorem i_40_12 : ins 40 12 = some (.iload_n 1) := by decide +kernel
theorem i_40_13 : ins 40 13 = some (.ifCond .ne 11) := by decide +kernel
theorem i_40_16 : ins 40 16 = some (.aload_n 0) := by decide +kernel
theorem i_40_17 : ins 40 17 = some (.iconst 1) := by decide +kernel
theorem i_40_18 : ins 40 18 = some (.putfield 22) := by decide +kernel
theorem i_40_21 : ins 40 21 = some (.goto 13) := by decide +kernel
theorem i_40_24 : ins 40 24 = some (.aload_n 0) := by decide +kernel
theorem i_40_25 : ins 40 25 = some (.dup) := by decide +kernel
theorem i_40_26 : ins 40 26 = some (.getfield 19) := by decide +kernel
theorem i_40_29 : ins 40 29 = some (.iconst 1) := by decide +kernel
theorem i_40_30 : ins 40 30 = some (.iadd) := by decide +kernel
theorem i_40_31 : ins 40 31 = some (.putfield 19) := by decide +kernel
theorem i_40_34 : ins 40 34 = some (.iload_n 1) := by decide +kernel
theorem i_40_35 : ins 40 35 = some (.ireturn) := by decide +kernel
theorem o_41 : mOwn 41 = 3 := rfl
theorem i_41_0 : ins 41 0 = some (.aload_n 0) := by decide +kernel
theorem i_41_1 : ins 41 1 = some (.getfield 22) := by decide +kernel
theorem i_41_4 : ins 41 4 = some (.ifCond .eq 5) := by decide +kernel
theorem i_41_7 : ins 41 7 = some (.iconst 0) := by decide +kernel
theorem i_41_8 : ins 41 8 = some (.ireturn) := by decide +kernel
theorem i_41_9 : ins 41 9 = some (.iconst 0) := by decide +kernel
theorem i_41_10 : ins 41 10 = some (.istore_n 2) := by decide +kernel
theorem i_41_11 : ins 41 11 = some (.iconst 0) := by decide +kernel
theorem i_41_12 : ins 41 12 = some (.istore_n 3) := by decide +kernel
theorem i_41_13 : ins 41 13 = some (.iload_n 2) := by decide +kernel
theorem i_41_14 : ins 41 14 = some (.iconst 2) := by decide +kernel
theorem i_41_15 : ins 41 15 = some (.if_icmp .gt 44) := by decide +kernel
theorem i_41_18 : ins 41 18 = some (.aload_n 0) := by decide +kernel
theorem i_41_19 : ins 41 19 = some (.aload_n 0) := by decide +kernel
theorem i_41_20 : ins 41 20 = some (.getfield 19) := by decide +kernel
theorem i_41_23 : ins 41 23 = some (.iload_n 2) := by decide +kernel
theorem i_41_24 : ins 41 24 = some (.iadd) := by decide +kernel
theorem i_41_25 : ins 41 25 = some (.invokevirtual 54) := by decide +kernel
theorem i_41_28 : ins 41 28 = some (.invokestatic 74) := by decide +kernel
theorem i_41_31 : ins 41 31 = some (.ifCond .eq 28) := by decide +kernel
theorem i_41_34 : ins 41 34 = some (.bipush 10) := by decide +kernel
theorem i_41_36 : ins 41 36 = some (.iload_n 3) := by decide +kernel
theorem i_41_37 : ins 41 37 = some (.imul) := by decide +kernel
theorem i_41_38 : ins 41 38 = some (.aload_n 0) := by decide +kernel
theorem i_41_39 : ins 41 39 = some (.aload_n 0) := by decide +kernel
theorem i_41_40 : ins 41 40 = some (.getfield 19) := by decide +kernel
theorem i_41_43 : ins 41 43 = some (.iload_n 2) := by decide +kernel
theorem i_41_44 : ins 41 44 = some (.iadd) := by decide +kernel
theorem i_41_45 : ins 41 45 = some (.invokevirtual 54) := by decide +kernel
theorem i_41_48 : ins 41 48 = some (.iadd) := by decide +kernel
theorem i_41_49 : ins 41 49 = some (.bipush 48) := by decide +kernel
theorem i_41_51 : ins 41 51 = some (.isub) := by decide +kernel
theorem i_41_52 : ins 41 52 = some (.istore_n 3) := by decide +kernel
theorem i_41_53 : ins 41 53 = some (.iinc 2 1) := by decide +kernel
theorem i_41_56 : ins 41 56 = some (.goto (-43)) := by decide +kernel
theorem i_41_59 : ins 41 59 = some (.iload_n 2) := by decide +kernel
theorem i_41_60 : ins 41 60 = some (.ifCond .eq 8) := by decide +kernel
theorem i_41_63 : ins 41 63 = some (.iload_n 2) := by decide +kernel
theorem i_41_64 : ins 41 64 = some (.iconst 2) := by decide +kernel
theorem i_41_65 : ins 41 65 = some (.if_icmp .le 10) := by decide +kernel
theorem i_41_68 : ins 41 68 = some (.aload_n 0) := by decide +kernel
theorem i_41_69 : ins 41 69 = some (.iconst 1) := by decide +kernel
theorem i_41_70 : ins 41 70 = some (.putfield 22) := by decide +kernel
theorem i_41_73 : ins 41 73 = some (.iconst 0) := by decide +kernel
theorem i_41_74 : ins 41 74 = some (.ireturn) := by decide +kernel
theorem i_41_75 : ins 41 75 = some (.iload_n 3) := by decide +kernel
theorem i_41_76 : ins 41 76 = some (.iload_n 1) := by decide +kernel
theorem i_41_77 : ins 41 77 = some (.if_icmp .le 10) := by decide +kernel
theorem i_41_80 : ins 41 80 = some (.aload_n 0) := by decide +kernel
theorem i_41_81 : ins 41 81 = some (.iconst 2) := by decide +kernel
theorem i_41_82 : ins 41 82 = some (.putfield 22) := by decide +kernel
theorem i_41_85 : ins 41 85 = some (.iconst 0) := by decide +kernel
theorem i_41_86 : ins 41 86 = some (.ireturn) := by decide +kernel
theorem i_41_87 : ins 41 87 = some (.aload_n 0) := by decide +kernel
theorem i_41_88 : ins 41 88 = some (.dup) := by decide +kernel
theorem i_41_89 : ins 41 89 = some (.getfield 19) := by decide +kernel
theorem i_41_92 : ins 41 92 = some (.iload_n 2) := by decide +kernel
theorem i_41_93 : ins 41 93 = some (.iadd) := by decide +kernel
theorem i_41_94 : ins 41 94 = some (.putfield 19) := by decide +kernel
theorem i_41_97 : ins 41 97 = some (.iload_n 3) := by decide +kernel
theorem i_41_98 : ins 41 98 = some (.ireturn) := by decide +kernel
theorem o_42 : mOwn 42 = 3 := rfl
theorem i_42_0 : ins 42 0 = some (.iload_n 0) := by decide +kernel
theorem i_42_1 : ins 42 1 = some (.bipush 48) := by decide +kernel
theorem i_42_3 : ins 42 3 = some (.if_icmp .lt 13) := by decide +kernel
theorem i_42_6 : ins 42 6 = some (.iload_n 0) := by decide +kernel
theorem i_42_7 : ins 42 7 = some (.bipush 57) := by decide +kernel
theorem i_42_9 : ins 42 9 = some (.if_icmp .gt 7) := by decide +kernel
theorem i_42_12 : ins 42 12 = some (.iconst 1) := by decide +kernel
theorem i_42_13 : ins 42 13 = some (.goto 4) := by decide +kernel
theorem i_42_16 : ins 42 16 = some (.iconst 0) := by decide +kernel
theorem i_42_17 : ins 42 17 = some (.ireturn) := by decide +kernel
theorem o_43 : mOwn 43 = 3 := rfl
theorem i_43_0 : ins 43 0 = some (.iload_n 0) := by decide +kernel
theorem i_43_1 : ins 43 1 = some (.lookupswitch 61 #[(98, 51), (100, 59), (102, 57), (115, 55), (119, 53)]) := by decide +kernel
theorem i_43_52 : ins 43 52 = some (.iconst 1) := by decide +kernel
theorem i_43_53 : ins 43 53 = some (.ireturn) := by decide +kernel
theorem i_43_54 : ins 43 54 = some (.iconst 2) := by decide +kernel
theorem i_43_55 : ins 43 55 = some (.ireturn) := by decide +kernel
theorem i_43_56 : ins 43 56 = some (.iconst 3) := by decide +kernel
theorem i_43_57 : ins 43 57 = some (.ireturn) := by decide +kernel
theorem i_43_58 : ins 43 58 = some (.iconst 4) := by decide +kernel
theorem i_43_59 : ins 43 59 = some (.ireturn) := by decide +kernel
theorem i_43_60 : ins 43 60 = some (.iconst 5) := by decide +kernel
theorem i_43_61 : ins 43 61 = some (.ireturn) := by decide +kernel
theorem i_43_62 : ins 43 62 = some (.iconst 0) := by decide +kernel
theorem i_43_63 : ins 43 63 = some (.ireturn) := by decide +kernel
theorem o_44 : mOwn 44 = 4 := rfl
theorem i_44_0 : ins 44 0 = some (.aload_n 0) := by decide +kernel
theorem i_44_1 : ins 44 1 = some (.invokespecial 1) := by decide +kernel
theorem i_44_4 : ins 44 4 = some (.aload_n 0) := by decide +kernel
theorem i_44_5 : ins 44 5 = some (.bipush 8) := by decide +kernel
theorem i_44_7 : ins 44 7 = some (.bipush 40) := by decide +kernel
theorem i_44_9 : ins 44 9 = some (.multianewarray 9 2) := by decide +kernel
theorem i_44_13 : ins 44 13 = some (.putfield 11) := by decide +kernel
theorem i_44_16 : ins 44 16 = some (.aload_n 0) := by decide +kernel
theorem i_44_17 : ins 44 17 = some (.bipush 8) := by decide +kernel
theorem i_44_19 : ins 44 19 = some (.newarray .int) := by decide +kernel
theorem i_44_21 : ins 44 21 = some (.putfield 14) := by decide +kernel
theorem i_44_24 : ins 44 24 = some (.aload_n 0) := by decide +kernel
theorem i_44_25 : ins 44 25 = some (.bipush 8) := by decide +kernel
theorem i_44_27 : ins 44 27 = some (.newarray .int) := by decide +kernel
theorem i_44_29 : ins 44 29 = some (.putfield 18) := by decide +kernel
theorem i_44_32 : ins 44 32 = some (.iconst 0) := by decide +kernel
theorem i_44_33 : ins 44 33 = some (.istore_n 1) := by decide +kernel
theorem i_44_34 : ins 44 34 = some (.iload_n 1) := by decide +kernel
theorem i_44_35 : ins 44 35 = some (.bipush 8) := by decide +kernel
theorem i_44_37 : ins 44 37 = some (.if_icmp .ge 16) := by decide +kernel
theorem i_44_40 : ins 44 40 = some (.aload_n 0) := by decide +kernel
theorem i_44_41 : ins 44 41 = some (.getfield 18) := by decide +kernel
theorem i_44_44 : ins 44 44 = some (.iload_n 1) := by decide +kernel
theorem i_44_45 : ins 44 45 = some (.iconst (-1)) := by decide +kernel
theorem i_44_46 : ins 44 46 = some (.iastore) := by decide +kernel
theorem i_44_47 : ins 44 47 = some (.iinc 1 1) := by decide +kernel
theorem i_44_50 : ins 44 50 = some (.goto (-16)) := by decide +kernel
theorem i_44_53 : ins 44 53 = some (.return_) := by decide +kernel
theorem o_45 : mOwn 45 = 4 := rfl
theorem i_45_0 : ins 45 0 = some (.iload_n 0) := by decide +kernel
theorem i_45_1 : ins 45 1 = some (.ifCond .lt 13) := by decide +kernel
theorem i_45_4 : ins 45 4 = some (.iload_n 0) := by decide +kernel
theorem i_45_5 : ins 45 5 = some (.bipush 8) := by decide +kernel
theorem i_45_7 : ins 45 7 = some (.if_icmp .ge 7) := by decide +kernel
theorem i_45_10 : ins 45 10 = some (.iconst 1) := by decide +kernel
theorem i_45_11 : ins 45 11 = some (.goto 4) := by decide +kernel
theorem i_45_14 : ins 45 14 = some (.iconst 0) := by decide +kernel
theorem i_45_15 : ins 45 15 = some (.ireturn) := by decide +kernel
theorem o_46 : mOwn 46 = 4 := rfl
theorem i_46_0 : ins 46 0 = some (.iload_n 0) := by decide +kernel
theorem i_46_1 : ins 46 1 = some (.ifCond .lt 12) := by decide +kernel
theorem i_46_4 : ins 46 4 = some (.iload_n 0) := by decide +kernel
theorem i_46_5 : ins 46 5 = some (.iconst 2) := by decide +kernel
theorem i_46_6 : ins 46 6 = some (.if_icmp .gt 7) := by decide +kernel
theorem i_46_9 : ins 46 9 = some (.iconst 1) := by decide +kernel
theorem i_46_10 : ins 46 10 = some (.goto 4) := by decide +kernel
theorem i_46_13 : ins 46 13 = some (.iconst 0) := by decide +kernel
theorem i_46_14 : ins 46 14 = some (.ireturn) := by decide +kernel
theorem o_47 : mOwn 47 = 4 := rfl
theorem i_47_0 : ins 47 0 = some (.aload_n 0) := by decide +kernel
theorem i_47_1 : ins 47 1 = some (.getfield 18) := by decide +kernel
theorem i_47_4 : ins 47 4 = some (.iload_n 1) := by decide +kernel
theorem i_47_5 : ins 47 5 = some (.iaload) := by decide +kernel
theorem i_47_6 : ins 47 6 = some (.iconst (-1)) := by decide +kernel
theorem i_47_7 : ins 47 7 = some (.if_icmp .ne 7) := by decide +kernel
theorem i_47_10 : ins 47 10 = some (.iconst 1) := by decide +kernel
theorem i_47_11 : ins 47 11 = some (.goto 4) := by decide +kernel
theorem i_47_14 : ins 47 14 = some (.iconst 0) := by decide +kernel
theorem i_47_15 : ins 47 15 = some (.ireturn) := by decide +kernel
theorem o_48 : mOwn 48 = 4 := rfl
theorem i_48_0 : ins 48 0 = some (.aload_n 0) := by decide +kernel
theorem i_48_1 : ins 48 1 = some (.getfield 14) := by decide +kernel
theorem i_48_4 : ins 48 4 = some (.iload_n 1) := by decide +kernel
theorem i_48_5 : ins 48 5 = some (.iaload) := by decide +kernel
theorem i_48_6 : ins 48 6 = some (.ireturn) := by decide +kernel
theorem o_49 : mOwn 49 = 4 := rfl
theorem i_49_0 : ins 49 0 = some (.aload_n 0) := by decide +kernel
theorem i_49_1 : ins 49 1 = some (.getfield 11) := by decide +kernel
theorem i_49_4 : ins 49 4 = some (.iload_n 1) := by decide +kernel
theorem i_49_5 : ins 49 5 = some (.aaload) := by decide +kernel
theorem i_49_6 : ins 49 6 = some (.iload_n 2) := by decide +kernel
theorem i_49_7 : ins 49 7 = some (.iaload) := by decide +kernel
theorem i_49_8 : ins 49 8 = some (.ireturn) := by decide +kernel
theorem o_50 : mOwn 50 = 4 := rfl
theorem i_50_0 : ins 50 0 = some (.iload_n 2) := by decide +kernel
theorem i_50_1 : ins 50 1 = some (.ifCond .lt 33) := by decide +kernel
theorem i_50_4 : ins 50 4 = some (.iload_n 3) := by decide +kernel
theorem i_50_5 : ins 50 5 = some (.ifCond .lt 29) := by decide +kernel
theorem i_50_8 : ins 50 8 = some (.iload_n 2) := by decide +kernel
theorem i_50_9 : ins 50 9 = some (.aload_n 0) := by decide +kernel
theorem i_50_10 : ins 50 10 = some (.getfield 18) := by decide +kernel
theorem i_50_13 : ins 50 13 = some (.iload_n 1) := by decide +kernel
theorem i_50_14 : ins 50 14 = some (.iaload) := by decide +kernel
theorem i_50_15 : ins 50 15 = some (.if_icmp .gt 19) := by decide +kernel
theorem i_50_18 : ins 50 18 = some (.iload_n 3) := by decide +kernel
theorem i_50_19 : ins 50 19 = some (.aload_n 0) := by decide +kernel
theorem i_50_20 : ins 50 20 = some (.getfield 18) := by decide +kernel
theorem i_50_23 : ins 50 23 = some (.iload_n 1) := by decide +kernel
theorem i_50_24 : ins 50 24 = some (.iaload) := by decide +kernel
theorem i_50_25 : ins 50 25 = some (.iload_n 2) := by decide +kernel
theorem i_50_26 : ins 50 26 = some (.isub) := by decide +kernel
theorem i_50_27 : ins 50 27 = some (.if_icmp .gt 7) := by decide +kernel
theorem i_50_30 : ins 50 30 = some (.iconst 1) := by decide +kernel
theorem i_50_31 : ins 50 31 = some (.goto 4) := by decide +kernel
theorem i_50_34 : ins 50 34 = some (.iconst 0) := by decide +kernel
theorem i_50_35 : ins 50 35 = some (.ireturn) := by decide +kernel
theorem o_51 : mOwn 51 = 4 := rfl
theorem i_51_0 : ins 51 0 = some (.aload_n 0) := by decide +kernel
theorem i_51_1 : ins 51 1 = some (.getfield 14) := by decide +kernel
theorem i_51_4 : ins 51 4 = some (.iload_n 1) := by decide +kernel
theorem i_51_5 : ins 51 5 = some (.iload_n 2) := by decide +kernel
theorem i_51_6 : ins 51 6 = some (.iastore) := by decide +kernel
theorem i_51_7 : ins 51 7 = some (.aload_n 0) := by decide +kernel
theorem i_51_8 : ins 51 8 = some (.getfield 18) := by decide +kernel
theorem i_51_11 : ins 51 11 = some (.iload_n 1) := by decide +kernel
theorem i_51_12 : ins 51 12 = some (.iload_n 3) := by decide +kernel
theorem i_51_13 : ins 51 13 = some (.iastore) := by decide +kernel
theorem i_51_14 : ins 51 14 = some (.iconst 0) := by decide +kernel
theorem i_51_15 : ins 51 15 = some (.istore 4) := by decide +kernel
theorem i_51_17 : ins 51 17 = some (.iload 4) := by decide +kernel
theorem i_51_19 : ins 51 19 = some (.iload_n 3) := by decide +kernel
theorem i_51_20 : ins 51 20 = some (.if_icmp .ge 19) := by decide +kernel
theorem i_51_23 : ins 51 23 = some (.aload_n 0) := by decide +kernel
theorem i_51_24 : ins 51 24 = some (.getfield 11) := by decide +kernel
theorem i_51_27 : ins 51 27 = some (.iload_n 1) := by decide +kernel
theorem i_51_28 : ins 51 28 = some (.aaload) := by decide +kernel
theorem i_51_29 : ins 51 29 = some (.iload 4) := by decide +kernel
theorem i_51_31 : ins 51 31 = some (.iconst 0) := by decide +kernel
theorem i_51_32 : ins 51 32 = some (.iastore) := by decide +kernel
theorem i_51_33 : ins 51 33 = some (.iinc 4 1) := by decide +kernel
theorem i_51_36 : ins 51 36 = some (.goto (-19)) := by decide +kernel
theorem i_51_39 : ins 51 39 = some (.return_) := by decide +kernel
theorem o_52 : mOwn 52 = 4 := rfl
theorem i_52_0 : ins 52 0 = some (.iload_n 3) := by decide +kernel
theorem i_52_1 : ins 52 1 = some (.istore 4) := by decide +kernel
theorem i_52_3 : ins 52 3 = some (.aload_n 0) := by decide +kernel
theorem i_52_4 : ins 52 4 = some (.getfield 14) := by decide +kernel
theorem i_52_7 : ins 52 7 = some (.iload_n 1) := by decide +kernel
theorem i_52_8 : ins 52 8 = some (.iaload) := by decide +kernel
theorem i_52_9 : ins 52 9 = some (.ifCond .ne 10) := by decide +kernel
theorem i_52_12 : ins 52 12 = some (.iload_n 3) := by decide +kernel
theorem i_52_13 : ins 52 13 = some (.i2b) := by decide +kernel
theorem i_52_14 : ins 52 14 = some (.istore 4) := by decide +kernel
theorem i_52_16 : ins 52 16 = some (.goto 17) := by decide +kernel
theorem i_52_19 : ins 52 19 = some (.aload_n 0) := by decide +kernel
theorem i_52_20 : ins 52 20 = some (.getfield 14) := by decide +kernel
theorem i_52_23 : ins 52 23 = some (.iload_n 1) := by decide +kernel
theorem i_52_24 : ins 52 24 = some (.iaload) := by decide +kernel
theorem i_52_25 : ins 52 25 = some (.iconst 1) := by decide +kernel
theorem i_52_26 : ins 52 26 = some (.if_icmp .ne 7) := by decide +kernel
theorem i_52_29 : ins 52 29 = some (.iload_n 3) := by decide +kernel
theorem i_52_30 : ins 52 30 = some (.i2s) := by decide +kernel
theorem i_52_31 : ins 52 31 = some (.istore 4) := by decide +kernel
theorem i_52_33 : ins 52 33 = some (.aload_n 0) := by decide +kernel
theorem i_52_34 : ins 52 34 = some (.getfield 11) := by decide +kernel
theorem i_52_37 : ins 52 37 = some (.iload_n 1) := by decide +kernel
theorem i_52_38 : ins 52 38 = some (.aaload) := by decide +kernel
theorem i_52_39 : ins 52 39 = some (.iload_n 2) := by decide +kernel
theorem i_52_40 : ins 52 40 = some (.iload 4) := by decide +kernel
theorem i_52_42 : ins 52 42 = some (.iastore) := by decide +kernel
theorem i_52_43 : ins 52 43 = some (.iload 4) := by decide +kernel
theorem i_52_45 : ins 52 45 = some (.ireturn) := by decide +kernel
theorem o_53 : mOwn 53 = 4 := rfl
theorem i_53_0 : ins 53 0 = some (.aload_n 0) := by decide +kernel
theorem i_53_1 : ins 53 1 = some (.getfield 11) := by decide +kernel
theorem i_53_4 : ins 53 4 = some (.iload_n 1) := by decide +kernel
theorem i_53_5 : ins 53 5 = some (.aaload) := by decide +kernel
theorem i_53_6 : ins 53 6 = some (.iload_n 2) := by decide +kernel
theorem i_53_7 : ins 53 7 = some (.aload_n 0) := by decide +kernel
theorem i_53_8 : ins 53 8 = some (.getfield 11) := by decide +kernel
theorem i_53_11 : ins 53 11 = some (.iload_n 3) := by decide +kernel
theorem i_53_12 : ins 53 12 = some (.aaload) := by decide +kernel
theorem i_53_13 : ins 53 13 = some (.iload 4) := by decide +kernel
theorem i_53_15 : ins 53 15 = some (.iload 5) := by decide +kernel
theorem i_53_17 : ins 53 17 = some (.invokestatic 21) := by decide +kernel
theorem i_53_20 : ins 53 20 = some (.return_) := by decide +kernel
theorem o_54 : mOwn 54 = 4 := rfl
theorem i_54_0 : ins 54 0 = some (.aload_n 0) := by decide +kernel
theorem i_54_1 : ins 54 1 = some (.getfield 18) := by decide +kernel
theorem i_54_4 : ins 54 4 = some (.iload_n 1) := by decide +kernel
theorem i_54_5 : ins 54 5 = some (.iaload) := by decide +kernel
theorem i_54_6 : ins 54 6 = some (.istore_n 2) := by decide +kernel
theorem i_54_7 : ins 54 7 = some (.aload_n 0) := by decide +kernel
theorem i_54_8 : ins 54 8 = some (.getfield 18) := by decide +kernel
theorem i_54_11 : ins 54 11 = some (.iload_n 1) := by decide +kernel
theorem i_54_12 : ins 54 12 = some (.iconst (-1)) := by decide +kernel
theorem i_54_13 : ins 54 13 = some (.iastore) := by decide +kernel
theorem i_54_14 : ins 54 14 = some (.iload_n 2) := by decide +kernel
theorem i_54_15 : ins 54 15 = some (.ireturn) := by decide +kernel
theorem o_55 : mOwn 55 = 4 := rfl
theorem i_55_0 : ins 55 0 = some (.iconst 0) := by decide +kernel
theorem i_55_1 : ins 55 1 = some (.istore_n 1) := by decide +kernel
theorem i_55_2 : ins 55 2 = some (.iconst 0) := by decide +kernel
theorem i_55_3 : ins 55 3 = some (.istore_n 2) := by decide +kernel
theorem i_55_4 : ins 55 4 = some (.iload_n 2) := by decide +kernel
theorem i_55_5 : ins 55 5 = some (.bipush 8) := by decide +kernel
theorem i_55_7 : ins 55 7 = some (.if_icmp .ge 22) := by decide +kernel
theorem i_55_10 : ins 55 10 = some (.aload_n 0) := by decide +kernel
theorem i_55_11 : ins 55 11 = some (.getfield 18) := by decide +kernel
theorem i_55_14 : ins 55 14 = some (.iload_n 2) := by decide +kernel
theorem i_55_15 : ins 55 15 = some (.iaload) := by decide +kernel
theorem i_55_16 : ins 55 16 = some (.iconst (-1)) := by decide +kernel
theorem i_55_17 : ins 55 17 = some (.if_icmp .eq 6) := by decide +kernel
theorem i_55_20 : ins 55 20 = some (.iinc 1 1) := by decide +kernel
theorem i_55_23 : ins 55 23 = some (.iinc 2 1) := by decide +kernel
theorem i_55_26 : ins 55 26 = some (.goto (-22)) := by decide +kernel
theorem i_55_29 : ins 55 29 = some (.iload_n 1) := by decide +kernel
theorem i_55_30 : ins 55 30 = some (.ireturn) := by decide +kernel
theorem o_56 : mOwn 56 = 5 := rfl
theorem i_56_0 : ins 56 0 = some (.aload_n 0) := by decide +kernel
theorem i_56_1 : ins 56 1 = some (.invokespecial 3) := by decide +kernel
theorem i_56_4 : ins 56 4 = some (.aload_n 0) := by decide +kernel
theorem i_56_5 : ins 56 5 = some (.bipush 28) := by decide +kernel
theorem i_56_7 : ins 56 7 = some (.newarray .int) := by decide +kernel
theorem i_56_9 : ins 56 9 = some (.putfield 9) := by decide +kernel
theorem i_56_12 : ins 56 12 = some (.aload_n 0) := by decide +kernel
theorem i_56_13 : ins 56 13 = some (.bipush 28) := by decide +kernel
theorem i_56_15 : ins 56 15 = some (.newarray .int) := by decide +kernel
theorem i_56_17 : ins 56 17 = some (.putfield 15) := by decide +kernel
theorem i_56_20 : ins 56 20 = some (.aload_n 0) := by decide +kernel
theorem i_56_21 : ins 56 21 = some (.bipush 16) := by decide +kernel
theorem i_56_23 : ins 56 23 = some (.newarray .int) := by decide +kernel
theorem i_56_25 : ins 56 25 = some (.putfield 18) := by decide +kernel
theorem i_56_28 : ins 56 28 = some (.aload_n 0) := by decide +kernel
theorem i_56_29 : ins 56 29 = some (.bipush 16) := by decide +kernel
theorem i_56_31 : ins 56 31 = some (.newarray .int) := by decide +kernel
theorem i_56_33 : ins 56 33 = some (.putfield 21) := by decide +kernel
theorem i_56_36 : ins 56 36 = some (.bipush 16) := by decide +kernel
theorem i_56_38 : ins 56 38 = some (.istore_n 1) := by decide +kernel
theorem i_56_39 : ins 56 39 = some (.iload_n 1) := by decide +kernel
theorem i_56_40 : ins 56 40 = some (.aload_n 0) := by decide +kernel
theorem i_56_41 : ins 56 41 = some (.getfield 9) := by decide +kernel
theorem i_56_44 : ins 56 44 = some (.arraylength) := by decide +kernel
theorem i_56_45 : ins 56 45 = some (.if_icmp .ge 24) := by decide +kernel
theorem i_56_48 : ins 56 48 = some (.aload_n 0) := by decide +kernel
theorem i_56_49 : ins 56 49 = some (.getfield 9) := by decide +kernel
theorem i_56_52 : ins 56 52 = some (.iload_n 1) := by decide +kernel
theorem i_56_53 : ins 56 53 = some (.iconst 1) := by decide +kernel
theorem i_56_54 : ins 56 54 = some (.iastore) := by decide +kernel
theorem i_56_55 : ins 56 55 = some (.aload_n 0) := by decide +kernel
theorem i_56_56 : ins 56 56 = some (.getfield 15) := by decide +kernel
theorem i_56_59 : ins 56 59 = some (.iload_n 1) := by decide +kernel
theorem i_56_60 : ins 56 60 = some (.bipush 99) := by decide +kernel
theorem i_56_62 : ins 56 62 = some (.iastore) := by decide +kernel
theorem i_56_63 : ins 56 63 = some (.iinc 1 1) := by decide +kernel
theorem i_56_66 : ins 56 66 = some (.goto (-27)) := by decide +kernel
theorem i_56_69 : ins 56 69 = some (.return_) := by decide +kernel
theorem o_57 : mOwn 57 = 5 := rfl
theorem i_57_0 : ins 57 0 = some (.aload_n 0) := by decide +kernel
theorem i_57_1 : ins 57 1 = some (.iconst 0) := by decide +kernel
theorem i_57_2 : ins 57 2 = some (.putfield 24) := by decide +kernel
theorem i_57_5 : ins 57 5 = some (.aload_n 0) := by decide +kernel
theorem i_57_6 : ins 57 6 = some (.iconst 0) := by decide +kernel
theorem i_57_7 : ins 57 7 = some (.putfield 28) := by decide +kernel
theorem i_57_10 : ins 57 10 = some (.aload_n 0) := by decide +kernel
theorem i_57_11 : ins 57 11 = some (.iconst 0) := by decide +kernel
theorem i_57_12 : ins 57 12 = some (.putfield 31) := by decide +kernel
theorem i_57_15 : ins 57 15 = some (.aload_n 0) := by decide +kernel
theorem i_57_16 : ins 57 16 = some (.iconst 0) := by decide +kernel
theorem i_57_17 : ins 57 17 = some (.putfield 34) := by decide +kernel
theorem i_57_20 : ins 57 20 = some (.return_) := by decide +kernel
theorem o_58 : mOwn 58 = 5 := rfl
theorem i_58_0 : ins 58 0 = some (.aload_n 0) := by decide +kernel
theorem i_58_1 : ins 58 1 = some (.getfield 34) := by decide +kernel
theorem i_58_4 : ins 58 4 = some (.bipush 16) := by decide +kernel
theorem i_58_6 : ins 58 6 = some (.if_icmp .ge 54) := by decide +kernel
theorem i_58_9 : ins 58 9 = some (.aload_n 0) := by decide +kernel
theorem i_58_10 : ins 58 10 = some (.getfield 9) := by decide +kernel
theorem i_58_13 : ins 58 13 = some (.aload_n 0) := by decide +kernel
theorem i_58_14 : ins 58 14 = some (.getfield 34) := by decide +kernel
theorem i_58_17 : ins 58 17 = some (.iload_n 1) := by decide +kernel
theorem i_58_18 : ins 58 18 = some (.iastore) := by decide +kernel
theorem i_58_19 : ins 58 19 = some (.aload_n 0) := by decide +kernel
theorem i_58_20 : ins 58 20 = some (.getfield 15) := by decide +kernel
theorem i_58_23 : ins 58 23 = some (.aload_n 0) := by decide +kernel
theorem i_58_24 : ins 58 24 = some (.getfield 34) := by decide +kernel
theorem i_58_27 : ins 58 27 = some (.iload_n 2) := by decide +kernel
theorem i_58_28 : ins 58 28 = some (.iastore) := by decide +kernel
theorem i_58_29 : ins 58 29 = some (.aload_n 0) := by decide +kernel
theorem i_58_30 : ins 58 30 = some (.getfield 18) := by decide +kernel
theorem i_58_33 : ins 58 33 = some (.aload_n 0) := by decide +kernel
theorem i_58_34 : ins 58 34 = some (.getfield 34) := by decide +kernel
theorem i_58_37 : ins 58 37 = some (.iload_n 3) := by decide +kernel
theorem i_58_38 : ins 58 38 = some (.iastore) := by decide +kernel
theorem i_58_39 : ins 58 39 = some (.aload_n 0) := by decide +kernel
theorem i_58_40 : ins 58 40 = some (.getfield 21) := by decide +kernel
theorem i_58_43 : ins 58 43 = some (.aload_n 0) := by decide +kernel
theorem i_58_44 : ins 58 44 = some (.getfield 34) := by decide +kernel
theorem i_58_47 : ins 58 47 = some (.iload 4) := by decide +kernel
theorem i_58_49 : ins 58 49 = some (.iastore) := by decide +kernel
theorem i_58_50 : ins 58 50 = some (.aload_n 0) := by decide +kernel
theorem i_58_51 : ins 58 51 = some (.dup) := by decide +kernel
theorem i_58_52 : ins 58 52 = some (.getfield 34) := by decide +kernel
theorem i_58_55 : ins 58 55 = some (.iconst 1) := by decide +kernel
theorem i_58_56 : ins 58 56 = some (.iadd) := by decide +kernel
theorem i_58_57 : ins 58 57 = some (.putfield 34) := by decide +kernel
theorem i_58_60 : ins 58 60 = some (.return_) := by decide +kernel
theorem o_59 : mOwn 59 = 5 := rfl
theorem i_59_0 : ins 59 0 = some (.aload_n 1) := by decide +kernel
theorem i_59_1 : ins 59 1 = some (.getfield 9) := by decide +kernel
theorem i_59_4 : ins 59 4 = some (.iconst 0) := by decide +kernel
theorem i_59_5 : ins 59 5 = some (.aload_n 0) := by decide +kernel
theorem i_59_6 : ins 59 6 = some (.getfield 9) := by decide +kernel
theorem i_59_9 : ins 59 9 = some (.iconst 0) := by decide +kernel
theorem i_59_10 : ins 59 10 = some (.bipush 16) := by decide +kernel
theorem i_59_12 : ins 59 12 = some (.invokestatic 37) := by decide +kernel
theorem i_59_15 : ins 59 15 = some (.aload_n 1) := by decide +kernel
theorem i_59_16 : ins 59 16 = some (.getfield 15) := by decide +kernel
theorem i_59_19 : ins 59 19 = some (.iconst 0) := by decide +kernel
theorem i_59_20 : ins 59 20 = some (.aload_n 0) := by decide +kernel
theorem i_59_21 : ins 59 21 = some (.getfield 15) := by decide +kernel
theorem i_59_24 : ins 59 24 = some (.iconst 0) := by decide +kernel
theorem i_59_25 : ins 59 25 = some (.bipush 16) := by decide +kernel
theorem i_59_27 : ins 59 27 = some (.invokestatic 37) := by decide +kernel
theorem i_59_30 : ins 59 30 = some (.aload_n 1) := by decide +kernel
theorem i_59_31 : ins 59 31 = some (.getfield 18) := by decide +kernel
theorem i_59_34 : ins 59 34 = some (.iconst 0) := by decide +kernel
theorem i_59_35 : ins 59 35 = some (.aload_n 0) := by decide +kernel
theorem i_59_36 : ins 59 36 = some (.getfield 18) := by decide +kernel
theorem i_59_39 : ins 59 39 = some (.iconst 0) := by decide +kernel
theorem i_59_40 : ins 59 40 = some (.bipush 16) := by decide +kernel
theorem i_59_42 : ins 59 42 = some (.invokestatic 37) := by decide +kernel
theorem i_59_45 : ins 59 45 = some (.aload_n 1) := by decide +kernel
theorem i_59_46 : ins 59 46 = some (.getfield 21) := by decide +kernel
theorem i_59_49 : ins 59 49 = some (.iconst 0) := by decide +kernel
theorem i_59_50 : ins 59 50 = some (.aload_n 0) := by decide +kernel
theorem i_59_51 : ins 59 51 = some (.getfield 21) := by decide +kernel
theorem i_59_54 : ins 59 54 = some (.iconst 0) := by decide +kernel
theorem i_59_55 : ins 59 55 = some (.bipush 16) := by decide +kernel
theorem i_59_57 : ins 59 57 = some (.invokestatic 37) := by decide +kernel
theorem i_59_60 : ins 59 60 = some (.aload_n 0) := by decide +kernel
theorem i_59_61 : ins 59 61 = some (.aload_n 1) := by decide +kernel
theorem i_59_62 : ins 59 62 = some (.getfield 24) := by decide +kernel
theorem i_59_65 : ins 59 65 = some (.putfield 24) := by decide +kernel
theorem i_59_68 : ins 59 68 = some (.aload_n 0) := by decide +kernel
theorem i_59_69 : ins 59 69 = some (.aload_n 1) := by decide +kernel
theorem i_59_70 : ins 59 70 = some (.getfield 28) := by decide +kernel
theorem i_59_73 : ins 59 73 = some (.putfield 28) := by decide +kernel
theorem i_59_76 : ins 59 76 = some (.aload_n 0) := by decide +kernel
theorem i_59_77 : ins 59 77 = some (.aload_n 1) := by decide +kernel
theorem i_59_78 : ins 59 78 = some (.getfield 31) := by decide +kernel
theorem i_59_81 : ins 59 81 = some (.putfield 31) := by decide +kernel
theorem i_59_84 : ins 59 84 = some (.aload_n 0) := by decide +kernel
theorem i_59_85 : ins 59 85 = some (.aload_n 1) := by decide +kernel
theorem i_59_86 : ins 59 86 = some (.getfield 34) := by decide +kernel
theorem i_59_89 : ins 59 89 = some (.putfield 34) := by decide +kernel
theorem i_59_92 : ins 59 92 = some (.return_) := by decide +kernel
theorem o_60 : mOwn 60 = 6 := rfl
theorem i_60_0 : ins 60 0 = some (.aload_n 0) := by decide +kernel
theorem i_60_1 : ins 60 1 = some (.invokespecial 3) := by decide +kernel
theorem i_60_4 : ins 60 4 = some (.aload_n 0) := by decide +kernel
theorem i_60_5 : ins 60 5 = some (.aload_n 1) := by decide +kernel
theorem i_60_6 : ins 60 6 = some (.putfield 9) := by decide +kernel
theorem i_60_9 : ins 60 9 = some (.aload_n 0) := by decide +kernel
theorem i_60_10 : ins 60 10 = some (.iload_n 2) := by decide +kernel
theorem i_60_11 : ins 60 11 = some (.newarray .int) := by decide +kernel
theorem i_60_13 : ins 60 13 = some (.putfield 15) := by decide +kernel
theorem i_60_16 : ins 60 16 = some (.aload_n 0) := by decide +kernel
theorem i_60_17 : ins 60 17 = some (.iload_n 2) := by decide +kernel
theorem i_60_18 : ins 60 18 = some (.newarray .int) := by decide +kernel
theorem i_60_20 : ins 60 20 = some (.putfield 19) := by decide +kernel
theorem i_60_23 : ins 60 23 = some (.aload_n 0) := by decide +kernel
theorem i_60_24 : ins 60 24 = some (.iload_n 2) := by decide +kernel
theorem i_60_25 : ins 60 25 = some (.newarray .int) := by decide +kernel
theorem i_60_27 : ins 60 27 = some (.putfield 22) := by decide +kernel
theorem i_60_30 : ins 60 30 = some (.aload_n 0) := by decide +kernel
theorem i_60_31 : ins 60 31 = some (.iload_n 2) := by decide +kernel
theorem i_60_32 : ins 60 32 = some (.newarray .int) := by decide +kernel
theorem i_60_34 : ins 60 34 = some (.putfield 25) := by decide +kernel
theorem i_60_37 : ins 60 37 = some (.aload_n 0) := by decide +kernel
theorem i_60_38 : ins 60 38 = some (.iload_n 2) := by decide +kernel
theorem i_60_39 : ins 60 39 = some (.newarray .int) := by decide +kernel
theorem i_60_41 : ins 60 41 = some (.putfield 28) := by decide +kernel
theorem i_60_44 : ins 60 44 = some (.return_) := by decide +kernel
theorem o_61 : mOwn 61 = 6 := rfl
theorem i_61_0 : ins 61 0 = some (.aload_n 0) := by decide +kernel
theorem i_61_1 : ins 61 1 = some (.iconst 0) := by decide +kernel
theorem i_61_2 : ins 61 2 = some (.putfield 31) := by decide +kernel
theorem i_61_5 : ins 61 5 = some (.aload_n 0) := by decide +kernel
theorem i_61_6 : ins 61 6 = some (.aload_n 0) := by decide +kernel
theorem i_61_7 : ins 61 7 = some (.getfield 9) := by decide +kernel
theorem i_61_10 : ins 61 10 = some (.getfield 35) := by decide +kernel
theorem i_61_13 : ins 61 13 = some (.putfield 40) := by decide +kernel
theorem i_61_16 : ins 61 16 = some (.aload_n 0) := by decide +kernel
theorem i_61_17 : ins 61 17 = some (.aload_n 0) := by decide +kernel
theorem i_61_18 : ins 61 18 = some (.getfield 9) := by decide +kernel
theorem i_61_21 : ins 61 21 = some (.getfield 41) := by decide +kernel
theorem i_61_24 : ins 61 24 = some (.putfield 44) := by decide +kernel
theorem i_61_27 : ins 61 27 = some (.aload_n 0) := by decide +kernel
theorem i_61_28 : ins 61 28 = some (.iconst 0) := by decide +kernel
theorem i_61_29 : ins 61 29 = some (.putfield 45) := by decide +kernel
theorem i_61_32 : ins 61 32 = some (.aload_n 0) := by decide +kernel
theorem i_61_33 : ins 61 33 = some (.aload_n 0) := by decide +kernel
theorem i_61_34 : ins 61 34 = some (.getfield 9) := by decide +kernel
theorem i_61_37 : ins 61 37 = some (.getfield 48) := by decide +kernel
theorem i_61_40 : ins 61 40 = some (.putfield 51) := by decide +kernel
theorem i_61_43 : ins 61 43 = some (.iconst 0) := by decide +kernel
theorem i_61_44 : ins 61 44 = some (.istore_n 1) := by decide +kernel
theorem i_61_45 : ins 61 45 = some (.iload_n 1) := by decide +kernel
theorem i_61_46 : ins 61 46 = some (.aload_n 0) := by decide +kernel
theorem i_61_47 : ins 61 47 = some (.getfield 9) := by decide +kernel
theorem i_61_50 : ins 61 50 = some (.getfield 54) := by decide +kernel
theorem i_61_53 : ins 61 53 = some (.if_icmp .ge 61) := by decide +kernel
theorem i_61_56 : ins 61 56 = some (.aload_n 0) := by decide +kernel
theorem i_61_57 : ins 61 57 = some (.getfield 22) := by decide +kernel
theorem i_61_60 : ins 61 60 = some (.iload_n 1) := by decide +kernel
theorem i_61_61 : ins 61 61 = some (.iconst 0) := by decide +kernel
theorem i_61_62 : ins 61 62 = some (.iastore) := by decide +kernel
theorem i_61_63 : ins 61 63 = some (.aload_n 0) := by decide +kernel
theorem i_61_64 : ins 61 64 = some (.getfield 25) := by decide +kernel
theorem i_61_67 : ins 61 67 = some (.iload_n 1) := by decide +kernel
theorem i_61_68 : ins 61 68 = some (.iconst 0) := by decide +kernel
theorem i_61_69 : ins 61 69 = some (.iastore) := by decide +kernel
theorem i_61_70 : ins 61 70 = some (.aload_n 0) := by decide +kernel
theorem i_61_71 : ins 61 71 = some (.getfield 19) := by decide +kernel
theorem i_61_74 : ins 61 74 = some (.iload_n 1) := by decide +kernel
theorem i_61_75 : ins 61 75 = some (.aload_n 0) := by decide +kernel
theorem i_61_76 : ins 61 76 = some (.getfield 9) := by decide +kernel
theorem i_61_79 : ins 61 79 = some (.getfield 57) := by decide +kernel
theorem i_61_82 : ins 61 82 = some (.iload_n 1) := by decide +kernel
theorem i_61_83 : ins 61 83 = some (.iaload) := by decide +kernel
theorem i_61_84 : ins 61 84 = some (.iastore) := by decide +kernel
theorem i_61_85 : ins 61 85 = some (.aload_n 0) := by decide +kernel
theorem i_61_86 : ins 61 86 = some (.getfield 28) := by decide +kernel
theorem i_61_89 : ins 61 89 = some (.iload_n 1) := by decide +kernel
theorem i_61_90 : ins 61 90 = some (.iload_n 1) := by decide +kernel
theorem i_61_91 : ins 61 91 = some (.iastore) := by decide +kernel
theorem i_61_92 : ins 61 92 = some (.iload_n 1) := by decide +kernel
theorem i_61_93 : ins 61 93 = some (.aload_n 0) := by decide +kernel
theorem i_61_94 : ins 61 94 = some (.getfield 9) := by decide +kernel
theorem i_61_97 : ins 61 97 = some (.getfield 48) := by decide +kernel
theorem i_61_100 : ins 61 100 = some (.if_icmp .ge 8) := by decide +kernel
theorem i_61_103 : ins 61 103 = some (.aload_n 0) := by decide +kernel
theorem i_61_104 : ins 61 104 = some (.iload_n 1) := by decide +kernel
theorem i_61_105 : ins 61 105 = some (.invokevirtual 58) := by decide +kernel
theorem i_61_108 : ins 61 108 = some (.iinc 1 1) := by decide +kernel
theorem i_61_111 : ins 61 111 = some (.goto (-66)) := by decide +kernel
theorem i_61_114 : ins 61 114 = some (.return_) := by decide +kernel
theorem o_62 : mOwn 62 = 6 := rfl
theorem i_62_0 : ins 62 0 = some (.aload_n 0) := by decide +kernel
theorem i_62_1 : ins 62 1 = some (.getfield 15) := by decide +kernel
theorem i_62_4 : ins 62 4 = some (.arraylength) := by decide +kernel
theorem i_62_5 : ins 62 5 = some (.aload_n 1) := by decide +kernel
theorem i_62_6 : ins 62 6 = some (.getfield 15) := by decide +kernel
theorem i_62_9 : ins 62 9 = some (.arraylength) := by decide +kernel
theorem i_62_10 : ins 62 10 = some (.invokestatic 62) := by decide +kernel
theorem i_62_13 : ins 62 13 = some (.istore_n 2) := by decide +kernel
theorem i_62_14 : ins 62 14 = some (.aload_n 1) := by decide +kernel
theorem i_62_15 : ins 62 15 = some (.getfield 15) := by decide +kernel
theorem i_62_18 : ins 62 18 = some (.iconst 0) := by decide +kernel
theorem i_62_19 : ins 62 19 = some (.aload_n 0) := by decide +kernel
theorem i_62_20 : ins 62 20 = some (.getfield 15) := by decide +kernel
theorem i_62_23 : ins 62 23 = some (.iconst 0) := by decide +kernel
theorem i_62_24 : ins 62 24 = some (.iload_n 2) := by decide +kernel
theorem i_62_25 : ins 62 25 = some (.invokestatic 68) := by decide +kernel
theorem i_62_28 : ins 62 28 = some (.aload_n 1) := by decide +kernel
theorem i_62_29 : ins 62 29 = some (.getfield 19) := by decide +kernel
theorem i_62_32 : ins 62 32 = some (.iconst 0) := by decide +kernel
theorem i_62_33 : ins 62 33 = some (.aload_n 0) := by decide +kernel
theorem i_62_34 : ins 62 34 = some (.getfield 19) := by decide +kernel
theorem i_62_37 : ins 62 37 = some (.iconst 0) := by decide +kernel
theorem i_62_38 : ins 62 38 = some (.iload_n 2) := by decide +kernel
theorem i_62_39 : ins 62 39 = some (.invokestatic 68) := by decide +kernel
theorem i_62_42 : ins 62 42 = some (.aload_n 1) := by decide +kernel
theorem i_62_43 : ins 62 43 = some (.getfield 22) := by decide +kernel
theorem i_62_46 : ins 62 46 = some (.iconst 0) := by decide +kernel
theorem i_62_47 : ins 62 47 = some (.aload_n 0) := by decide +kernel
theorem i_62_48 : ins 62 48 = some (.getfield 22) := by decide +kernel
theorem i_62_51 : ins 62 51 = some (.iconst 0) := by decide +kernel
theorem i_62_52 : ins 62 52 = some (.iload_n 2) := by decide +kernel
theorem i_62_53 : ins 62 53 = some (.invokestatic 68) := by decide +kernel
theorem i_62_56 : ins 62 56 = some (.aload_n 1) := by decide +kernel
theorem i_62_57 : ins 62 57 = some (.getfield 25) := by decide +kernel
theorem i_62_60 : ins 62 60 = some (.iconst 0) := by decide +kernel
theorem i_62_61 : ins 62 61 = some (.aload_n 0) := by decide +kernel
theorem i_62_62 : ins 62 62 = some (.getfield 25) := by decide +kernel
theorem i_62_65 : ins 62 65 = some (.iconst 0) := by decide +kernel
theorem i_62_66 : ins 62 66 = some (.iload_n 2) := by decide +kernel
theorem i_62_67 : ins 62 67 = some (.invokestatic 68) := by decide +kernel
theorem i_62_70 : ins 62 70 = some (.aload_n 1) := by decide +kernel
theorem i_62_71 : ins 62 71 = some (.getfield 28) := by decide +kernel
theorem i_62_74 : ins 62 74 = some (.iconst 0) := by decide +kernel
theorem i_62_75 : ins 62 75 = some (.aload_n 0) := by decide +kernel
theorem i_62_76 : ins 62 76 = some (.getfield 28) := by decide +kernel
theorem i_62_79 : ins 62 79 = some (.iconst 0) := by decide +kernel
theorem i_62_80 : ins 62 80 = some (.iload_n 2) := by decide +kernel
theorem i_62_81 : ins 62 81 = some (.invokestatic 68) := by decide +kernel
theorem i_62_84 : ins 62 84 = some (.aload_n 0) := by decide +kernel
theorem i_62_85 : ins 62 85 = some (.aload_n 1) := by decide +kernel
theorem i_62_86 : ins 62 86 = some (.getfield 31) := by decide +kernel
theorem i_62_89 : ins 62 89 = some (.putfield 31) := by decide +kernel
theorem i_62_92 : ins 62 92 = some (.aload_n 0) := by decide +kernel
theorem i_62_93 : ins 62 93 = some (.aload_n 1) := by decide +kernel
theorem i_62_94 : ins 62 94 = some (.getfield 40) := by decide +kernel
theorem i_62_97 : ins 62 97 = some (.putfield 40) := by decide +kernel
theorem i_62_100 : ins 62 100 = some (.aload_n 0) := by decide +kernel
theorem i_62_101 : ins 62 101 = some (.aload_n 1) := by decide +kernel
theorem i_62_102 : ins 62 102 = some (.getfield 44) := by decide +kernel
theorem i_62_105 : ins 62 105 = some (.putfield 44) := by decide +kernel
theorem i_62_108 : ins 62 108 = some (.aload_n 0) := by decide +kernel
theorem i_62_109 : ins 62 109 = some (.aload_n 1) := by decide +kernel
theorem i_62_110 : ins 62 110 = some (.getfield 45) := by decide +kernel
theorem i_62_113 : ins 62 113 = some (.putfield 45) := by decide +kernel
theorem i_62_116 : ins 62 116 = some (.aload_n 0) := by decide +kernel
theorem i_62_117 : ins 62 117 = some (.aload_n 1) := by decide +kernel
theorem i_62_118 : ins 62 118 = some (.getfield 51) := by decide +kernel
theorem i_62_121 : ins 62 121 = some (.putfield 51) := by decide +kernel
theorem i_62_124 : ins 62 124 = some (.return_) := by decide +kernel
theorem o_63 : mOwn 63 = 6 := rfl
theorem i_63_0 : ins 63 0 = some (.aload_n 0) := by decide +kernel
theorem i_63_1 : ins 63 1 = some (.getfield 9) := by decide +kernel
theorem i_63_4 : ins 63 4 = some (.getfield 74) := by decide +kernel
theorem i_63_7 : ins 63 7 = some (.iload_n 1) := by decide +kernel
theorem i_63_8 : ins 63 8 = some (.iaload) := by decide +kernel
theorem i_63_9 : ins 63 9 = some (.iconst 4) := by decide +kernel
theorem i_63_10 : ins 63 10 = some (.if_icmp .ne 10) := by decide +kernel
theorem i_63_13 : ins 63 13 = some (.aload_n 0) := by decide +kernel
theorem i_63_14 : ins 63 14 = some (.getfield 40) := by decide +kernel
theorem i_63_17 : ins 63 17 = some (.goto 9) := by decide +kernel
theorem i_63_20 : ins 63 20 = some (.aload_n 0) := by decide +kernel
theorem i_63_21 : ins 63 21 = some (.getfield 19) := by decide +kernel
theorem i_63_24 : ins 63 24 = some (.iload_n 1) := by decide +kernel
theorem i_63_25 : ins 63 25 = some (.iaload) := by decide +kernel
theorem i_63_26 : ins 63 26 = some (.ireturn) := by decide +kernel
theorem o_64 : mOwn 64 = 6 := rfl
theorem i_64_0 : ins 64 0 = some (.aload_n 0) := by decide +kernel
theorem i_64_1 : ins 64 1 = some (.getfield 19) := by decide +kernel
theorem i_64_4 : ins 64 4 = some (.iload_n 1) := by decide +kernel
theorem i_64_5 : ins 64 5 = some (.iload_n 2) := by decide +kernel
theorem i_64_6 : ins 64 6 = some (.iastore) := by decide +kernel
theorem i_64_7 : ins 64 7 = some (.aload_n 0) := by decide +kernel
theorem i_64_8 : ins 64 8 = some (.getfield 28) := by decide +kernel
theorem i_64_11 : ins 64 11 = some (.iload_n 1) := by decide +kernel
theorem i_64_12 : ins 64 12 = some (.iload_n 1) := by decide +kernel
theorem i_64_13 : ins 64 13 = some (.iastore) := by decide +kernel
theorem i_64_14 : ins 64 14 = some (.return_) := by decide +kernel
theorem o_65 : mOwn 65 = 6 := rfl
theorem i_65_0 : ins 65 0 = some (.iload_n 1) := by decide +kernel
theorem i_65_1 : ins 65 1 = some (.ifCond .lt 20) := by decide +kernel
theorem i_65_4 : ins 65 4 = some (.iload_n 1) := by decide +kernel
theorem i_65_5 : ins 65 5 = some (.aload_n 0) := by decide +kernel
theorem i_65_6 : ins 65 6 = some (.getfield 45) := by decide +kernel
theorem i_65_9 : ins 65 9 = some (.if_icmp .ge 12) := by decide +kernel
theorem i_65_12 : ins 65 12 = some (.aload_n 0) := by decide +kernel
theorem i_65_13 : ins 65 13 = some (.getfield 15) := by decide +kernel
theorem i_65_16 : ins 65 16 = some (.iload_n 1) := by decide +kernel
theorem i_65_17 : ins 65 17 = some (.iaload) := by decide +kernel
theorem i_65_18 : ins 65 18 = some (.goto 5) := by decide +kernel
theorem i_65_21 : ins 65 21 = some (.ldc 77) := by decide +kernel
theorem i_65_23 : ins 65 23 = some (.ireturn) := by decide +kernel
theorem o_66 : mOwn 66 = 6 := rfl
theorem i_66_0 : ins 66 0 = some (.iconst 0) := by decide +kernel
theorem i_66_1 : ins 66 1 = some (.istore_n 2) := by decide +kernel
theorem i_66_2 : ins 66 2 = some (.iload_n 2) := by decide +kernel
theorem i_66_3 : ins 66 3 = some (.aload_n 0) := by decide +kernel
theorem i_66_4 : ins 66 4 = some (.getfield 45) := by decide +kernel
theorem i_66_7 : ins 66 7 = some (.if_icmp .ge 21) := by decide +kernel
theorem i_66_10 : ins 66 10 = some (.aload_n 0) := by decide +kernel
theorem i_66_11 : ins 66 11 = some (.getfield 15) := by decide +kernel
theorem i_66_14 : ins 66 14 = some (.iload_n 2) := by decide +kernel
theorem i_66_15 : ins 66 15 = some (.iaload) := by decide +kernel
theorem i_66_16 : ins 66 16 = some (.iload_n 1) := by decide +kernel
theorem i_66_17 : ins 66 17 = some (.if_icmp .ne 5) := by decide +kernel
theorem i_66_20 : ins 66 20 = some (.iload_n 2) := by decide +kernel
theorem i_66_21 : ins 66 21 = some (.ireturn) := by decide +kernel
theorem i_66_22 : ins 66 22 = some (.iinc 2 1) := by decide +kernel
theorem i_66_25 : ins 66 25 = some (.goto (-23)) := by decide +kernel
theorem i_66_28 : ins 66 28 = some (.ldc 77) := by decide +kernel
theorem i_66_30 : ins 66 30 = some (.ireturn) := by decide +kernel
theorem o_67 : mOwn 67 = 6 := rfl
theorem i_67_0 : ins 67 0 = some (.iconst 0) := by decide +kernel
theorem i_67_1 : ins 67 1 = some (.istore_n 2) := by decide +kernel
theorem i_67_2 : ins 67 2 = some (.iconst 0) := by decide +kernel
theorem i_67_3 : ins 67 3 = some (.istore_n 3) := by decide +kernel
theorem i_67_4 : ins 67 4 = some (.iload_n 3) := by decide +kernel
theorem i_67_5 : ins 67 5 = some (.aload_n 0) := by decide +kernel
theorem i_67_6 : ins 67 6 = some (.getfield 9) := by decide +kernel
theorem i_67_9 : ins 67 9 = some (.getfield 54) := by decide +kernel
theorem i_67_12 : ins 67 12 = some (.if_icmp .ge 22) := by decide +kernel
theorem i_67_15 : ins 67 15 = some (.aload_n 0) := by decide +kernel
theorem i_67_16 : ins 67 16 = some (.getfield 22) := by decide +kernel
theorem i_67_19 : ins 67 19 = some (.iload_n 3) := by decide +kernel
theorem i_67_20 : ins 67 20 = some (.iaload) := by decide +kernel
theorem i_67_21 : ins 67 21 = some (.iload_n 1) := by decide +kernel
theorem i_67_22 : ins 67 22 = some (.if_icmp .ne 6) := by decide +kernel
theorem i_67_25 : ins 67 25 = some (.iinc 2 1) := by decide +kernel
theorem i_67_28 : ins 67 28 = some (.iinc 3 1) := by decide +kernel
theorem i_67_31 : ins 67 31 = some (.goto (-27)) := by decide +kernel
theorem i_67_34 : ins 67 34 = some (.iload_n 2) := by decide +kernel
theorem i_67_35 : ins 67 35 = some (.ireturn) := by decide +kernel
theorem o_68 : mOwn 68 = 6 := rfl
theorem i_68_0 : ins 68 0 = some (.aload_n 0) := by decide +kernel
theorem i_68_1 : ins 68 1 = some (.getfield 51) := by decide +kernel
theorem i_68_4 : ins 68 4 = some (.aload_n 0) := by decide +kernel
theorem i_68_5 : ins 68 5 = some (.getfield 9) := by decide +kernel
theorem i_68_8 : ins 68 8 = some (.getfield 54) := by decide +kernel
theorem i_68_11 : ins 68 11 = some (.if_icmp .ge 7) := by decide +kernel
theorem i_68_14 : ins 68 14 = some (.iconst 1) := by decide +kernel
theorem i_68_15 : ins 68 15 = some (.goto 4) := by decide +kernel
theorem i_68_18 : ins 68 18 = some (.iconst 0) := by decide +kernel
theorem i_68_19 : ins 68 19 = some (.ireturn) := by decide +kernel
theorem o_69 : mOwn 69 = 6 := rfl
theorem i_69_0 : ins 69 0 = some (.aload_n 0) := by decide +kernel
theorem i_69_1 : ins 69 1 = some (.getfield 45) := by decide +kernel
theorem i_69_4 : ins 69 4 = some (.ifCond .ne 14) := by decide +kernel
theorem i_69_7 : ins 69 7 = some (.aload_n 0) := by decide +kernel
theorem i_69_8 : ins 69 8 = some (.invokevirtual 78) := by decide +kernel
theorem i_69_11 : ins 69 11 = some (.ifCond .ne 7) := by decide +kernel
theorem i_69_14 : ins 69 14 = some (.iconst 1) := by decide +kernel
theorem i_69_15 : ins 69 15 = some (.goto 4) := by decide +kernel
theorem i_69_18 : ins 69 18 = some (.iconst 0) := by decide +kernel
theorem i_69_19 : ins 69 19 = some (.ireturn) := by decide +kernel
theorem o_70 : mOwn 70 = 6 := rfl
theorem i_70_0 : ins 70 0 = some (.iconst 0) := by decide +kernel
theorem i_70_1 : ins 70 1 = some (.istore_n 2) := by decide +kernel
theorem i_70_2 : ins 70 2 = some (.iload_n 2) := by decide +kernel
theorem i_70_3 : ins 70 3 = some (.aload_n 0) := by decide +kernel
theorem i_70_4 : ins 70 4 = some (.getfield 45) := by decide +kernel
theorem i_70_7 : ins 70 7 = some (.if_icmp .ge 25) := by decide +kernel
theorem i_70_10 : ins 70 10 = some (.aload_n 0) := by decide +kernel
theorem i_70_11 : ins 70 11 = some (.aload_n 0) := by decide +kernel
theorem i_70_12 : ins 70 12 = some (.getfield 15) := by decide +kernel
theorem i_70_15 : ins 70 15 = some (.iload_n 2) := by decide +kernel
theorem i_70_16 : ins 70 16 = some (.iaload) := by decide +kernel
theorem i_70_17 : ins 70 17 = some (.invokevirtual 82) := by decide +kernel
theorem i_70_20 : ins 70 20 = some (.iload_n 1) := by decide +kernel
theorem i_70_21 : ins 70 21 = some (.if_icmp .eq 5) := by decide +kernel
theorem i_70_24 : ins 70 24 = some (.iconst 0) := by decide +kernel
theorem i_70_25 : ins 70 25 = some (.ireturn) := by decide +kernel
theorem i_70_26 : ins 70 26 = some (.iinc 2 1) := by decide +kernel
theorem i_70_29 : ins 70 29 = some (.goto (-27)) := by decide +kernel
theorem i_70_32 : ins 70 32 = some (.aload_n 0) := by decide +kernel
theorem i_70_33 : ins 70 33 = some (.getfield 45) := by decide +kernel
theorem i_70_36 : ins 70 36 = some (.ifCond .le 7) := by decide +kernel
theorem i_70_39 : ins 70 39 = some (.iconst 1) := by decide +kernel
theorem i_70_40 : ins 70 40 = some (.goto 4) := by decide +kernel
theorem i_70_43 : ins 70 43 = some (.iconst 0) := by decide +kernel
theorem i_70_44 : ins 70 44 = some (.ireturn) := by decide +kernel
theorem o_71 : mOwn 71 = 6 := rfl
theorem i_71_0 : ins 71 0 = some (.aload_n 0) := by decide +kernel
theorem i_71_1 : ins 71 1 = some (.getfield 45) := by decide +kernel
theorem i_71_4 : ins 71 4 = some (.iload_n 2) := by decide +kernel
theorem i_71_5 : ins 71 5 = some (.if_icmp .ne 9) := by decide +kernel
theorem i_71_8 : ins 71 8 = some (.iload_n 2) := by decide +kernel
theorem i_71_9 : ins 71 9 = some (.aload_n 1) := by decide +kernel
theorem i_71_10 : ins 71 10 = some (.arraylength) := by decide +kernel
theorem i_71_11 : ins 71 11 = some (.if_icmp .le 5) := by decide +kernel
theorem i_71_14 : ins 71 14 = some (.iconst 0) := by decide +kernel
theorem i_71_15 : ins 71 15 = some (.ireturn) := by decide +kernel
theorem i_71_16 : ins 71 16 = some (.iconst 0) := by decide +kernel
theorem i_71_17 : ins 71 17 = some (.istore_n 3) := by decide +kernel
theorem i_71_18 : ins 71 18 = some (.iload_n 3) := by decide +kernel
theorem i_71_19 : ins 71 19 = some (.iload_n 2) := by decide +kernel
theorem i_71_20 : ins 71 20 = some (.if_icmp .ge 23) := by decide +kernel
theorem i_71_23 : ins 71 23 = some (.aload_n 0) := by decide +kernel
theorem i_71_24 : ins 71 24 = some (.getfield 15) := by decide +kernel
theorem i_71_27 : ins 71 27 = some (.iload_n 3) := by decide +kernel
theorem i_71_28 : ins 71 28 = some (.iaload) := by decide +kernel
theorem i_71_29 : ins 71 29 = some (.aload_n 1) := by decide +kernel
theorem i_71_30 : ins 71 30 = some (.iload_n 3) := by decide +kernel
theorem i_71_31 : ins 71 31 = some (.iaload) := by decide +kernel
theorem i_71_32 : ins 71 32 = some (.if_icmp .eq 5) := by decide +kernel
theorem i_71_35 : ins 71 35 = some (.iconst 0) := by decide +kernel
theorem i_71_36 : ins 71 36 = some (.ireturn) := by decide +kernel
theorem i_71_37 : ins 71 37 = some (.iinc 3 1) := by decide +kernel
theorem i_71_40 : ins 71 40 = some (.goto (-22)) := by decide +kernel
theorem i_71_43 : ins 71 43 = some (.iconst 1) := by decide +kernel
theorem i_71_44 : ins 71 44 = some (.ireturn) := by decide +kernel
theorem o_72 : mOwn 72 = 6 := rfl
theorem i_72_0 : ins 72 0 = some (.aload_n 0) := by decide +kernel
theorem i_72_1 : ins 72 1 = some (.invokevirtual 86) := by decide +kernel
theorem i_72_4 : ins 72 4 = some (.aload_n 0) := by decide +kernel
theorem i_72_5 : ins 72 5 = some (.dup) := by decide +kernel
theorem i_72_6 : ins 72 6 = some (.getfield 31) := by decide +kernel
theorem i_72_9 : ins 72 9 = some (.iconst 1) := by decide +kernel
theorem i_72_10 : ins 72 10 = some (.iadd) := by decide +kernel
theorem i_72_11 : ins 72 11 = some (.putfield 31) := by decide +kernel
theorem i_72_14 : ins 72 14 = some (.aload_n 0) := by decide +kernel
theorem i_72_15 : ins 72 15 = some (.getfield 44) := by decide +kernel
theorem i_72_18 : ins 72 18 = some (.ifCond .eq 28) := by decide +kernel
theorem i_72_21 : ins 72 21 = some (.aload_n 0) := by decide +kernel
theorem i_72_22 : ins 72 22 = some (.getfield 31) := by decide +kernel
theorem i_72_25 : ins 72 25 = some (.aload_n 0) := by decide +kernel
theorem i_72_26 : ins 72 26 = some (.getfield 44) := by decide +kernel
theorem i_72_29 : ins 72 29 = some (.irem) := by decide +kernel
theorem i_72_30 : ins 72 30 = some (.ifCond .ne 16) := by decide +kernel
theorem i_72_33 : ins 72 33 = some (.aload_n 0) := by decide +kernel
theorem i_72_34 : ins 72 34 = some (.getfield 45) := by decide +kernel
theorem i_72_37 : ins 72 37 = some (.ifCond .le 9) := by decide +kernel
theorem i_72_40 : ins 72 40 = some (.aload_n 0) := by decide +kernel
theorem i_72_41 : ins 72 41 = some (.iconst 0) := by decide +kernel
theorem i_72_42 : ins 72 42 = some (.iconst 2) := by decide +kernel
theorem i_72_43 : ins 72 43 = some (.invokevirtual 89) := by decide +kernel
theorem i_72_46 : ins 72 46 = some (.aload_n 0) := by decide +kernel
theorem i_72_47 : ins 72 47 = some (.invokevirtual 93) := by decide +kernel
theorem i_72_50 : ins 72 50 = some (.aload_n 0) := by decide +kernel
theorem i_72_51 : ins 72 51 = some (.iload_n 1) := by decide +kernel
theorem i_72_52 : ins 72 52 = some (.invokevirtual 96) := by decide +kernel
theorem i_72_55 : ins 72 55 = some (.return_) := by decide +kernel
theorem o_73 : mOwn 73 = 6 := rfl
theorem i_73_0 : ins 73 0 = some (.aload_n 0) := by decide +kernel
theorem i_73_1 : ins 73 1 = some (.getfield 45) := by decide +kernel
theorem i_73_4 : ins 73 4 = some (.iconst 1) := by decide +kernel
theorem i_73_5 : ins 73 5 = some (.isub) := by decide +kernel
theorem i_73_6 : ins 73 6 = some (.istore_n 1) := by decide +kernel
theorem i_73_7 : ins 73 7 = some (.iload_n 1) := by decide +kernel
theorem i_73_8 : ins 73 8 = some (.ifCond .le 70) := by decide +kernel
theorem i_73_11 : ins 73 11 = some (.aload_n 0) := by decide +kernel
theorem i_73_12 : ins 73 12 = some (.getfield 15) := by decide +kernel
theorem i_73_15 : ins 73 15 = some (.iload_n 1) := by decide +kernel
theorem i_73_16 : ins 73 16 = some (.iconst 1) := by decide +kernel
theorem i_73_17 : ins 73 17 = some (.isub) := by decide +kernel
theorem i_73_18 : ins 73 18 = some (.iaload) := by decide +kernel
theorem i_73_19 : ins 73 19 = some (.istore_n 2) := by decide +kernel
theorem i_73_20 : ins 73 20 = some (.aload_n 0) := by decide +kernel
theorem i_73_21 : ins 73 21 = some (.iload_n 2) := by decide +kernel
theorem i_73_22 : ins 73 22 = some (.invokevirtual 82) := by decide +kernel
theorem i_73_25 : ins 73 25 = some (.istore_n 3) := by decide +kernel
theorem i_73_26 : ins 73 26 = some (.iload_n 3) := by decide +kernel
theorem i_73_27 : ins 73 27 = some (.ifCond .eq 45) := by decide +kernel
theorem i_73_30 : ins 73 30 = some (.aload_n 0) := by decide +kernel
theorem i_73_31 : ins 73 31 = some (.aload_n 0) := by decide +kernel
theorem i_73_32 : ins 73 32 = some (.getfield 15) := by decide +kernel
theorem i_73_35 : ins 73 35 = some (.iload_n 1) := by decide +kernel
theorem i_73_36 : ins 73 36 = some (.iaload) := by decide +kernel
theorem i_73_37 : ins 73 37 = some (.invokevirtual 100) := by decide +kernel
theorem i_73_40 : ins 73 40 = some (.ifCond .eq 32) := by decide +kernel
theorem i_73_43 : ins 73 43 = some (.aload_n 0) := by decide +kernel
theorem i_73_44 : ins 73 44 = some (.getfield 19) := by decide +kernel
theorem i_73_47 : ins 73 47 = some (.aload_n 0) := by decide +kernel
theorem i_73_48 : ins 73 48 = some (.getfield 15) := by decide +kernel
theorem i_73_51 : ins 73 51 = some (.iload_n 1) := by decide +kernel
theorem i_73_52 : ins 73 52 = some (.iaload) := by decide +kernel
theorem i_73_53 : ins 73 53 = some (.iload_n 3) := by decide +kernel
theorem i_73_54 : ins 73 54 = some (.iastore) := by decide +kernel
theorem i_73_55 : ins 73 55 = some (.aload_n 0) := by decide +kernel
theorem i_73_56 : ins 73 56 = some (.getfield 28) := by decide +kernel
theorem i_73_59 : ins 73 59 = some (.aload_n 0) := by decide +kernel
theorem i_73_60 : ins 73 60 = some (.getfield 15) := by decide +kernel
theorem i_73_63 : ins 73 63 = some (.iload_n 1) := by decide +kernel
theorem i_73_64 : ins 73 64 = some (.iaload) := by decide +kernel
theorem i_73_65 : ins 73 65 = some (.aload_n 0) := by decide +kernel
theorem i_73_66 : ins 73 66 = some (.getfield 28) := by decide +kernel
theorem i_73_69 : ins 73 69 = some (.iload_n 2) := by decide +kernel
theorem i_73_70 : ins 73 70 = some (.iaload) := by decide +kernel
theorem i_73_71 : ins 73 71 = some (.iastore) := by decide +kernel
theorem i_73_72 : ins 73 72 = some (.iinc 1 (-1)) := by decide +kernel
theorem i_73_75 : ins 73 75 = some (.goto (-68)) := by decide +kernel
theorem i_73_78 : ins 73 78 = some (.return_) := by decide +kernel
theorem o_74 : mOwn 74 = 6 := rfl
theorem i_74_0 : ins 74 0 = some (.aload_n 0) := by decide +kernel
theorem i_74_1 : ins 74 1 = some (.getfield 9) := by decide +kernel
theorem i_74_4 : ins 74 4 = some (.getfield 74) := by decide +kernel
theorem i_74_7 : ins 74 7 = some (.iload_n 1) := by decide +kernel
theorem i_74_8 : ins 74 8 = some (.iaload) := by decide +kernel
theorem i_74_9 : ins 74 9 = some (.istore_n 2) := by decide +kernel
theorem i_74_10 : ins 74 10 = some (.iload_n 2) := by decide +kernel
theorem i_74_11 : ins 74 11 = some (.iconst 2) := by decide +kernel
theorem i_74_12 : ins 74 12 = some (.if_icmp .eq 22) := by decide +kernel
theorem i_74_15 : ins 74 15 = some (.iload_n 2) := by decide +kernel
theorem i_74_16 : ins 74 16 = some (.iconst 1) := by decide +kernel
theorem i_74_17 : ins 74 17 = some (.if_icmp .eq 8) := by decide +kernel
theorem i_74_20 : ins 74 20 = some (.iload_n 2) := by decide +kernel
theorem i_74_21 : ins 74 21 = some (.iconst 3) := by decide +kernel
theorem i_74_22 : ins 74 22 = some (.if_icmp .ne 16) := by decide +kernel
theorem i_74_25 : ins 74 25 = some (.aload_n 0) := by decide +kernel
theorem i_74_26 : ins 74 26 = some (.getfield 19) := by decide +kernel
theorem i_74_29 : ins 74 29 = some (.iload_n 1) := by decide +kernel
theorem i_74_30 : ins 74 30 = some (.iaload) := by decide +kernel
theorem i_74_31 : ins 74 31 = some (.ifCond .ne 7) := by decide +kernel
theorem i_74_34 : ins 74 34 = some (.iconst 1) := by decide +kernel
theorem i_74_35 : ins 74 35 = some (.goto 4) := by decide +kernel
theorem i_74_38 : ins 74 38 = some (.iconst 0) := by decide +kernel
theorem i_74_39 : ins 74 39 = some (.ireturn) := by decide +kernel
theorem o_75 : mOwn 75 = 6 := rfl
theorem i_75_0 : ins 75 0 = some (.iload_n 1) := by decide +kernel
theorem i_75_1 : ins 75 1 = some (.ifCond .lt 11) := by decide +kernel
theorem i_75_4 : ins 75 4 = some (.iload_n 1) := by decide +kernel
theorem i_75_5 : ins 75 5 = some (.aload_n 0) := by decide +kernel
theorem i_75_6 : ins 75 6 = some (.getfield 45) := by decide +kernel
theorem i_75_9 : ins 75 9 = some (.if_icmp .lt 4) := by decide +kernel
theorem i_75_12 : ins 75 12 = some (.return_) := by decide +kernel
theorem i_75_13 : ins 75 13 = some (.aload_n 0) := by decide +kernel
theorem i_75_14 : ins 75 14 = some (.getfield 22) := by decide +kernel
theorem i_75_17 : ins 75 17 = some (.aload_n 0) := by decide +kernel
theorem i_75_18 : ins 75 18 = some (.getfield 15) := by decide +kernel
theorem i_75_21 : ins 75 21 = some (.iload_n 1) := by decide +kernel
theorem i_75_22 : ins 75 22 = some (.iaload) := by decide +kernel
theorem i_75_23 : ins 75 23 = some (.iload_n 2) := by decide +kernel
theorem i_75_24 : ins 75 24 = some (.iastore) := by decide +kernel
theorem i_75_25 : ins 75 25 = some (.aload_n 0) := by decide +kernel
theorem i_75_26 : ins 75 26 = some (.dup) := by decide +kernel
theorem i_75_27 : ins 75 27 = some (.getfield 45) := by decide +kernel
theorem i_75_30 : ins 75 30 = some (.iconst 1) := by decide +kernel
theorem i_75_31 : ins 75 31 = some (.isub) := by decide +kernel
theorem i_75_32 : ins 75 32 = some (.putfield 45) := by decide +kernel
theorem i_75_35 : ins 75 35 = some (.iload_n 1) := by decide +kernel
theorem i_75_36 : ins 75 36 = some (.istore_n 3) := by decide +kernel
theorem i_75_37 : ins 75 37 = some (.iload_n 3) := by decide +kernel
theorem i_75_38 : ins 75 38 = some (.aload_n 0) := by decide +kernel
theorem i_75_39 : ins 75 39 = some (.getfield 45) := by decide +kernel
theorem i_75_42 : ins 75 42 = some (.if_icmp .ge 23) := by decide +kernel
theorem i_75_45 : ins 75 45 = some (.aload_n 0) := by decide +kernel
theorem i_75_46 : ins 75 46 = some (.getfield 15) := by decide +kernel
theorem i_75_49 : ins 75 49 = some (.iload_n 3) := by decide +kernel
theorem i_75_50 : ins 75 50 = some (.aload_n 0) := by decide +kernel
theorem i_75_51 : ins 75 51 = some (.getfield 15) := by decide +kernel
theorem i_75_54 : ins 75 54 = some (.iload_n 3) := by decide +kernel
theorem i_75_55 : ins 75 55 = some (.iconst 1) := by decide +kernel
theorem i_75_56 : ins 75 56 = some (.iadd) := by decide +kernel
theorem i_75_57 : ins 75 57 = some (.iaload) := by decide +kernel
theorem i_75_58 : ins 75 58 = some (.iastore) := by decide +kernel
theorem i_75_59 : ins 75 59 = some (.iinc 3 1) := by decide +kernel
theorem i_75_62 : ins 75 62 = some (.goto (-25)) := by decide +kernel
theorem i_75_65 : ins 75 65 = some (.return_) := by decide +kernel
theorem o_76 : mOwn 76 = 6 := rfl
theorem i_76_0 : ins 76 0 = some (.aload_n 0) := by decide +kernel
theorem i_76_1 : ins 76 1 = some (.getfield 45) := by decide +kernel
theorem i_76_4 : ins 76 4 = some (.bipush 6) := by decide +kernel
theorem i_76_6 : ins 76 6 = some (.if_icmp .lt 7) := by decide +kernel
theorem i_76_9 : ins 76 9 = some (.iconst 1) := by decide +kernel
theorem i_76_10 : ins 76 10 = some (.goto 4) := by decide +kernel
theorem i_76_13 : ins 76 13 = some (.iconst 0) := by decide +kernel
theorem i_76_14 : ins 76 14 = some (.istore_n 1) := by decide +kernel
theorem i_76_15 : ins 76 15 = some (.iconst 0) := by decide +kernel
theorem i_76_16 : ins 76 16 = some (.istore_n 2) := by decide +kernel
theorem i_76_17 : ins 76 17 = some (.iconst 0) := by decide +kernel
theorem i_76_18 : ins 76 18 = some (.istore_n 3) := by decide +kernel
theorem i_76_19 : ins 76 19 = some (.iload_n 3) := by decide +kernel
theorem i_76_20 : ins 76 20 = some (.aload_n 0) := by decide +kernel
theorem i_76_21 : ins 76 21 = some (.getfield 45) := by decide +kernel
theorem i_76_24 : ins 76 24 = some (.if_icmp .ge 96) := by decide +kernel
theorem i_76_27 : ins 76 27 = some (.aload_n 0) := by decide +kernel
theorem i_76_28 : ins 76 28 = some (.getfield 15) := by decide +kernel
theorem i_76_31 : ins 76 31 = some (.iload_n 3) := by decide +kernel
theorem i_76_32 : ins 76 32 = some (.iaload) := by decide +kernel
theorem i_76_33 : ins 76 33 = some (.istore 4) := by decide +kernel
theorem i_76_35 : ins 76 35 = some (.aload_n 0) := by decide +kernel
theorem i_76_36 : ins 76 36 = some (.getfield 25) := by decide +kernel
theorem i_76_39 : ins 76 39 = some (.iload 4) := by decide +kernel
theorem i_76_41 : ins 76 41 = some (.dup2) := by decide +kernel
theorem i_76_42 : ins 76 42 = some (.iaload) := by decide +kernel
theorem i_76_43 : ins 76 43 = some (.iconst 1) := by decide +kernel
theorem i_76_44 : ins 76 44 = some (.iadd) := by decide +kernel
theorem i_76_45 : ins 76 45 = some (.iastore) := by decide +kernel
theorem i_76_46 : ins 76 46 = some (.iload_n 1) := by decide +kernel
theorem i_76_47 : ins 76 47 = some (.ifCond .eq 21) := by decide +kernel
theorem i_76_50 : ins 76 50 = some (.aload_n 0) := by decide +kernel
theorem i_76_51 : ins 76 51 = some (.getfield 9) := by decide +kernel
theorem i_76_54 : ins 76 54 = some (.getfield 74) := by decide +kernel
theorem i_76_57 : ins 76 57 = some (.iload 4) := by decide +kernel
theorem i_76_59 : ins 76 59 = some (.iaload) := by decide +kernel
theorem i_76_60 : ins 76 60 = some (.iconst 2) := by decide +kernel
theorem i_76_61 : ins 76 61 = some (.if_icmp .ne 7) := by decide +kernel
theorem i_76_64 : ins 76 64 = some (.iconst 1) := by decide +kernel
theorem i_76_65 : ins 76 65 = some (.goto 4) := by decide +kernel
theorem i_76_68 : ins 76 68 = some (.iconst 0) := by decide +kernel
theorem i_76_69 : ins 76 69 = some (.istore 5) := by decide +kernel
theorem i_76_71 : ins 76 71 = some (.aload_n 0) := by decide +kernel
theorem i_76_72 : ins 76 72 = some (.getfield 25) := by decide +kernel
theorem i_76_75 : ins 76 75 = some (.iload 4) := by decide +kernel
theorem i_76_77 : ins 76 77 = some (.iaload) := by decide +kernel
theorem i_76_78 : ins 76 78 = some (.aload_n 0) := by decide +kernel
theorem i_76_79 : ins 76 79 = some (.iload 4) := by decide +kernel
theorem i_76_81 : ins 76 81 = some (.invokevirtual 104) := by decide +kernel
theorem i_76_84 : ins 76 84 = some (.if_icmp .le 19) := by decide +kernel
theorem i_76_87 : ins 76 87 = some (.iload 5) := by decide +kernel
theorem i_76_89 : ins 76 89 = some (.ifCond .ne 14) := by decide +kernel
theorem i_76_92 : ins 76 92 = some (.aload_n 0) := by decide +kernel
theorem i_76_93 : ins 76 93 = some (.getfield 22) := by decide +kernel
theorem i_76_96 : ins 76 96 = some (.iload 4) := by decide +kernel
theorem i_76_98 : ins 76 98 = some (.iconst 3) := by decide +kernel
theorem i_76_99 : ins 76 99 = some (.iastore) := by decide +kernel
theorem i_76_100 : ins 76 100 = some (.goto 14) := by decide +kernel
theorem i_76_103 : ins 76 103 = some (.aload_n 0) := by decide +kernel
theorem i_76_104 : ins 76 104 = some (.getfield 15) := by decide +kernel
theorem i_76_107 : ins 76 107 = some (.iload_n 2) := by decide +kernel
theorem i_76_108 : ins 76 108 = some (.iload 4) := by decide +kernel
theorem i_76_110 : ins 76 110 = some (.iastore) := by decide +kernel
theorem i_76_111 : ins 76 111 = some (.iinc 2 1) := by decide +kernel
theorem i_76_114 : ins 76 114 = some (.iinc 3 1) := by decide +kernel
theorem i_76_117 : ins 76 117 = some (.goto (-98)) := by decide +kernel
theorem i_76_120 : ins 76 120 = some (.aload_n 0) := by decide +kernel
theorem i_76_121 : ins 76 121 = some (.iload_n 2) := by decide +kernel
theorem i_76_122 : ins 76 122 = some (.putfield 45) := by decide +kernel
theorem i_76_125 : ins 76 125 = some (.return_) := by decide +kernel
theorem o_77 : mOwn 77 = 6 := rfl
theorem i_77_0 : ins 77 0 = some (.aload_n 0) := by decide +kernel
theorem i_77_1 : ins 77 1 = some (.getfield 9) := by decide +kernel
theorem i_77_4 : ins 77 4 = some (.getfield 107) := by decide +kernel
theorem i_77_7 : ins 77 7 = some (.iload_n 1) := by decide +kernel
theorem i_77_8 : ins 77 8 = some (.iaload) := by decide +kernel
theorem i_77_9 : ins 77 9 = some (.istore_n 2) := by decide +kernel
theorem i_77_10 : ins 77 10 = some (.aload_n 0) := by decide +kernel
theorem i_77_11 : ins 77 11 = some (.getfield 9) := by decide +kernel
theorem i_77_14 : ins 77 14 = some (.getfield 74) := by decide +kernel
theorem i_77_17 : ins 77 17 = some (.iload_n 1) := by decide +kernel
theorem i_77_18 : ins 77 18 = some (.iaload) := by decide +kernel
theorem i_77_19 : ins 77 19 = some (.tableswitch 47 3 5 #[31, 25, 27]) := by decide +kernel
theorem i_77_44 : ins 77 44 = some (.iload_n 2) := by decide +kernel
theorem i_77_45 : ins 77 45 = some (.ireturn) := by decide +kernel
theorem i_77_46 : ins 77 46 = some (.iload_n 2) := by decide +kernel
theorem i_77_47 : ins 77 47 = some (.iconst 2) := by decide +kernel
theorem i_77_48 : ins 77 48 = some (.idiv) := by decide +kernel
theorem i_77_49 : ins 77 49 = some (.ireturn) := by decide +kernel
theorem i_77_50 : ins 77 50 = some (.aload_n 0) := by decide +kernel
theorem i_77_51 : ins 77 51 = some (.iload_n 1) := by decide +kernel
theorem i_77_52 : ins 77 52 = some (.iload_n 2) := by decide +kernel
theorem i_77_53 : ins 77 53 = some (.invokevirtual 110) := by decide +kernel
theorem i_77_56 : ins 77 56 = some (.aload_n 0) := by decide +kernel
theorem i_77_57 : ins 77 57 = some (.getfield 25) := by decide +kernel
theorem i_77_60 : ins 77 60 = some (.iload_n 1) := by decide +kernel
theorem i_77_61 : ins 77 61 = some (.iaload) := by decide +kernel
theorem i_77_62 : ins 77 62 = some (.iconst 2) := by decide +kernel
theorem i_77_63 : ins 77 63 = some (.idiv) := by decide +kernel
theorem i_77_64 : ins 77 64 = some (.iadd) := by decide +kernel
theorem i_77_65 : ins 77 65 = some (.ireturn) := by decide +kernel
theorem i_77_66 : ins 77 66 = some (.aload_n 0) := by decide +kernel
theorem i_77_67 : ins 77 67 = some (.iload_n 1) := by decide +kernel
theorem i_77_68 : ins 77 68 = some (.iload_n 2) := by decide +kernel
theorem i_77_69 : ins 77 69 = some (.invokevirtual 110) := by decide +kernel
theorem i_77_72 : ins 77 72 = some (.ireturn) := by decide +kernel
theorem o_78 : mOwn 78 = 6 := rfl
theorem i_78_0 : ins 78 0 = some (.aload_n 0) := by decide +kernel
theorem i_78_1 : ins 78 1 = some (.getfield 19) := by decide +kernel
theorem i_78_4 : ins 78 4 = some (.iload_n 1) := by decide +kernel
theorem i_78_5 : ins 78 5 = some (.iaload) := by decide +kernel
theorem i_78_6 : ins 78 6 = some (.ifCond .ne 7) := by decide +kernel
theorem i_78_9 : ins 78 9 = some (.iload_n 2) := by decide +kernel
theorem i_78_10 : ins 78 10 = some (.goto 6) := by decide +kernel
theorem i_78_13 : ins 78 13 = some (.iconst 2) := by decide +kernel
theorem i_78_14 : ins 78 14 = some (.iload_n 2) := by decide +kernel
theorem i_78_15 : ins 78 15 = some (.imul) := by decide +kernel
theorem i_78_16 : ins 78 16 = some (.ireturn) := by decide +kernel
theorem o_79 : mOwn 79 = 6 := rfl
theorem i_79_0 : ins 79 0 = some (.aload_n 0) := by decide +kernel
theorem i_79_1 : ins 79 1 = some (.invokevirtual 78) := by decide +kernel
theorem i_79_4 : ins 79 4 = some (.ifCond .ne 4) := by decide +kernel
theorem i_79_7 : ins 79 7 = some (.return_) := by decide +kernel
theorem i_79_8 : ins 79 8 = some (.aload_n 0) := by decide +kernel
theorem i_79_9 : ins 79 9 = some (.getfield 51) := by decide +kernel
theorem i_79_12 : ins 79 12 = some (.istore_n 2) := by decide +kernel
theorem i_79_13 : ins 79 13 = some (.aload_n 0) := by decide +kernel
theorem i_79_14 : ins 79 14 = some (.dup) := by decide +kernel
theorem i_79_15 : ins 79 15 = some (.getfield 51) := by decide +kernel
theorem i_79_18 : ins 79 18 = some (.iconst 1) := by decide +kernel
theorem i_79_19 : ins 79 19 = some (.iadd) := by decide +kernel
theorem i_79_20 : ins 79 20 = some (.putfield 51) := by decide +kernel
theorem i_79_23 : ins 79 23 = some (.iload_n 1) := by decide +kernel
theorem i_79_24 : ins 79 24 = some (.ifCond .eq 27) := by decide +kernel
theorem i_79_27 : ins 79 27 = some (.aload_n 0) := by decide +kernel
theorem i_79_28 : ins 79 28 = some (.getfield 45) := by decide +kernel
theorem i_79_31 : ins 79 31 = some (.aload_n 0) := by decide +kernel
theorem i_79_32 : ins 79 32 = some (.getfield 9) := by decide +kernel
theorem i_79_35 : ins 79 35 = some (.getfield 113) := by decide +kernel
theorem i_79_38 : ins 79 38 = some (.iload_n 2) := by decide +kernel
theorem i_79_39 : ins 79 39 = some (.iaload) := by decide +kernel
theorem i_79_40 : ins 79 40 = some (.if_icmp .lt 11) := by decide +kernel
theorem i_79_43 : ins 79 43 = some (.aload_n 0) := by decide +kernel
theorem i_79_44 : ins 79 44 = some (.iload_n 2) := by decide +kernel
theorem i_79_45 : ins 79 45 = some (.invokevirtual 58) := by decide +kernel
theorem i_79_48 : ins 79 48 = some (.goto 10) := by decide +kernel
theorem i_79_51 : ins 79 51 = some (.aload_n 0) := by decide +kernel
theorem i_79_52 : ins 79 52 = some (.getfield 22) := by decide +kernel
theorem i_79_55 : ins 79 55 = some (.iload_n 2) := by decide +kernel
theorem i_79_56 : ins 79 56 = some (.iconst 4) := by decide +kernel
theorem i_79_57 : ins 79 57 = some (.iastore) := by decide +kernel
theorem i_79_58 : ins 79 58 = some (.return_) := by decide +kernel
theorem o_80 : mOwn 80 = 6 := rfl
theorem i_80_0 : ins 80 0 = some (.aload_n 0) := by decide +kernel
theorem i_80_1 : ins 80 1 = some (.getfield 22) := by decide +kernel
theorem i_80_4 : ins 80 4 = some (.iload_n 1) := by decide +kernel
theorem i_80_5 : ins 80 5 = some (.iaload) := by decide +kernel
theorem i_80_6 : ins 80 6 = some (.iconst 1) := by decide +kernel
theorem i_80_7 : ins 80 7 = some (.if_icmp .ne 7) := by decide +kernel
theorem i_80_10 : ins 80 10 = some (.iconst 1) := by decide +kernel
theorem i_80_11 : ins 80 11 = some (.goto 4) := by decide +kernel
theorem i_80_14 : ins 80 14 = some (.iconst 0) := by decide +kernel
theorem i_80_15 : ins 80 15 = some (.ireturn) := by decide +kernel
theorem o_81 : mOwn 81 = 6 := rfl
theorem i_81_0 : ins 81 0 = some (.aload_n 0) := by decide +kernel
theorem i_81_1 : ins 81 1 = some (.getfield 45) := by decide +kernel
theorem i_81_4 : ins 81 4 = some (.aload_n 0) := by decide +kernel
theorem i_81_5 : ins 81 5 = some (.getfield 15) := by decide +kernel
theorem i_81_8 : ins 81 8 = some (.arraylength) := by decide +kernel
theorem i_81_9 : ins 81 9 = some (.if_icmp .ge 30) := by decide +kernel
theorem i_81_12 : ins 81 12 = some (.aload_n 0) := by decide +kernel
theorem i_81_13 : ins 81 13 = some (.getfield 15) := by decide +kernel
theorem i_81_16 : ins 81 16 = some (.aload_n 0) := by decide +kernel
theorem i_81_17 : ins 81 17 = some (.getfield 45) := by decide +kernel
theorem i_81_20 : ins 81 20 = some (.iload_n 1) := by decide +kernel
theorem i_81_21 : ins 81 21 = some (.iastore) := by decide +kernel
theorem i_81_22 : ins 81 22 = some (.aload_n 0) := by decide +kernel
theorem i_81_23 : ins 81 23 = some (.dup) := by decide +kernel
theorem i_81_24 : ins 81 24 = some (.getfield 45) := by decide +kernel
theorem i_81_27 : ins 81 27 = some (.iconst 1) := by decide +kernel
theorem i_81_28 : ins 81 28 = some (.iadd) := by decide +kernel
theorem i_81_29 : ins 81 29 = some (.putfield 45) := by decide +kernel
theorem i_81_32 : ins 81 32 = some (.aload_n 0) := by decide +kernel
theorem i_81_33 : ins 81 33 = some (.getfield 22) := by decide +kernel
theorem i_81_36 : ins 81 36 = some (.iload_n 1) := by decide +kernel
theorem i_81_37 : ins 81 37 = some (.iconst 1) := by decide +kernel
theorem i_81_38 : ins 81 38 = some (.iastore) := by decide +kernel
theorem i_81_39 : ins 81 39 = some (.return_) := by decide +kernel
theorem o_82 : mOwn 82 = 6 := rfl
theorem i_82_0 : ins 82 0 = some (.bipush 16) := by decide +kernel
theorem i_82_2 : ins 82 2 = some (.istore_n 2) := by decide +kernel
theorem i_82_3 : ins 82 3 = some (.iload_n 2) := by decide +kernel
theorem i_82_4 : ins 82 4 = some (.bipush 16) := by decide +kernel
theorem i_82_6 : ins 82 6 = some (.iload_n 1) := by decide +kernel
theorem i_82_7 : ins 82 7 = some (.iadd) := by decide +kernel
theorem i_82_8 : ins 82 8 = some (.if_icmp .ge 44) := by decide +kernel
theorem i_82_11 : ins 82 11 = some (.iload_n 2) := by decide +kernel
theorem i_82_12 : ins 82 12 = some (.aload_n 0) := by decide +kernel
theorem i_82_13 : ins 82 13 = some (.getfield 15) := by decide +kernel
theorem i_82_16 : ins 82 16 = some (.arraylength) := by decide +kernel
theorem i_82_17 : ins 82 17 = some (.if_icmp .ge 35) := by decide +kernel
theorem i_82_20 : ins 82 20 = some (.aload_n 0) := by decide +kernel
theorem i_82_21 : ins 82 21 = some (.getfield 19) := by decide +kernel
theorem i_82_24 : ins 82 24 = some (.iload_n 2) := by decide +kernel
theorem i_82_25 : ins 82 25 = some (.iconst 0) := by decide +kernel
theorem i_82_26 : ins 82 26 = some (.iastore) := by decide +kernel
theorem i_82_27 : ins 82 27 = some (.aload_n 0) := by decide +kernel
theorem i_82_28 : ins 82 28 = some (.getfield 25) := by decide +kernel
theorem i_82_31 : ins 82 31 = some (.iload_n 2) := by decide +kernel
theorem i_82_32 : ins 82 32 = some (.iconst 0) := by decide +kernel
theorem i_82_33 : ins 82 33 = some (.iastore) := by decide +kernel
theorem i_82_34 : ins 82 34 = some (.aload_n 0) := by decide +kernel
theorem i_82_35 : ins 82 35 = some (.getfield 28) := by decide +kernel
theorem i_82_38 : ins 82 38 = some (.iload_n 2) := by decide +kernel
theorem i_82_39 : ins 82 39 = some (.iload_n 2) := by decide +kernel
theorem i_82_40 : ins 82 40 = some (.iastore) := by decide +kernel
theorem i_82_41 : ins 82 41 = some (.aload_n 0) := by decide +kernel
theorem i_82_42 : ins 82 42 = some (.iload_n 2) := by decide +kernel
theorem i_82_43 : ins 82 43 = some (.invokevirtual 58) := by decide +kernel
theorem i_82_46 : ins 82 46 = some (.iinc 2 1) := by decide +kernel
theorem i_82_49 : ins 82 49 = some (.goto (-46)) := by decide +kernel
theorem i_82_52 : ins 82 52 = some (.return_) := by decide +kernel
theorem o_83 : mOwn 83 = 6 := rfl
theorem i_83_0 : ins 83 0 = some (.iconst 0) := by decide +kernel
theorem i_83_1 : ins 83 1 = some (.istore_n 1) := by decide +kernel
theorem i_83_2 : ins 83 2 = some (.iconst 0) := by decide +kernel
theorem i_83_3 : ins 83 3 = some (.istore_n 2) := by decide +kernel
theorem i_83_4 : ins 83 4 = some (.iload_n 2) := by decide +kernel
theorem i_83_5 : ins 83 5 = some (.bipush 8) := by decide +kernel
theorem i_83_7 : ins 83 7 = some (.if_icmp .ge 37) := by decide +kernel
theorem i_83_10 : ins 83 10 = some (.aload_n 0) := by decide +kernel
theorem i_83_11 : ins 83 11 = some (.invokevirtual 78) := by decide +kernel
theorem i_83_14 : ins 83 14 = some (.ifCond .eq 30) := by decide +kernel
theorem i_83_17 : ins 83 17 = some (.aload_n 0) := by decide +kernel
theorem i_83_18 : ins 83 18 = some (.getfield 51) := by decide +kernel
theorem i_83_21 : ins 83 21 = some (.istore_n 3) := by decide +kernel
theorem i_83_22 : ins 83 22 = some (.aload_n 0) := by decide +kernel
theorem i_83_23 : ins 83 23 = some (.iconst 1) := by decide +kernel
theorem i_83_24 : ins 83 24 = some (.invokevirtual 116) := by decide +kernel
theorem i_83_27 : ins 83 27 = some (.aload_n 0) := by decide +kernel
theorem i_83_28 : ins 83 28 = some (.iload_n 3) := by decide +kernel
theorem i_83_29 : ins 83 29 = some (.invokevirtual 119) := by decide +kernel
theorem i_83_32 : ins 83 32 = some (.ifCond .eq 6) := by decide +kernel
theorem i_83_35 : ins 83 35 = some (.iinc 1 1) := by decide +kernel
theorem i_83_38 : ins 83 38 = some (.iinc 2 1) := by decide +kernel
theorem i_83_41 : ins 83 41 = some (.goto (-37)) := by decide +kernel
theorem i_83_44 : ins 83 44 = some (.iload_n 1) := by decide +kernel
theorem i_83_45 : ins 83 45 = some (.ireturn) := by decide +kernel
end
section
theorem o_84 : mOwn 84 = 7 := rfl
theorem i_84_0 : ins 84 0 = some (.aload_n 0) := by decide +kernel
theorem i_84_1 : ins 84 1 = some (.invokespecial 1) := by decide +kernel
theorem i_84_4 : ins 84 4 = some (.aload_n 0) := by decide +kernel
theorem i_84_5 : ins 84 5 = some (.new 7) := by decide +kernel
theorem i_84_8 : ins 84 8 = some (.dup) := by decide +kernel
theorem i_84_9 : ins 84 9 = some (.invokespecial 9) := by decide +kernel
theorem i_84_12 : ins 84 12 = some (.putfield 10) := by decide +kernel
theorem i_84_15 : ins 84 15 = some (.aload_n 0) := by decide +kernel
theorem i_84_16 : ins 84 16 = some (.new 16) := by decide +kernel
theorem i_84_19 : ins 84 19 = some (.dup) := by decide +kernel
theorem i_84_20 : ins 84 20 = some (.invokespecial 18) := by decide +kernel
theorem i_84_23 : ins 84 23 = some (.putfield 19) := by decide +kernel
theorem i_84_26 : ins 84 26 = some (.aload_n 0) := by decide +kernel
theorem i_84_27 : ins 84 27 = some (.new 23) := by decide +kernel
theorem i_84_30 : ins 84 30 = some (.dup) := by decide +kernel
theorem i_84_31 : ins 84 31 = some (.invokespecial 25) := by decide +kernel
theorem i_84_34 : ins 84 34 = some (.putfield 26) := by decide +kernel
theorem i_84_37 : ins 84 37 = some (.aload_n 0) := by decide +kernel
theorem i_84_38 : ins 84 38 = some (.new 23) := by decide +kernel
theorem i_84_41 : ins 84 41 = some (.dup) := by decide +kernel
theorem i_84_42 : ins 84 42 = some (.invokespecial 25) := by decide +kernel
theorem i_84_45 : ins 84 45 = some (.putfield 30) := by decide +kernel
theorem i_84_48 : ins 84 48 = some (.aload_n 0) := by decide +kernel
theorem i_84_49 : ins 84 49 = some (.new 33) := by decide +kernel
theorem i_84_52 : ins 84 52 = some (.dup) := by decide +kernel
theorem i_84_53 : ins 84 53 = some (.aload_n 0) := by decide +kernel
theorem i_84_54 : ins 84 54 = some (.getfield 30) := by decide +kernel
theorem i_84_57 : ins 84 57 = some (.bipush 16) := by decide +kernel
theorem i_84_59 : ins 84 59 = some (.invokespecial 35) := by decide +kernel
theorem i_84_62 : ins 84 62 = some (.putfield 38) := by decide +kernel
theorem i_84_65 : ins 84 65 = some (.aload_n 0) := by decide +kernel
theorem i_84_66 : ins 84 66 = some (.new 42) := by decide +kernel
theorem i_84_69 : ins 84 69 = some (.dup) := by decide +kernel
theorem i_84_70 : ins 84 70 = some (.aload_n 0) := by decide +kernel
theorem i_84_71 : ins 84 71 = some (.getfield 30) := by decide +kernel
theorem i_84_74 : ins 84 74 = some (.invokespecial 44) := by decide +kernel
theorem i_84_77 : ins 84 77 = some (.putfield 47) := by decide +kernel
theorem i_84_80 : ins 84 80 = some (.aload_n 0) := by decide +kernel
theorem i_84_81 : ins 84 81 = some (.new 51) := by decide +kernel
theorem i_84_84 : ins 84 84 = some (.dup) := by decide +kernel
theorem i_84_85 : ins 84 85 = some (.aload_n 0) := by decide +kernel
theorem i_84_86 : ins 84 86 = some (.getfield 30) := by decide +kernel
theorem i_84_89 : ins 84 89 = some (.aload_n 0) := by decide +kernel
theorem i_84_90 : ins 84 90 = some (.getfield 38) := by decide +kernel
theorem i_84_93 : ins 84 93 = some (.invokespecial 53) := by decide +kernel
theorem i_84_96 : ins 84 96 = some (.putfield 56) := by decide +kernel
theorem i_84_99 : ins 84 99 = some (.aload_n 0) := by decide +kernel
theorem i_84_100 : ins 84 100 = some (.new 60) := by decide +kernel
theorem i_84_103 : ins 84 103 = some (.dup) := by decide +kernel
theorem i_84_104 : ins 84 104 = some (.aload_n 0) := by decide +kernel
theorem i_84_105 : ins 84 105 = some (.getfield 30) := by decide +kernel
theorem i_84_108 : ins 84 108 = some (.aload_n 0) := by decide +kernel
theorem i_84_109 : ins 84 109 = some (.getfield 38) := by decide +kernel
theorem i_84_112 : ins 84 112 = some (.invokespecial 62) := by decide +kernel
theorem i_84_115 : ins 84 115 = some (.putfield 63) := by decide +kernel
theorem i_84_118 : ins 84 118 = some (.aload_n 0) := by decide +kernel
theorem i_84_119 : ins 84 119 = some (.iconst 2) := by decide +kernel
theorem i_84_120 : ins 84 120 = some (.anewarray 23) := by decide +kernel
theorem i_84_123 : ins 84 123 = some (.putfield 67) := by decide +kernel
theorem i_84_126 : ins 84 126 = some (.aload_n 0) := by decide +kernel
theorem i_84_127 : ins 84 127 = some (.iconst 2) := by decide +kernel
theorem i_84_128 : ins 84 128 = some (.anewarray 33) := by decide +kernel
theorem i_84_131 : ins 84 131 = some (.putfield 71) := by decide +kernel
theorem i_84_134 : ins 84 134 = some (.aload_n 0) := by decide +kernel
theorem i_84_135 : ins 84 135 = some (.iconst 2) := by decide +kernel
theorem i_84_136 : ins 84 136 = some (.newarray .boolean) := by decide +kernel
theorem i_84_138 : ins 84 138 = some (.putfield 75) := by decide +kernel
theorem i_84_141 : ins 84 141 = some (.iconst 0) := by decide +kernel
theorem i_84_142 : ins 84 142 = some (.istore_n 1) := by decide +kernel
theorem i_84_143 : ins 84 143 = some (.iload_n 1) := by decide +kernel
theorem i_84_144 : ins 84 144 = some (.iconst 2) := by decide +kernel
theorem i_84_145 : ins 84 145 = some (.if_icmp .ge 43) := by decide +kernel
theorem i_84_148 : ins 84 148 = some (.aload_n 0) := by decide +kernel
theorem i_84_149 : ins 84 149 = some (.getfield 67) := by decide +kernel
theorem i_84_152 : ins 84 152 = some (.iload_n 1) := by decide +kernel
theorem i_84_153 : ins 84 153 = some (.new 23) := by decide +kernel
theorem i_84_156 : ins 84 156 = some (.dup) := by decide +kernel
theorem i_84_157 : ins 84 157 = some (.invokespecial 25) := by decide +kernel
theorem i_84_160 : ins 84 160 = some (.aastore) := by decide +kernel
theorem i_84_161 : ins 84 161 = some (.aload_n 0) := by decide +kernel
theorem i_84_162 : ins 84 162 = some (.getfield 71) := by decide +kernel
theorem i_84_165 : ins 84 165 = some (.iload_n 1) := by decide +kernel
theorem i_84_166 : ins 84 166 = some (.new 33) := by decide +kernel
theorem i_84_169 : ins 84 169 = some (.dup) := by decide +kernel
theorem i_84_170 : ins 84 170 = some (.aload_n 0) := by decide +kernel
theorem i_84_171 : ins 84 171 = some (.getfield 67) := by decide +kernel
theorem i_84_174 : ins 84 174 = some (.iload_n 1) := by decide +kernel
theorem i_84_175 : ins 84 175 = some (.aaload) := by decide +kernel
theorem i_84_176 : ins 84 176 = some (.bipush 16) := by decide +kernel
theorem i_84_178 : ins 84 178 = some (.invokespecial 35) := by decide +kernel
theorem i_84_181 : ins 84 181 = some (.aastore) := by decide +kernel
theorem i_84_182 : ins 84 182 = some (.iinc 1 1) := by decide +kernel
theorem i_84_185 : ins 84 185 = some (.goto (-42)) := by decide +kernel
theorem i_84_188 : ins 84 188 = some (.return_) := by decide +kernel
theorem o_85 : mOwn 85 = 7 := rfl
theorem i_85_0 : ins 85 0 = some (.iload_n 1) := by decide +kernel
theorem i_85_1 : ins 85 1 = some (.invokestatic 79) := by decide +kernel
theorem i_85_4 : ins 85 4 = some (.ifCond .eq 16) := by decide +kernel
theorem i_85_7 : ins 85 7 = some (.iload_n 2) := by decide +kernel
theorem i_85_8 : ins 85 8 = some (.invokestatic 83) := by decide +kernel
theorem i_85_11 : ins 85 11 = some (.ifCond .eq 9) := by decide +kernel
theorem i_85_14 : ins 85 14 = some (.iload_n 3) := by decide +kernel
theorem i_85_15 : ins 85 15 = some (.bipush 40) := by decide +kernel
theorem i_85_17 : ins 85 17 = some (.if_icmp .le 6) := by decide +kernel
theorem i_85_20 : ins 85 20 = some (.ldc 86) := by decide +kernel
theorem i_85_22 : ins 85 22 = some (.ireturn) := by decide +kernel
theorem i_85_23 : ins 85 23 = some (.iload_n 3) := by decide +kernel
theorem i_85_24 : ins 85 24 = some (.ifCond .ge 9) := by decide +kernel
theorem i_85_27 : ins 85 27 = some (.aload_n 0) := by decide +kernel
theorem i_85_28 : ins 85 28 = some (.iconst 4) := by decide +kernel
theorem i_85_29 : ins 85 29 = some (.invokevirtual 87) := by decide +kernel
theorem i_85_32 : ins 85 32 = some (.ireturn) := by decide +kernel
theorem i_85_33 : ins 85 33 = some (.aload_n 0) := by decide +kernel
theorem i_85_34 : ins 85 34 = some (.getfield 10) := by decide +kernel
theorem i_85_37 : ins 85 37 = some (.iload_n 1) := by decide +kernel
theorem i_85_38 : ins 85 38 = some (.iload_n 2) := by decide +kernel
theorem i_85_39 : ins 85 39 = some (.iload_n 3) := by decide +kernel
theorem i_85_40 : ins 85 40 = some (.invokevirtual 91) := by decide +kernel
theorem i_85_43 : ins 85 43 = some (.aload_n 0) := by decide +kernel
theorem i_85_44 : ins 85 44 = some (.iload_n 3) := by decide +kernel
theorem i_85_45 : ins 85 45 = some (.invokevirtual 95) := by decide +kernel
theorem i_85_48 : ins 85 48 = some (.ireturn) := by decide +kernel
theorem o_86 : mOwn 86 = 7 := rfl
theorem i_86_0 : ins 86 0 = some (.iload_n 1) := by decide +kernel
theorem i_86_1 : ins 86 1 = some (.invokestatic 79) := by decide +kernel
theorem i_86_4 : ins 86 4 = some (.ifCond .ne 6) := by decide +kernel
theorem i_86_7 : ins 86 7 = some (.ldc 86) := by decide +kernel
theorem i_86_9 : ins 86 9 = some (.ireturn) := by decide +kernel
theorem i_86_10 : ins 86 10 = some (.aload_n 0) := by decide +kernel
theorem i_86_11 : ins 86 11 = some (.getfield 10) := by decide +kernel
theorem i_86_14 : ins 86 14 = some (.iload_n 1) := by decide +kernel
theorem i_86_15 : ins 86 15 = some (.invokevirtual 98) := by decide +kernel
theorem i_86_18 : ins 86 18 = some (.ifCond .eq 9) := by decide +kernel
theorem i_86_21 : ins 86 21 = some (.aload_n 0) := by decide +kernel
theorem i_86_22 : ins 86 22 = some (.iconst 1) := by decide +kernel
theorem i_86_23 : ins 86 23 = some (.invokevirtual 87) := by decide +kernel
theorem i_86_26 : ins 86 26 = some (.ireturn) := by decide +kernel
theorem i_86_27 : ins 86 27 = some (.aload_n 0) := by decide +kernel
theorem i_86_28 : ins 86 28 = some (.getfield 10) := by decide +kernel
theorem i_86_31 : ins 86 31 = some (.iload_n 1) := by decide +kernel
theorem i_86_32 : ins 86 32 = some (.iload_n 2) := by decide +kernel
theorem i_86_33 : ins 86 33 = some (.iconst 1) := by decide +kernel
theorem i_86_34 : ins 86 34 = some (.invokevirtual 101) := by decide +kernel
theorem i_86_37 : ins 86 37 = some (.ifCond .ne 9) := by decide +kernel
theorem i_86_40 : ins 86 40 = some (.aload_n 0) := by decide +kernel
theorem i_86_41 : ins 86 41 = some (.iconst 2) := by decide +kernel
theorem i_86_42 : ins 86 42 = some (.invokevirtual 87) := by decide +kernel
theorem i_86_45 : ins 86 45 = some (.ireturn) := by decide +kernel
theorem i_86_46 : ins 86 46 = some (.aload_n 0) := by decide +kernel
theorem i_86_47 : ins 86 47 = some (.aload_n 0) := by decide +kernel
theorem i_86_48 : ins 86 48 = some (.getfield 10) := by decide +kernel
theorem i_86_51 : ins 86 51 = some (.iload_n 1) := by decide +kernel
theorem i_86_52 : ins 86 52 = some (.iload_n 2) := by decide +kernel
theorem i_86_53 : ins 86 53 = some (.iload_n 3) := by decide +kernel
theorem i_86_54 : ins 86 54 = some (.invokevirtual 105) := by decide +kernel
theorem i_86_57 : ins 86 57 = some (.invokevirtual 95) := by decide +kernel
theorem i_86_60 : ins 86 60 = some (.ireturn) := by decide +kernel
theorem o_87 : mOwn 87 = 7 := rfl
theorem i_87_0 : ins 87 0 = some (.iload_n 1) := by decide +kernel
theorem i_87_1 : ins 87 1 = some (.invokestatic 79) := by decide +kernel
theorem i_87_4 : ins 87 4 = some (.ifCond .eq 10) := by decide +kernel
theorem i_87_7 : ins 87 7 = some (.iload_n 3) := by decide +kernel
theorem i_87_8 : ins 87 8 = some (.invokestatic 79) := by decide +kernel
theorem i_87_11 : ins 87 11 = some (.ifCond .ne 6) := by decide +kernel
theorem i_87_14 : ins 87 14 = some (.ldc 86) := by decide +kernel
theorem i_87_16 : ins 87 16 = some (.ireturn) := by decide +kernel
theorem i_87_17 : ins 87 17 = some (.aload_n 0) := by decide +kernel
theorem i_87_18 : ins 87 18 = some (.getfield 10) := by decide +kernel
theorem i_87_21 : ins 87 21 = some (.iload_n 1) := by decide +kernel
theorem i_87_22 : ins 87 22 = some (.invokevirtual 98) := by decide +kernel
theorem i_87_25 : ins 87 25 = some (.ifCond .ne 14) := by decide +kernel
theorem i_87_28 : ins 87 28 = some (.aload_n 0) := by decide +kernel
theorem i_87_29 : ins 87 29 = some (.getfield 10) := by decide +kernel
theorem i_87_32 : ins 87 32 = some (.iload_n 3) := by decide +kernel
theorem i_87_33 : ins 87 33 = some (.invokevirtual 98) := by decide +kernel
theorem i_87_36 : ins 87 36 = some (.ifCond .eq 9) := by decide +kernel
theorem i_87_39 : ins 87 39 = some (.aload_n 0) := by decide +kernel
theorem i_87_40 : ins 87 40 = some (.iconst 1) := by decide +kernel
theorem i_87_41 : ins 87 41 = some (.invokevirtual 87) := by decide +kernel
theorem i_87_44 : ins 87 44 = some (.ireturn) := by decide +kernel
theorem i_87_45 : ins 87 45 = some (.aload_n 0) := by decide +kernel
theorem i_87_46 : ins 87 46 = some (.getfield 10) := by decide +kernel
theorem i_87_49 : ins 87 49 = some (.iload_n 1) := by decide +kernel
theorem i_87_50 : ins 87 50 = some (.invokevirtual 109) := by decide +kernel
theorem i_87_53 : ins 87 53 = some (.aload_n 0) := by decide +kernel
theorem i_87_54 : ins 87 54 = some (.getfield 10) := by decide +kernel
theorem i_87_57 : ins 87 57 = some (.iload_n 3) := by decide +kernel
theorem i_87_58 : ins 87 58 = some (.invokevirtual 109) := by decide +kernel
theorem i_87_61 : ins 87 61 = some (.if_icmp .eq 9) := by decide +kernel
theorem i_87_64 : ins 87 64 = some (.aload_n 0) := by decide +kernel
theorem i_87_65 : ins 87 65 = some (.iconst 5) := by decide +kernel
theorem i_87_66 : ins 87 66 = some (.invokevirtual 87) := by decide +kernel
theorem i_87_69 : ins 87 69 = some (.ireturn) := by decide +kernel
theorem i_87_70 : ins 87 70 = some (.aload_n 0) := by decide +kernel
theorem i_87_71 : ins 87 71 = some (.getfield 10) := by decide +kernel
theorem i_87_74 : ins 87 74 = some (.iload_n 1) := by decide +kernel
theorem i_87_75 : ins 87 75 = some (.iload_n 2) := by decide +kernel
theorem i_87_76 : ins 87 76 = some (.iload 5) := by decide +kernel
theorem i_87_78 : ins 87 78 = some (.invokevirtual 101) := by decide +kernel
theorem i_87_81 : ins 87 81 = some (.ifCond .eq 18) := by decide +kernel
theorem i_87_84 : ins 87 84 = some (.aload_n 0) := by decide +kernel
theorem i_87_85 : ins 87 85 = some (.getfield 10) := by decide +kernel
theorem i_87_88 : ins 87 88 = some (.iload_n 3) := by decide +kernel
theorem i_87_89 : ins 87 89 = some (.iload 4) := by decide +kernel
theorem i_87_91 : ins 87 91 = some (.iload 5) := by decide +kernel
theorem i_87_93 : ins 87 93 = some (.invokevirtual 101) := by decide +kernel
theorem i_87_96 : ins 87 96 = some (.ifCond .ne 9) := by decide +kernel
theorem i_87_99 : ins 87 99 = some (.aload_n 0) := by decide +kernel
theorem i_87_100 : ins 87 100 = some (.iconst 2) := by decide +kernel
theorem i_87_101 : ins 87 101 = some (.invokevirtual 87) := by decide +kernel
theorem i_87_104 : ins 87 104 = some (.ireturn) := by decide +kernel
theorem i_87_105 : ins 87 105 = some (.aload_n 0) := by decide +kernel
theorem i_87_106 : ins 87 106 = some (.getfield 10) := by decide +kernel
theorem i_87_109 : ins 87 109 = some (.iload_n 1) := by decide +kernel
theorem i_87_110 : ins 87 110 = some (.iload_n 2) := by decide +kernel
theorem i_87_111 : ins 87 111 = some (.iload_n 3) := by decide +kernel
theorem i_87_112 : ins 87 112 = some (.iload 4) := by decide +kernel
theorem i_87_114 : ins 87 114 = some (.iload 5) := by decide +kernel
theorem i_87_116 : ins 87 116 = some (.invokevirtual 112) := by decide +kernel
theorem i_87_119 : ins 87 119 = some (.aload_n 0) := by decide +kernel
theorem i_87_120 : ins 87 120 = some (.iload 5) := by decide +kernel
theorem i_87_122 : ins 87 122 = some (.invokevirtual 95) := by decide +kernel
theorem i_87_125 : ins 87 125 = some (.ireturn) := by decide +kernel
theorem o_88 : mOwn 88 = 7 := rfl
theorem i_88_0 : ins 88 0 = some (.iload_n 1) := by decide +kernel
theorem i_88_1 : ins 88 1 = some (.invokestatic 79) := by decide +kernel
theorem i_88_4 : ins 88 4 = some (.ifCond .ne 6) := by decide +kernel
theorem i_88_7 : ins 88 7 = some (.ldc 86) := by decide +kernel
theorem i_88_9 : ins 88 9 = some (.ireturn) := by decide +kernel
theorem i_88_10 : ins 88 10 = some (.aload_n 0) := by decide +kernel
theorem i_88_11 : ins 88 11 = some (.getfield 10) := by decide +kernel
theorem i_88_14 : ins 88 14 = some (.iload_n 1) := by decide +kernel
theorem i_88_15 : ins 88 15 = some (.invokevirtual 98) := by decide +kernel
theorem i_88_18 : ins 88 18 = some (.ifCond .eq 9) := by decide +kernel
theorem i_88_21 : ins 88 21 = some (.aload_n 0) := by decide +kernel
theorem i_88_22 : ins 88 22 = some (.iconst 1) := by decide +kernel
theorem i_88_23 : ins 88 23 = some (.invokevirtual 87) := by decide +kernel
theorem i_88_26 : ins 88 26 = some (.ireturn) := by decide +kernel
theorem i_88_27 : ins 88 27 = some (.aload_n 0) := by decide +kernel
theorem i_88_28 : ins 88 28 = some (.aload_n 0) := by decide +kernel
theorem i_88_29 : ins 88 29 = some (.getfield 10) := by decide +kernel
theorem i_88_32 : ins 88 32 = some (.iload_n 1) := by decide +kernel
theorem i_88_33 : ins 88 33 = some (.invokevirtual 116) := by decide +kernel
theorem i_88_36 : ins 88 36 = some (.invokevirtual 95) := by decide +kernel
theorem i_88_39 : ins 88 39 = some (.ireturn) := by decide +kernel
theorem o_89 : mOwn 89 = 7 := rfl
theorem i_89_0 : ins 89 0 = some (.iload_n 1) := by decide +kernel
theorem i_89_1 : ins 89 1 = some (.sipush 255) := by decide +kernel
theorem i_89_4 : ins 89 4 = some (.invokestatic 119) := by decide +kernel
theorem i_89_7 : ins 89 7 = some (.ifCond .ne 6) := by decide +kernel
theorem i_89_10 : ins 89 10 = some (.ldc 86) := by decide +kernel
theorem i_89_12 : ins 89 12 = some (.ireturn) := by decide +kernel
theorem i_89_13 : ins 89 13 = some (.aload_n 0) := by decide +kernel
theorem i_89_14 : ins 89 14 = some (.getfield 19) := by decide +kernel
theorem i_89_17 : ins 89 17 = some (.invokevirtual 123) := by decide +kernel
theorem i_89_20 : ins 89 20 = some (.ifCond .eq 8) := by decide +kernel
theorem i_89_23 : ins 89 23 = some (.ldc 127) := by decide +kernel
theorem i_89_25 : ins 89 25 = some (.goto 11) := by decide +kernel
theorem i_89_28 : ins 89 28 = some (.aload_n 0) := by decide +kernel
theorem i_89_29 : ins 89 29 = some (.getfield 19) := by decide +kernel
theorem i_89_32 : ins 89 32 = some (.iload_n 1) := by decide +kernel
theorem i_89_33 : ins 89 33 = some (.invokevirtual 128) := by decide +kernel
theorem i_89_36 : ins 89 36 = some (.ireturn) := by decide +kernel
theorem o_90 : mOwn 90 = 7 := rfl
theorem i_90_0 : ins 90 0 = some (.aload_n 0) := by decide +kernel
theorem i_90_1 : ins 90 1 = some (.getfield 19) := by decide +kernel
theorem i_90_4 : ins 90 4 = some (.aload_n 0) := by decide +kernel
theorem i_90_5 : ins 90 5 = some (.getfield 26) := by decide +kernel
theorem i_90_8 : ins 90 8 = some (.invokevirtual 131) := by decide +kernel
theorem i_90_11 : ins 90 11 = some (.istore_n 1) := by decide +kernel
theorem i_90_12 : ins 90 12 = some (.iload_n 1) := by decide +kernel
theorem i_90_13 : ins 90 13 = some (.ifCond .eq 19) := by decide +kernel
theorem i_90_16 : ins 90 16 = some (.aload_n 0) := by decide +kernel
theorem i_90_17 : ins 90 17 = some (.iload_n 1) := by decide +kernel
theorem i_90_18 : ins 90 18 = some (.putfield 135) := by decide +kernel
theorem i_90_21 : ins 90 21 = some (.ldc 139) := by decide +kernel
theorem i_90_23 : ins 90 23 = some (.aload_n 0) := by decide +kernel
theorem i_90_24 : ins 90 24 = some (.getfield 19) := by decide +kernel
theorem i_90_27 : ins 90 27 = some (.invokevirtual 140) := by decide +kernel
theorem i_90_30 : ins 90 30 = some (.isub) := by decide +kernel
theorem i_90_31 : ins 90 31 = some (.ireturn) := by decide +kernel
theorem i_90_32 : ins 90 32 = some (.aload_n 0) := by decide +kernel
theorem i_90_33 : ins 90 33 = some (.getfield 30) := by decide +kernel
theorem i_90_36 : ins 90 36 = some (.aload_n 0) := by decide +kernel
theorem i_90_37 : ins 90 37 = some (.getfield 26) := by decide +kernel
theorem i_90_40 : ins 90 40 = some (.invokevirtual 144) := by decide +kernel
theorem i_90_43 : ins 90 43 = some (.aload_n 0) := by decide +kernel
theorem i_90_44 : ins 90 44 = some (.getfield 38) := by decide +kernel
theorem i_90_47 : ins 90 47 = some (.invokevirtual 147) := by decide +kernel
theorem i_90_50 : ins 90 50 = some (.aload_n 0) := by decide +kernel
theorem i_90_51 : ins 90 51 = some (.getfield 47) := by decide +kernel
theorem i_90_54 : ins 90 54 = some (.invokevirtual 150) := by decide +kernel
theorem i_90_57 : ins 90 57 = some (.aload_n 0) := by decide +kernel
theorem i_90_58 : ins 90 58 = some (.iconst 1) := by decide +kernel
theorem i_90_59 : ins 90 59 = some (.putfield 153) := by decide +kernel
theorem i_90_62 : ins 90 62 = some (.aload_n 0) := by decide +kernel
theorem i_90_63 : ins 90 63 = some (.getfield 30) := by decide +kernel
theorem i_90_66 : ins 90 66 = some (.getfield 157) := by decide +kernel
theorem i_90_69 : ins 90 69 = some (.ireturn) := by decide +kernel
theorem o_91 : mOwn 91 = 7 := rfl
theorem i_91_0 : ins 91 0 = some (.aload_n 0) := by decide +kernel
theorem i_91_1 : ins 91 1 = some (.getfield 135) := by decide +kernel
theorem i_91_4 : ins 91 4 = some (.ireturn) := by decide +kernel
theorem o_92 : mOwn 92 = 7 := rfl
theorem i_92_0 : ins 92 0 = some (.aload_n 0) := by decide +kernel
theorem i_92_1 : ins 92 1 = some (.getfield 153) := by decide +kernel
theorem i_92_4 : ins 92 4 = some (.ifCond .ne 6) := by decide +kernel
theorem i_92_7 : ins 92 7 = some (.ldc 160) := by decide +kernel
theorem i_92_9 : ins 92 9 = some (.ireturn) := by decide +kernel
theorem i_92_10 : ins 92 10 = some (.iload_n 1) := by decide +kernel
theorem i_92_11 : ins 92 11 = some (.iconst 1) := by decide +kernel
theorem i_92_12 : ins 92 12 = some (.if_icmp .lt 9) := by decide +kernel
theorem i_92_15 : ins 92 15 = some (.iload_n 1) := by decide +kernel
theorem i_92_16 : ins 92 16 = some (.bipush 20) := by decide +kernel
theorem i_92_18 : ins 92 18 = some (.if_icmp .le 6) := by decide +kernel
theorem i_92_21 : ins 92 21 = some (.ldc 86) := by decide +kernel
theorem i_92_23 : ins 92 23 = some (.ireturn) := by decide +kernel
theorem i_92_24 : ins 92 24 = some (.aload_n 0) := by decide +kernel
theorem i_92_25 : ins 92 25 = some (.getfield 38) := by decide +kernel
theorem i_92_28 : ins 92 28 = some (.getfield 161) := by decide +kernel
theorem i_92_31 : ins 92 31 = some (.iload_n 1) := by decide +kernel
theorem i_92_32 : ins 92 32 = some (.iadd) := by decide +kernel
theorem i_92_33 : ins 92 33 = some (.sipush 999) := by decide +kernel
theorem i_92_36 : ins 92 36 = some (.if_icmp .le 6) := by decide +kernel
theorem i_92_39 : ins 92 39 = some (.ldc 127) := by decide +kernel
theorem i_92_41 : ins 92 41 = some (.ireturn) := by decide +kernel
theorem i_92_42 : ins 92 42 = some (.iconst 0) := by decide +kernel
theorem i_92_43 : ins 92 43 = some (.istore_n 2) := by decide +kernel
theorem i_92_44 : ins 92 44 = some (.iload_n 2) := by decide +kernel
theorem i_92_45 : ins 92 45 = some (.iload_n 1) := by decide +kernel
theorem i_92_46 : ins 92 46 = some (.if_icmp .ge 28) := by decide +kernel
theorem i_92_49 : ins 92 49 = some (.aload_n 0) := by decide +kernel
theorem i_92_50 : ins 92 50 = some (.getfield 47) := by decide +kernel
theorem i_92_53 : ins 92 53 = some (.aload_n 0) := by decide +kernel
theorem i_92_54 : ins 92 54 = some (.getfield 38) := by decide +kernel
theorem i_92_57 : ins 92 57 = some (.invokevirtual 164) := by decide +kernel
theorem i_92_60 : ins 92 60 = some (.aload_n 0) := by decide +kernel
theorem i_92_61 : ins 92 61 = some (.getfield 38) := by decide +kernel
theorem i_92_64 : ins 92 64 = some (.iconst 1) := by decide +kernel
theorem i_92_65 : ins 92 65 = some (.invokevirtual 168) := by decide +kernel
theorem i_92_68 : ins 92 68 = some (.iinc 2 1) := by decide +kernel
theorem i_92_71 : ins 92 71 = some (.goto (-27)) := by decide +kernel
theorem i_92_74 : ins 92 74 = some (.aload_n 0) := by decide +kernel
theorem i_92_75 : ins 92 75 = some (.getfield 38) := by decide +kernel
theorem i_92_78 : ins 92 78 = some (.getfield 172) := by decide +kernel
theorem i_92_81 : ins 92 81 = some (.ireturn) := by decide +kernel
theorem o_93 : mOwn 93 = 7 := rfl
theorem i_93_0 : ins 93 0 = some (.aload_n 0) := by decide +kernel
theorem i_93_1 : ins 93 1 = some (.iload_n 1) := by decide +kernel
theorem i_93_2 : ins 93 2 = some (.invokevirtual 175) := by decide +kernel
theorem i_93_5 : ins 93 5 = some (.ifCond .eq 11) := by decide +kernel
theorem i_93_8 : ins 93 8 = some (.iload_n 2) := by decide +kernel
theorem i_93_9 : ins 93 9 = some (.iconst 3) := by decide +kernel
theorem i_93_10 : ins 93 10 = some (.invokestatic 119) := by decide +kernel
theorem i_93_13 : ins 93 13 = some (.ifCond .ne 6) := by decide +kernel
theorem i_93_16 : ins 93 16 = some (.ldc 86) := by decide +kernel
theorem i_93_18 : ins 93 18 = some (.ireturn) := by decide +kernel
theorem i_93_19 : ins 93 19 = some (.aload_n 0) := by decide +kernel
theorem i_93_20 : ins 93 20 = some (.getfield 38) := by decide +kernel
theorem i_93_23 : ins 93 23 = some (.getfield 178) := by decide +kernel
theorem i_93_26 : ins 93 26 = some (.iload_n 1) := by decide +kernel
theorem i_93_27 : ins 93 27 = some (.iaload) := by decide +kernel
theorem i_93_28 : ins 93 28 = some (.iconst 1) := by decide +kernel
theorem i_93_29 : ins 93 29 = some (.if_icmp .eq 6) := by decide +kernel
theorem i_93_32 : ins 93 32 = some (.ldc 160) := by decide +kernel
theorem i_93_34 : ins 93 34 = some (.ireturn) := by decide +kernel
theorem i_93_35 : ins 93 35 = some (.aload_n 0) := by decide +kernel
theorem i_93_36 : ins 93 36 = some (.getfield 38) := by decide +kernel
theorem i_93_39 : ins 93 39 = some (.iload_n 1) := by decide +kernel
theorem i_93_40 : ins 93 40 = some (.invokevirtual 182) := by decide +kernel
theorem i_93_43 : ins 93 43 = some (.istore_n 3) := by decide +kernel
theorem i_93_44 : ins 93 44 = some (.aload_n 0) := by decide +kernel
theorem i_93_45 : ins 93 45 = some (.getfield 47) := by decide +kernel
theorem i_93_48 : ins 93 48 = some (.aload_n 0) := by decide +kernel
theorem i_93_49 : ins 93 49 = some (.getfield 38) := by decide +kernel
theorem i_93_52 : ins 93 52 = some (.invokevirtual 164) := by decide +kernel
theorem i_93_55 : ins 93 55 = some (.aload_n 0) := by decide +kernel
theorem i_93_56 : ins 93 56 = some (.getfield 38) := by decide +kernel
theorem i_93_59 : ins 93 59 = some (.iload_n 1) := by decide +kernel
theorem i_93_60 : ins 93 60 = some (.iload_n 2) := by decide +kernel
theorem i_93_61 : ins 93 61 = some (.invokevirtual 185) := by decide +kernel
theorem i_93_64 : ins 93 64 = some (.iload_n 3) := by decide +kernel
theorem i_93_65 : ins 93 65 = some (.ireturn) := by decide +kernel
theorem o_94 : mOwn 94 = 7 := rfl
theorem i_94_0 : ins 94 0 = some (.aload_n 0) := by decide +kernel
theorem i_94_1 : ins 94 1 = some (.iload_n 1) := by decide +kernel
theorem i_94_2 : ins 94 2 = some (.invokevirtual 175) := by decide +kernel
theorem i_94_5 : ins 94 5 = some (.ifCond .ne 6) := by decide +kernel
theorem i_94_8 : ins 94 8 = some (.ldc 86) := by decide +kernel
theorem i_94_10 : ins 94 10 = some (.ireturn) := by decide +kernel
theorem i_94_11 : ins 94 11 = some (.aload_n 0) := by decide +kernel
theorem i_94_12 : ins 94 12 = some (.getfield 38) := by decide +kernel
theorem i_94_15 : ins 94 15 = some (.iload_n 1) := by decide +kernel
theorem i_94_16 : ins 94 16 = some (.invokevirtual 189) := by decide +kernel
theorem i_94_19 : ins 94 19 = some (.istore_n 2) := by decide +kernel
theorem i_94_20 : ins 94 20 = some (.iload_n 2) := by decide +kernel
theorem i_94_21 : ins 94 21 = some (.ldc 192) := by decide +kernel
theorem i_94_23 : ins 94 23 = some (.if_icmp .ne 6) := by decide +kernel
theorem i_94_26 : ins 94 26 = some (.ldc 160) := by decide +kernel
theorem i_94_28 : ins 94 28 = some (.ireturn) := by decide +kernel
theorem i_94_29 : ins 94 29 = some (.aload_n 0) := by decide +kernel
theorem i_94_30 : ins 94 30 = some (.getfield 47) := by decide +kernel
theorem i_94_33 : ins 94 33 = some (.aload_n 0) := by decide +kernel
theorem i_94_34 : ins 94 34 = some (.getfield 38) := by decide +kernel
theorem i_94_37 : ins 94 37 = some (.invokevirtual 164) := by decide +kernel
theorem i_94_40 : ins 94 40 = some (.aload_n 0) := by decide +kernel
theorem i_94_41 : ins 94 41 = some (.getfield 38) := by decide +kernel
theorem i_94_44 : ins 94 44 = some (.iload_n 2) := by decide +kernel
theorem i_94_45 : ins 94 45 = some (.iconst 3) := by decide +kernel
theorem i_94_46 : ins 94 46 = some (.invokevirtual 193) := by decide +kernel
theorem i_94_49 : ins 94 49 = some (.aload_n 0) := by decide +kernel
theorem i_94_50 : ins 94 50 = some (.getfield 38) := by decide +kernel
theorem i_94_53 : ins 94 53 = some (.getfield 172) := by decide +kernel
theorem i_94_56 : ins 94 56 = some (.ireturn) := by decide +kernel
theorem o_95 : mOwn 95 = 7 := rfl
theorem i_95_0 : ins 95 0 = some (.aload_n 0) := by decide +kernel
theorem i_95_1 : ins 95 1 = some (.getfield 153) := by decide +kernel
theorem i_95_4 : ins 95 4 = some (.ifCond .ne 6) := by decide +kernel
theorem i_95_7 : ins 95 7 = some (.ldc 160) := by decide +kernel
theorem i_95_9 : ins 95 9 = some (.ireturn) := by decide +kernel
theorem i_95_10 : ins 95 10 = some (.iload_n 1) := by decide +kernel
theorem i_95_11 : ins 95 11 = some (.iconst 3) := by decide +kernel
theorem i_95_12 : ins 95 12 = some (.invokestatic 119) := by decide +kernel
theorem i_95_15 : ins 95 15 = some (.ifCond .eq 12) := by decide +kernel
theorem i_95_18 : ins 95 18 = some (.iload_n 2) := by decide +kernel
theorem i_95_19 : ins 95 19 = some (.bipush 9) := by decide +kernel
theorem i_95_21 : ins 95 21 = some (.invokestatic 119) := by decide +kernel
theorem i_95_24 : ins 95 24 = some (.ifCond .ne 6) := by decide +kernel
theorem i_95_27 : ins 95 27 = some (.ldc 86) := by decide +kernel
theorem i_95_29 : ins 95 29 = some (.ireturn) := by decide +kernel
theorem i_95_30 : ins 95 30 = some (.bipush 10) := by decide +kernel
theorem i_95_32 : ins 95 32 = some (.aload_n 0) := by decide +kernel
theorem i_95_33 : ins 95 33 = some (.getfield 38) := by decide +kernel
theorem i_95_36 : ins 95 36 = some (.getfield 196) := by decide +kernel
theorem i_95_39 : ins 95 39 = some (.imul) := by decide +kernel
theorem i_95_40 : ins 95 40 = some (.aload_n 0) := by decide +kernel
theorem i_95_41 : ins 95 41 = some (.getfield 38) := by decide +kernel
theorem i_95_44 : ins 95 44 = some (.getfield 199) := by decide +kernel
theorem i_95_47 : ins 95 47 = some (.iadd) := by decide +kernel
theorem i_95_48 : ins 95 48 = some (.istore_n 3) := by decide +kernel
theorem i_95_49 : ins 95 49 = some (.aload_n 0) := by decide +kernel
theorem i_95_50 : ins 95 50 = some (.getfield 47) := by decide +kernel
theorem i_95_53 : ins 95 53 = some (.aload_n 0) := by decide +kernel
theorem i_95_54 : ins 95 54 = some (.getfield 38) := by decide +kernel
theorem i_95_57 : ins 95 57 = some (.invokevirtual 164) := by decide +kernel
theorem i_95_60 : ins 95 60 = some (.aload_n 0) := by decide +kernel
theorem i_95_61 : ins 95 61 = some (.getfield 38) := by decide +kernel
theorem i_95_64 : ins 95 64 = some (.iload_n 1) := by decide +kernel
theorem i_95_65 : ins 95 65 = some (.putfield 196) := by decide +kernel
theorem i_95_68 : ins 95 68 = some (.aload_n 0) := by decide +kernel
theorem i_95_69 : ins 95 69 = some (.getfield 38) := by decide +kernel
theorem i_95_72 : ins 95 72 = some (.iload_n 2) := by decide +kernel
theorem i_95_73 : ins 95 73 = some (.putfield 199) := by decide +kernel
theorem i_95_76 : ins 95 76 = some (.iload_n 3) := by decide +kernel
theorem i_95_77 : ins 95 77 = some (.ireturn) := by decide +kernel
theorem o_96 : mOwn 96 = 7 := rfl
theorem i_96_0 : ins 96 0 = some (.aload_n 0) := by decide +kernel
theorem i_96_1 : ins 96 1 = some (.getfield 47) := by decide +kernel
theorem i_96_4 : ins 96 4 = some (.invokevirtual 202) := by decide +kernel
theorem i_96_7 : ins 96 7 = some (.ifCond .ne 6) := by decide +kernel
theorem i_96_10 : ins 96 10 = some (.ldc 160) := by decide +kernel
theorem i_96_12 : ins 96 12 = some (.ireturn) := by decide +kernel
theorem i_96_13 : ins 96 13 = some (.aload_n 0) := by decide +kernel
theorem i_96_14 : ins 96 14 = some (.getfield 47) := by decide +kernel
theorem i_96_17 : ins 96 17 = some (.aload_n 0) := by decide +kernel
theorem i_96_18 : ins 96 18 = some (.getfield 38) := by decide +kernel
theorem i_96_21 : ins 96 21 = some (.invokevirtual 205) := by decide +kernel
theorem i_96_24 : ins 96 24 = some (.aload_n 0) := by decide +kernel
theorem i_96_25 : ins 96 25 = some (.getfield 47) := by decide +kernel
theorem i_96_28 : ins 96 28 = some (.invokevirtual 202) := by decide +kernel
theorem i_96_31 : ins 96 31 = some (.ireturn) := by decide +kernel
theorem o_97 : mOwn 97 = 7 := rfl
theorem i_97_0 : ins 97 0 = some (.aload_n 0) := by decide +kernel
theorem i_97_1 : ins 97 1 = some (.iload_n 1) := by decide +kernel
theorem i_97_2 : ins 97 2 = some (.invokevirtual 175) := by decide +kernel
theorem i_97_5 : ins 97 5 = some (.ifCond .ne 6) := by decide +kernel
theorem i_97_8 : ins 97 8 = some (.ldc 86) := by decide +kernel
theorem i_97_10 : ins 97 10 = some (.ireturn) := by decide +kernel
theorem i_97_11 : ins 97 11 = some (.iload_n 2) := by decide +kernel
theorem i_97_12 : ins 97 12 = some (.tableswitch 98 0 5 #[40, 49, 59, 69, 78, 88]) := by decide +kernel
theorem i_97_52 : ins 97 52 = some (.aload_n 0) := by decide +kernel
theorem i_97_53 : ins 97 53 = some (.getfield 38) := by decide +kernel
theorem i_97_56 : ins 97 56 = some (.iload_n 1) := by decide +kernel
theorem i_97_57 : ins 97 57 = some (.invokevirtual 189) := by decide +kernel
theorem i_97_60 : ins 97 60 = some (.ireturn) := by decide +kernel
theorem i_97_61 : ins 97 61 = some (.aload_n 0) := by decide +kernel
theorem i_97_62 : ins 97 62 = some (.getfield 38) := by decide +kernel
theorem i_97_65 : ins 97 65 = some (.getfield 178) := by decide +kernel
theorem i_97_68 : ins 97 68 = some (.iload_n 1) := by decide +kernel
theorem i_97_69 : ins 97 69 = some (.iaload) := by decide +kernel
theorem i_97_70 : ins 97 70 = some (.ireturn) := by decide +kernel
theorem i_97_71 : ins 97 71 = some (.aload_n 0) := by decide +kernel
theorem i_97_72 : ins 97 72 = some (.getfield 38) := by decide +kernel
theorem i_97_75 : ins 97 75 = some (.getfield 208) := by decide +kernel
theorem i_97_78 : ins 97 78 = some (.iload_n 1) := by decide +kernel
theorem i_97_79 : ins 97 79 = some (.iaload) := by decide +kernel
theorem i_97_80 : ins 97 80 = some (.ireturn) := by decide +kernel
theorem i_97_81 : ins 97 81 = some (.aload_n 0) := by decide +kernel
theorem i_97_82 : ins 97 82 = some (.getfield 38) := by decide +kernel
theorem i_97_85 : ins 97 85 = some (.iload_n 1) := by decide +kernel
theorem i_97_86 : ins 97 86 = some (.invokevirtual 182) := by decide +kernel
theorem i_97_89 : ins 97 89 = some (.ireturn) := by decide +kernel
theorem i_97_90 : ins 97 90 = some (.aload_n 0) := by decide +kernel
theorem i_97_91 : ins 97 91 = some (.getfield 30) := by decide +kernel
theorem i_97_94 : ins 97 94 = some (.getfield 211) := by decide +kernel
theorem i_97_97 : ins 97 97 = some (.iload_n 1) := by decide +kernel
theorem i_97_98 : ins 97 98 = some (.iaload) := by decide +kernel
theorem i_97_99 : ins 97 99 = some (.ireturn) := by decide +kernel
theorem i_97_100 : ins 97 100 = some (.aload_n 0) := by decide +kernel
theorem i_97_101 : ins 97 101 = some (.getfield 38) := by decide +kernel
theorem i_97_104 : ins 97 104 = some (.getfield 214) := by decide +kernel
theorem i_97_107 : ins 97 107 = some (.iload_n 1) := by decide +kernel
theorem i_97_108 : ins 97 108 = some (.iaload) := by decide +kernel
theorem i_97_109 : ins 97 109 = some (.ireturn) := by decide +kernel
theorem i_97_110 : ins 97 110 = some (.ldc 86) := by decide +kernel
theorem i_97_112 : ins 97 112 = some (.ireturn) := by decide +kernel
theorem o_98 : mOwn 98 = 7 := rfl
theorem i_98_0 : ins 98 0 = some (.iload_n 1) := by decide +kernel
theorem i_98_1 : ins 98 1 = some (.ifCond .ge 8) := by decide +kernel
theorem i_98_4 : ins 98 4 = some (.ldc 86) := by decide +kernel
theorem i_98_6 : ins 98 6 = some (.goto 11) := by decide +kernel
theorem i_98_9 : ins 98 9 = some (.aload_n 0) := by decide +kernel
theorem i_98_10 : ins 98 10 = some (.getfield 38) := by decide +kernel
theorem i_98_13 : ins 98 13 = some (.iload_n 1) := by decide +kernel
theorem i_98_14 : ins 98 14 = some (.invokevirtual 217) := by decide +kernel
theorem i_98_17 : ins 98 17 = some (.ireturn) := by decide +kernel
theorem o_99 : mOwn 99 = 7 := rfl
theorem i_99_0 : ins 99 0 = some (.aload_n 0) := by decide +kernel
theorem i_99_1 : ins 99 1 = some (.getfield 153) := by decide +kernel
theorem i_99_4 : ins 99 4 = some (.ifCond .ne 6) := by decide +kernel
theorem i_99_7 : ins 99 7 = some (.ldc 160) := by decide +kernel
theorem i_99_9 : ins 99 9 = some (.ireturn) := by decide +kernel
theorem i_99_10 : ins 99 10 = some (.iload_n 1) := by decide +kernel
theorem i_99_11 : ins 99 11 = some (.bipush 60) := by decide +kernel
theorem i_99_13 : ins 99 13 = some (.invokestatic 119) := by decide +kernel
theorem i_99_16 : ins 99 16 = some (.ifCond .eq 11) := by decide +kernel
theorem i_99_19 : ins 99 19 = some (.iload_n 2) := by decide +kernel
theorem i_99_20 : ins 99 20 = some (.iconst 3) := by decide +kernel
theorem i_99_21 : ins 99 21 = some (.invokestatic 119) := by decide +kernel
theorem i_99_24 : ins 99 24 = some (.ifCond .ne 6) := by decide +kernel
theorem i_99_27 : ins 99 27 = some (.ldc 86) := by decide +kernel
theorem i_99_29 : ins 99 29 = some (.ireturn) := by decide +kernel
theorem i_99_30 : ins 99 30 = some (.aload_n 0) := by decide +kernel
theorem i_99_31 : ins 99 31 = some (.getfield 56) := by decide +kernel
theorem i_99_34 : ins 99 34 = some (.iload_n 1) := by decide +kernel
theorem i_99_35 : ins 99 35 = some (.invokevirtual 220) := by decide +kernel
theorem i_99_38 : ins 99 38 = some (.iconst 1) := by decide +kernel
theorem i_99_39 : ins 99 39 = some (.iload_n 2) := by decide +kernel
theorem i_99_40 : ins 99 40 = some (.iadd) := by decide +kernel
theorem i_99_41 : ins 99 41 = some (.invokevirtual 224) := by decide +kernel
theorem i_99_44 : ins 99 44 = some (.ireturn) := by decide +kernel
theorem o_100 : mOwn 100 = 7 := rfl
theorem i_100_0 : ins 100 0 = some (.aload_n 0) := by decide +kernel
theorem i_100_1 : ins 100 1 = some (.getfield 153) := by decide +kernel
theorem i_100_4 : ins 100 4 = some (.ifCond .ne 6) := by decide +kernel
theorem i_100_7 : ins 100 7 = some (.ldc 160) := by decide +kernel
theorem i_100_9 : ins 100 9 = some (.ireturn) := by decide +kernel
theorem i_100_10 : ins 100 10 = some (.iload_n 1) := by decide +kernel
theorem i_100_11 : ins 100 11 = some (.bipush 60) := by decide +kernel
theorem i_100_13 : ins 100 13 = some (.invokestatic 119) := by decide +kernel
theorem i_100_16 : ins 100 16 = some (.ifCond .eq 7) := by decide +kernel
theorem i_100_19 : ins 100 19 = some (.iload_n 2) := by decide +kernel
theorem i_100_20 : ins 100 20 = some (.ifCond .ge 6) := by decide +kernel
theorem i_100_23 : ins 100 23 = some (.ldc 86) := by decide +kernel
theorem i_100_25 : ins 100 25 = some (.ireturn) := by decide +kernel
theorem i_100_26 : ins 100 26 = some (.aload_n 0) := by decide +kernel
theorem i_100_27 : ins 100 27 = some (.getfield 56) := by decide +kernel
theorem i_100_30 : ins 100 30 = some (.iload_n 1) := by decide +kernel
theorem i_100_31 : ins 100 31 = some (.invokevirtual 220) := by decide +kernel
theorem i_100_34 : ins 100 34 = some (.iload_n 2) := by decide +kernel
theorem i_100_35 : ins 100 35 = some (.invokevirtual 217) := by decide +kernel
theorem i_100_38 : ins 100 38 = some (.ireturn) := by decide +kernel
theorem o_101 : mOwn 101 = 7 := rfl
theorem i_101_0 : ins 101 0 = some (.aload_n 0) := by decide +kernel
theorem i_101_1 : ins 101 1 = some (.getfield 153) := by decide +kernel
theorem i_101_4 : ins 101 4 = some (.ifCond .eq 13) := by decide +kernel
theorem i_101_7 : ins 101 7 = some (.aload_n 0) := by decide +kernel
theorem i_101_8 : ins 101 8 = some (.getfield 56) := by decide +kernel
theorem i_101_11 : ins 101 11 = some (.invokevirtual 227) := by decide +kernel
theorem i_101_14 : ins 101 14 = some (.goto 5) := by decide +kernel
theorem i_101_17 : ins 101 17 = some (.ldc 160) := by decide +kernel
theorem i_101_19 : ins 101 19 = some (.ireturn) := by decide +kernel
theorem o_102 : mOwn 102 = 7 := rfl
theorem i_102_0 : ins 102 0 = some (.aload_n 0) := by decide +kernel
theorem i_102_1 : ins 102 1 = some (.getfield 153) := by decide +kernel
theorem i_102_4 : ins 102 4 = some (.ifCond .ne 6) := by decide +kernel
theorem i_102_7 : ins 102 7 = some (.ldc 160) := by decide +kernel
theorem i_102_9 : ins 102 9 = some (.ireturn) := by decide +kernel
theorem i_102_10 : ins 102 10 = some (.iload_n 1) := by decide +kernel
theorem i_102_11 : ins 102 11 = some (.ifCond .lt 11) := by decide +kernel
theorem i_102_14 : ins 102 14 = some (.iload_n 2) := by decide +kernel
theorem i_102_15 : ins 102 15 = some (.iconst 1) := by decide +kernel
theorem i_102_16 : ins 102 16 = some (.invokestatic 119) := by decide +kernel
theorem i_102_19 : ins 102 19 = some (.ifCond .ne 6) := by decide +kernel
theorem i_102_22 : ins 102 22 = some (.ldc 86) := by decide +kernel
theorem i_102_24 : ins 102 24 = some (.ireturn) := by decide +kernel
theorem i_102_25 : ins 102 25 = some (.aload_n 0) := by decide +kernel
theorem i_102_26 : ins 102 26 = some (.getfield 38) := by decide +kernel
theorem i_102_29 : ins 102 29 = some (.iload_n 1) := by decide +kernel
theorem i_102_30 : ins 102 30 = some (.invokevirtual 217) := by decide +kernel
theorem i_102_33 : ins 102 33 = some (.istore_n 3) := by decide +kernel
theorem i_102_34 : ins 102 34 = some (.iload_n 3) := by decide +kernel
theorem i_102_35 : ins 102 35 = some (.ldc 192) := by decide +kernel
theorem i_102_37 : ins 102 37 = some (.if_icmp .ne 8) := by decide +kernel
theorem i_102_40 : ins 102 40 = some (.ldc 192) := by decide +kernel
theorem i_102_42 : ins 102 42 = some (.goto 20) := by decide +kernel
theorem i_102_45 : ins 102 45 = some (.aload_n 0) := by decide +kernel
theorem i_102_46 : ins 102 46 = some (.getfield 56) := by decide +kernel
theorem i_102_49 : ins 102 49 = some (.iload_n 3) := by decide +kernel
theorem i_102_50 : ins 102 50 = some (.iload_n 2) := by decide +kernel
theorem i_102_51 : ins 102 51 = some (.ifCond .ne 7) := by decide +kernel
theorem i_102_54 : ins 102 54 = some (.iconst 1) := by decide +kernel
theorem i_102_55 : ins 102 55 = some (.goto 4) := by decide +kernel
theorem i_102_58 : ins 102 58 = some (.iconst 0) := by decide +kernel
theorem i_102_59 : ins 102 59 = some (.invokevirtual 230) := by decide +kernel
theorem i_102_62 : ins 102 62 = some (.ireturn) := by decide +kernel
theorem o_103 : mOwn 103 = 7 := rfl
theorem i_103_0 : ins 103 0 = some (.aload_n 0) := by decide +kernel
theorem i_103_1 : ins 103 1 = some (.iload_n 1) := by decide +kernel
theorem i_103_2 : ins 103 2 = some (.invokevirtual 175) := by decide +kernel
theorem i_103_5 : ins 103 5 = some (.ifCond .eq 11) := by decide +kernel
theorem i_103_8 : ins 103 8 = some (.iload_n 2) := by decide +kernel
theorem i_103_9 : ins 103 9 = some (.iconst 1) := by decide +kernel
theorem i_103_10 : ins 103 10 = some (.invokestatic 119) := by decide +kernel
theorem i_103_13 : ins 103 13 = some (.ifCond .ne 6) := by decide +kernel
theorem i_103_16 : ins 103 16 = some (.ldc 86) := by decide +kernel
theorem i_103_18 : ins 103 18 = some (.ireturn) := by decide +kernel
theorem i_103_19 : ins 103 19 = some (.aload_n 0) := by decide +kernel
theorem i_103_20 : ins 103 20 = some (.getfield 56) := by decide +kernel
theorem i_103_23 : ins 103 23 = some (.iload_n 1) := by decide +kernel
theorem i_103_24 : ins 103 24 = some (.iload_n 2) := by decide +kernel
theorem i_103_25 : ins 103 25 = some (.ifCond .ne 7) := by decide +kernel
theorem i_103_28 : ins 103 28 = some (.iconst 2) := by decide +kernel
theorem i_103_29 : ins 103 29 = some (.goto 4) := by decide +kernel
theorem i_103_32 : ins 103 32 = some (.iconst 3) := by decide +kernel
theorem i_103_33 : ins 103 33 = some (.invokevirtual 234) := by decide +kernel
theorem i_103_36 : ins 103 36 = some (.ireturn) := by decide +kernel
theorem o_104 : mOwn 104 = 7 := rfl
theorem i_104_0 : ins 104 0 = some (.aload_n 0) := by decide +kernel
theorem i_104_1 : ins 104 1 = some (.getfield 153) := by decide +kernel
theorem i_104_4 : ins 104 4 = some (.ifCond .ne 6) := by decide +kernel
theorem i_104_7 : ins 104 7 = some (.ldc 160) := by decide +kernel
theorem i_104_9 : ins 104 9 = some (.ireturn) := by decide +kernel
theorem i_104_10 : ins 104 10 = some (.iload_n 1) := by decide +kernel
theorem i_104_11 : ins 104 11 = some (.iconst 3) := by decide +kernel
theorem i_104_12 : ins 104 12 = some (.invokestatic 119) := by decide +kernel
theorem i_104_15 : ins 104 15 = some (.ifCond .eq 14) := by decide +kernel
theorem i_104_18 : ins 104 18 = some (.aload_n 0) := by decide +kernel
theorem i_104_19 : ins 104 19 = some (.getfield 56) := by decide +kernel
theorem i_104_22 : ins 104 22 = some (.iload_n 1) := by decide +kernel
theorem i_104_23 : ins 104 23 = some (.invokevirtual 238) := by decide +kernel
theorem i_104_26 : ins 104 26 = some (.goto 5) := by decide +kernel
theorem i_104_29 : ins 104 29 = some (.ldc 86) := by decide +kernel
theorem i_104_31 : ins 104 31 = some (.ireturn) := by decide +kernel
theorem o_105 : mOwn 105 = 7 := rfl
theorem i_105_0 : ins 105 0 = some (.aload_n 0) := by decide +kernel
theorem i_105_1 : ins 105 1 = some (.getfield 153) := by decide +kernel
theorem i_105_4 : ins 105 4 = some (.ifCond .ne 6) := by decide +kernel
theorem i_105_7 : ins 105 7 = some (.ldc 160) := by decide +kernel
theorem i_105_9 : ins 105 9 = some (.ireturn) := by decide +kernel
theorem i_105_10 : ins 105 10 = some (.iload_n 1) := by decide +kernel
theorem i_105_11 : ins 105 11 = some (.bipush 8) := by decide +kernel
theorem i_105_13 : ins 105 13 = some (.invokestatic 119) := by decide +kernel
theorem i_105_16 : ins 105 16 = some (.ifCond .eq 14) := by decide +kernel
theorem i_105_19 : ins 105 19 = some (.aload_n 0) := by decide +kernel
theorem i_105_20 : ins 105 20 = some (.getfield 56) := by decide +kernel
theorem i_105_23 : ins 105 23 = some (.iload_n 1) := by decide +kernel
theorem i_105_24 : ins 105 24 = some (.invokevirtual 241) := by decide +kernel
theorem i_105_27 : ins 105 27 = some (.goto 5) := by decide +kernel
theorem i_105_30 : ins 105 30 = some (.ldc 86) := by decide +kernel
theorem i_105_32 : ins 105 32 = some (.ireturn) := by decide +kernel
theorem o_106 : mOwn 106 = 7 := rfl
theorem i_106_0 : ins 106 0 = some (.aload_n 0) := by decide +kernel
theorem i_106_1 : ins 106 1 = some (.getfield 153) := by decide +kernel
theorem i_106_4 : ins 106 4 = some (.ifCond .ne 6) := by decide +kernel
theorem i_106_7 : ins 106 7 = some (.ldc 160) := by decide +kernel
theorem i_106_9 : ins 106 9 = some (.ireturn) := by decide +kernel
theorem i_106_10 : ins 106 10 = some (.iload_n 1) := by decide +kernel
theorem i_106_11 : ins 106 11 = some (.bipush 16) := by decide +kernel
theorem i_106_13 : ins 106 13 = some (.invokestatic 119) := by decide +kernel
theorem i_106_16 : ins 106 16 = some (.ifCond .eq 30) := by decide +kernel
theorem i_106_19 : ins 106 19 = some (.iload_n 2) := by decide +kernel
theorem i_106_20 : ins 106 20 = some (.bipush 8) := by decide +kernel
theorem i_106_22 : ins 106 22 = some (.invokestatic 119) := by decide +kernel
theorem i_106_25 : ins 106 25 = some (.ifCond .eq 21) := by decide +kernel
theorem i_106_28 : ins 106 28 = some (.iload_n 3) := by decide +kernel
theorem i_106_29 : ins 106 29 = some (.bipush 10) := by decide +kernel
theorem i_106_31 : ins 106 31 = some (.invokestatic 119) := by decide +kernel
theorem i_106_34 : ins 106 34 = some (.ifCond .eq 12) := by decide +kernel
theorem i_106_37 : ins 106 37 = some (.iload 4) := by decide +kernel
theorem i_106_39 : ins 106 39 = some (.iconst 1) := by decide +kernel
theorem i_106_40 : ins 106 40 = some (.invokestatic 119) := by decide +kernel
theorem i_106_43 : ins 106 43 = some (.ifCond .ne 6) := by decide +kernel
theorem i_106_46 : ins 106 46 = some (.ldc 86) := by decide +kernel
theorem i_106_48 : ins 106 48 = some (.ireturn) := by decide +kernel
theorem i_106_49 : ins 106 49 = some (.aload_n 0) := by decide +kernel
theorem i_106_50 : ins 106 50 = some (.getfield 56) := by decide +kernel
theorem i_106_53 : ins 106 53 = some (.iload_n 1) := by decide +kernel
theorem i_106_54 : ins 106 54 = some (.iload_n 2) := by decide +kernel
theorem i_106_55 : ins 106 55 = some (.iload_n 3) := by decide +kernel
theorem i_106_56 : ins 106 56 = some (.iload 4) := by decide +kernel
theorem i_106_58 : ins 106 58 = some (.ifCond .ne 7) := by decide +kernel
theorem i_106_61 : ins 106 61 = some (.iconst 1) := by decide +kernel
theorem i_106_62 : ins 106 62 = some (.goto 4) := by decide +kernel
theorem i_106_65 : ins 106 65 = some (.iconst 0) := by decide +kernel
theorem i_106_66 : ins 106 66 = some (.invokevirtual 244) := by decide +kernel
theorem i_106_69 : ins 106 69 = some (.ireturn) := by decide +kernel
theorem o_107 : mOwn 107 = 7 := rfl
theorem i_107_0 : ins 107 0 = some (.aload_n 0) := by decide +kernel
theorem i_107_1 : ins 107 1 = some (.getfield 153) := by decide +kernel
theorem i_107_4 : ins 107 4 = some (.ifCond .ne 6) := by decide +kernel
theorem i_107_7 : ins 107 7 = some (.ldc 160) := by decide +kernel
theorem i_107_9 : ins 107 9 = some (.ireturn) := by decide +kernel
theorem i_107_10 : ins 107 10 = some (.iload_n 1) := by decide +kernel
theorem i_107_11 : ins 107 11 = some (.iconst 1) := by decide +kernel
theorem i_107_12 : ins 107 12 = some (.if_icmp .lt 17) := by decide +kernel
theorem i_107_15 : ins 107 15 = some (.iload_n 1) := by decide +kernel
theorem i_107_16 : ins 107 16 = some (.bipush 9) := by decide +kernel
theorem i_107_18 : ins 107 18 = some (.if_icmp .gt 11) := by decide +kernel
theorem i_107_21 : ins 107 21 = some (.iload_n 2) := by decide +kernel
theorem i_107_22 : ins 107 22 = some (.iconst 1) := by decide +kernel
theorem i_107_23 : ins 107 23 = some (.invokestatic 119) := by decide +kernel
theorem i_107_26 : ins 107 26 = some (.ifCond .ne 6) := by decide +kernel
theorem i_107_29 : ins 107 29 = some (.ldc 86) := by decide +kernel
theorem i_107_31 : ins 107 31 = some (.ireturn) := by decide +kernel
theorem i_107_32 : ins 107 32 = some (.aload_n 0) := by decide +kernel
theorem i_107_33 : ins 107 33 = some (.getfield 56) := by decide +kernel
theorem i_107_36 : ins 107 36 = some (.iload_n 1) := by decide +kernel
theorem i_107_37 : ins 107 37 = some (.iload_n 2) := by decide +kernel
theorem i_107_38 : ins 107 38 = some (.ifCond .ne 7) := by decide +kernel
theorem i_107_41 : ins 107 41 = some (.iconst 1) := by decide +kernel
theorem i_107_42 : ins 107 42 = some (.goto 4) := by decide +kernel
theorem i_107_45 : ins 107 45 = some (.iconst 0) := by decide +kernel
theorem i_107_46 : ins 107 46 = some (.invokevirtual 248) := by decide +kernel
theorem i_107_49 : ins 107 49 = some (.ireturn) := by decide +kernel
theorem o_108 : mOwn 108 = 7 := rfl
theorem i_108_0 : ins 108 0 = some (.aload_n 0) := by decide +kernel
theorem i_108_1 : ins 108 1 = some (.getfield 153) := by decide +kernel
theorem i_108_4 : ins 108 4 = some (.ifCond .ne 6) := by decide +kernel
theorem i_108_7 : ins 108 7 = some (.ldc 160) := by decide +kernel
theorem i_108_9 : ins 108 9 = some (.ireturn) := by decide +kernel
theorem i_108_10 : ins 108 10 = some (.iload_n 1) := by decide +kernel
theorem i_108_11 : ins 108 11 = some (.invokestatic 79) := by decide +kernel
theorem i_108_14 : ins 108 14 = some (.ifCond .eq 12) := by decide +kernel
theorem i_108_17 : ins 108 17 = some (.iload_n 3) := by decide +kernel
theorem i_108_18 : ins 108 18 = some (.bipush 16) := by decide +kernel
theorem i_108_20 : ins 108 20 = some (.invokestatic 119) := by decide +kernel
theorem i_108_23 : ins 108 23 = some (.ifCond .ne 6) := by decide +kernel
theorem i_108_26 : ins 108 26 = some (.ldc 86) := by decide +kernel
theorem i_108_28 : ins 108 28 = some (.ireturn) := by decide +kernel
theorem i_108_29 : ins 108 29 = some (.aload_n 0) := by decide +kernel
theorem i_108_30 : ins 108 30 = some (.getfield 10) := by decide +kernel
theorem i_108_33 : ins 108 33 = some (.iload_n 1) := by decide +kernel
theorem i_108_34 : ins 108 34 = some (.invokevirtual 98) := by decide +kernel
theorem i_108_37 : ins 108 37 = some (.ifCond .eq 9) := by decide +kernel
theorem i_108_40 : ins 108 40 = some (.aload_n 0) := by decide +kernel
theorem i_108_41 : ins 108 41 = some (.iconst 1) := by decide +kernel
theorem i_108_42 : ins 108 42 = some (.invokevirtual 87) := by decide +kernel
theorem i_108_45 : ins 108 45 = some (.ireturn) := by decide +kernel
theorem i_108_46 : ins 108 46 = some (.aload_n 0) := by decide +kernel
theorem i_108_47 : ins 108 47 = some (.getfield 10) := by decide +kernel
theorem i_108_50 : ins 108 50 = some (.iload_n 1) := by decide +kernel
theorem i_108_51 : ins 108 51 = some (.iload_n 2) := by decide +kernel
theorem i_108_52 : ins 108 52 = some (.iload_n 3) := by decide +kernel
theorem i_108_53 : ins 108 53 = some (.invokevirtual 101) := by decide +kernel
theorem i_108_56 : ins 108 56 = some (.ifCond .ne 9) := by decide +kernel
theorem i_108_59 : ins 108 59 = some (.aload_n 0) := by decide +kernel
theorem i_108_60 : ins 108 60 = some (.iconst 2) := by decide +kernel
theorem i_108_61 : ins 108 61 = some (.invokevirtual 87) := by decide +kernel
theorem i_108_64 : ins 108 64 = some (.ireturn) := by decide +kernel
theorem i_108_65 : ins 108 65 = some (.iconst 0) := by decide +kernel
theorem i_108_66 : ins 108 66 = some (.istore 4) := by decide +kernel
theorem i_108_68 : ins 108 68 = some (.iload 4) := by decide +kernel
theorem i_108_70 : ins 108 70 = some (.iload_n 3) := by decide +kernel
theorem i_108_71 : ins 108 71 = some (.if_icmp .ge 47) := by decide +kernel
theorem i_108_74 : ins 108 74 = some (.aload_n 0) := by decide +kernel
theorem i_108_75 : ins 108 75 = some (.getfield 10) := by decide +kernel
theorem i_108_78 : ins 108 78 = some (.iload_n 1) := by decide +kernel
theorem i_108_79 : ins 108 79 = some (.iload_n 2) := by decide +kernel
theorem i_108_80 : ins 108 80 = some (.iload 4) := by decide +kernel
theorem i_108_82 : ins 108 82 = some (.iadd) := by decide +kernel
theorem i_108_83 : ins 108 83 = some (.invokevirtual 251) := by decide +kernel
theorem i_108_86 : ins 108 86 = some (.istore 5) := by decide +kernel
theorem i_108_88 : ins 108 88 = some (.aload_n 0) := by decide +kernel
theorem i_108_89 : ins 108 89 = some (.iload 5) := by decide +kernel
theorem i_108_91 : ins 108 91 = some (.invokevirtual 175) := by decide +kernel
theorem i_108_94 : ins 108 94 = some (.ifCond .ne 6) := by decide +kernel
theorem i_108_97 : ins 108 97 = some (.ldc 86) := by decide +kernel
theorem i_108_99 : ins 108 99 = some (.ireturn) := by decide +kernel
theorem i_108_100 : ins 108 100 = some (.aload_n 0) := by decide +kernel
theorem i_108_101 : ins 108 101 = some (.getfield 56) := by decide +kernel
theorem i_108_104 : ins 108 104 = some (.getfield 254) := by decide +kernel
theorem i_108_107 : ins 108 107 = some (.iload 4) := by decide +kernel
theorem i_108_109 : ins 108 109 = some (.iload 5) := by decide +kernel
theorem i_108_111 : ins 108 111 = some (.iastore) := by decide +kernel
theorem i_108_112 : ins 108 112 = some (.iinc 4 1) := by decide +kernel
theorem i_108_115 : ins 108 115 = some (.goto (-47)) := by decide +kernel
theorem i_108_118 : ins 108 118 = some (.aload_n 0) := by decide +kernel
theorem i_108_119 : ins 108 119 = some (.aload_n 0) := by decide +kernel
theorem i_108_120 : ins 108 120 = some (.getfield 56) := by decide +kernel
theorem i_108_123 : ins 108 123 = some (.iload_n 3) := by decide +kernel
theorem i_108_124 : ins 108 124 = some (.invokevirtual 257) := by decide +kernel
theorem i_108_127 : ins 108 127 = some (.invokevirtual 95) := by decide +kernel
theorem i_108_130 : ins 108 130 = some (.ireturn) := by decide +kernel
theorem o_109 : mOwn 109 = 7 := rfl
theorem i_109_0 : ins 109 0 = some (.iload_n 1) := by decide +kernel
theorem i_109_1 : ins 109 1 = some (.iconst 1) := by decide +kernel
theorem i_109_2 : ins 109 2 = some (.invokestatic 119) := by decide +kernel
theorem i_109_5 : ins 109 5 = some (.ifCond .ne 6) := by decide +kernel
theorem i_109_8 : ins 109 8 = some (.ldc 86) := by decide +kernel
theorem i_109_10 : ins 109 10 = some (.ireturn) := by decide +kernel
theorem i_109_11 : ins 109 11 = some (.aload_n 0) := by decide +kernel
theorem i_109_12 : ins 109 12 = some (.getfield 153) := by decide +kernel
theorem i_109_15 : ins 109 15 = some (.ifCond .ne 6) := by decide +kernel
theorem i_109_18 : ins 109 18 = some (.ldc 160) := by decide +kernel
theorem i_109_20 : ins 109 20 = some (.ireturn) := by decide +kernel
theorem i_109_21 : ins 109 21 = some (.aload_n 0) := by decide +kernel
theorem i_109_22 : ins 109 22 = some (.getfield 67) := by decide +kernel
theorem i_109_25 : ins 109 25 = some (.iload_n 1) := by decide +kernel
theorem i_109_26 : ins 109 26 = some (.aaload) := by decide +kernel
theorem i_109_27 : ins 109 27 = some (.aload_n 0) := by decide +kernel
theorem i_109_28 : ins 109 28 = some (.getfield 30) := by decide +kernel
theorem i_109_31 : ins 109 31 = some (.invokevirtual 144) := by decide +kernel
theorem i_109_34 : ins 109 34 = some (.aload_n 0) := by decide +kernel
theorem i_109_35 : ins 109 35 = some (.getfield 71) := by decide +kernel
theorem i_109_38 : ins 109 38 = some (.iload_n 1) := by decide +kernel
theorem i_109_39 : ins 109 39 = some (.aaload) := by decide +kernel
theorem i_109_40 : ins 109 40 = some (.aload_n 0) := by decide +kernel
theorem i_109_41 : ins 109 41 = some (.getfield 38) := by decide +kernel
theorem i_109_44 : ins 109 44 = some (.invokevirtual 260) := by decide +kernel
theorem i_109_47 : ins 109 47 = some (.aload_n 0) := by decide +kernel
theorem i_109_48 : ins 109 48 = some (.getfield 75) := by decide +kernel
theorem i_109_51 : ins 109 51 = some (.iload_n 1) := by decide +kernel
theorem i_109_52 : ins 109 52 = some (.iconst 1) := by decide +kernel
theorem i_109_53 : ins 109 53 = some (.bastore) := by decide +kernel
theorem i_109_54 : ins 109 54 = some (.iconst 1) := by decide +kernel
theorem i_109_55 : ins 109 55 = some (.ireturn) := by decide +kernel
theorem o_110 : mOwn 110 = 7 := rfl
theorem i_110_0 : ins 110 0 = some (.iload_n 1) := by decide +kernel
theorem i_110_1 : ins 110 1 = some (.iconst 1) := by decide +kernel
theorem i_110_2 : ins 110 2 = some (.invokestatic 119) := by decide +kernel
theorem i_110_5 : ins 110 5 = some (.ifCond .ne 6) := by decide +kernel
theorem i_110_8 : ins 110 8 = some (.ldc 86) := by decide +kernel
theorem i_110_10 : ins 110 10 = some (.ireturn) := by decide +kernel
theorem i_110_11 : ins 110 11 = some (.aload_n 0) := by decide +kernel
theorem i_110_12 : ins 110 12 = some (.getfield 75) := by decide +kernel
theorem i_110_15 : ins 110 15 = some (.iload_n 1) := by decide +kernel
theorem i_110_16 : ins 110 16 = some (.baload) := by decide +kernel
theorem i_110_17 : ins 110 17 = some (.ifCond .ne 6) := by decide +kernel
theorem i_110_20 : ins 110 20 = some (.ldc 160) := by decide +kernel
theorem i_110_22 : ins 110 22 = some (.ireturn) := by decide +kernel
theorem i_110_23 : ins 110 23 = some (.aload_n 0) := by decide +kernel
theorem i_110_24 : ins 110 24 = some (.getfield 30) := by decide +kernel
theorem i_110_27 : ins 110 27 = some (.aload_n 0) := by decide +kernel
theorem i_110_28 : ins 110 28 = some (.getfield 67) := by decide +kernel
theorem i_110_31 : ins 110 31 = some (.iload_n 1) := by decide +kernel
theorem i_110_32 : ins 110 32 = some (.aaload) := by decide +kernel
theorem i_110_33 : ins 110 33 = some (.invokevirtual 144) := by decide +kernel
theorem i_110_36 : ins 110 36 = some (.aload_n 0) := by decide +kernel
theorem i_110_37 : ins 110 37 = some (.getfield 38) := by decide +kernel
theorem i_110_40 : ins 110 40 = some (.aload_n 0) := by decide +kernel
theorem i_110_41 : ins 110 41 = some (.getfield 71) := by decide +kernel
theorem i_110_44 : ins 110 44 = some (.iload_n 1) := by decide +kernel
theorem i_110_45 : ins 110 45 = some (.aaload) := by decide +kernel
theorem i_110_46 : ins 110 46 = some (.invokevirtual 260) := by decide +kernel
theorem i_110_49 : ins 110 49 = some (.aload_n 0) := by decide +kernel
theorem i_110_50 : ins 110 50 = some (.getfield 47) := by decide +kernel
theorem i_110_53 : ins 110 53 = some (.invokevirtual 150) := by decide +kernel
theorem i_110_56 : ins 110 56 = some (.iconst 1) := by decide +kernel
theorem i_110_57 : ins 110 57 = some (.ireturn) := by decide +kernel
theorem o_111 : mOwn 111 = 7 := rfl
theorem i_111_0 : ins 111 0 = some (.aload_n 0) := by decide +kernel
theorem i_111_1 : ins 111 1 = some (.iload_n 1) := by decide +kernel
theorem i_111_2 : ins 111 2 = some (.invokevirtual 175) := by decide +kernel
theorem i_111_5 : ins 111 5 = some (.ifCond .eq 15) := by decide +kernel
theorem i_111_8 : ins 111 8 = some (.aload_n 0) := by decide +kernel
theorem i_111_9 : ins 111 9 = some (.getfield 30) := by decide +kernel
theorem i_111_12 : ins 111 12 = some (.getfield 262) := by decide +kernel
theorem i_111_15 : ins 111 15 = some (.iload_n 1) := by decide +kernel
theorem i_111_16 : ins 111 16 = some (.iaload) := by decide +kernel
theorem i_111_17 : ins 111 17 = some (.goto 5) := by decide +kernel
theorem i_111_20 : ins 111 20 = some (.ldc 86) := by decide +kernel
theorem i_111_22 : ins 111 22 = some (.ireturn) := by decide +kernel
theorem o_112 : mOwn 112 = 7 := rfl
theorem i_112_0 : ins 112 0 = some (.aload_n 0) := by decide +kernel
theorem i_112_1 : ins 112 1 = some (.iload_n 1) := by decide +kernel
theorem i_112_2 : ins 112 2 = some (.invokevirtual 175) := by decide +kernel
theorem i_112_5 : ins 112 5 = some (.ifCond .eq 11) := by decide +kernel
theorem i_112_8 : ins 112 8 = some (.iload_n 2) := by decide +kernel
theorem i_112_9 : ins 112 9 = some (.iconst 5) := by decide +kernel
theorem i_112_10 : ins 112 10 = some (.invokestatic 119) := by decide +kernel
theorem i_112_13 : ins 112 13 = some (.ifCond .ne 6) := by decide +kernel
theorem i_112_16 : ins 112 16 = some (.ldc 86) := by decide +kernel
theorem i_112_18 : ins 112 18 = some (.ireturn) := by decide +kernel
theorem i_112_19 : ins 112 19 = some (.aload_n 0) := by decide +kernel
theorem i_112_20 : ins 112 20 = some (.getfield 30) := by decide +kernel
theorem i_112_23 : ins 112 23 = some (.getfield 262) := by decide +kernel
theorem i_112_26 : ins 112 26 = some (.iload_n 1) := by decide +kernel
theorem i_112_27 : ins 112 27 = some (.iaload) := by decide +kernel
theorem i_112_28 : ins 112 28 = some (.iload_n 2) := by decide +kernel
theorem i_112_29 : ins 112 29 = some (.invokestatic 265) := by decide +kernel
theorem i_112_32 : ins 112 32 = some (.ifCond .eq 11) := by decide +kernel
theorem i_112_35 : ins 112 35 = some (.aload_n 0) := by decide +kernel
theorem i_112_36 : ins 112 36 = some (.iload_n 1) := by decide +kernel
theorem i_112_37 : ins 112 37 = some (.invokevirtual 95) := by decide +kernel
theorem i_112_40 : ins 112 40 = some (.goto 8) := by decide +kernel
theorem i_112_43 : ins 112 43 = some (.aload_n 0) := by decide +kernel
theorem i_112_44 : ins 112 44 = some (.iconst 3) := by decide +kernel
theorem i_112_45 : ins 112 45 = some (.invokevirtual 87) := by decide +kernel
theorem i_112_48 : ins 112 48 = some (.ireturn) := by decide +kernel
theorem o_113 : mOwn 113 = 7 := rfl
theorem i_113_0 : ins 113 0 = some (.aload_n 0) := by decide +kernel
theorem i_113_1 : ins 113 1 = some (.iload_n 1) := by decide +kernel
theorem i_113_2 : ins 113 2 = some (.invokevirtual 175) := by decide +kernel
theorem i_113_5 : ins 113 5 = some (.ifCond .eq 11) := by decide +kernel
theorem i_113_8 : ins 113 8 = some (.iload_n 2) := by decide +kernel
theorem i_113_9 : ins 113 9 = some (.iconst 1) := by decide +kernel
theorem i_113_10 : ins 113 10 = some (.invokestatic 119) := by decide +kernel
theorem i_113_13 : ins 113 13 = some (.ifCond .ne 6) := by decide +kernel
theorem i_113_16 : ins 113 16 = some (.ldc 86) := by decide +kernel
theorem i_113_18 : ins 113 18 = some (.ireturn) := by decide +kernel
theorem i_113_19 : ins 113 19 = some (.aload_n 0) := by decide +kernel
theorem i_113_20 : ins 113 20 = some (.getfield 63) := by decide +kernel
theorem i_113_23 : ins 113 23 = some (.iload_n 1) := by decide +kernel
theorem i_113_24 : ins 113 24 = some (.iload_n 2) := by decide +kernel
theorem i_113_25 : ins 113 25 = some (.invokevirtual 268) := by decide +kernel
theorem i_113_28 : ins 113 28 = some (.ireturn) := by decide +kernel
theorem o_114 : mOwn 114 = 7 := rfl
theorem i_114_0 : ins 114 0 = some (.aload_n 0) := by decide +kernel
theorem i_114_1 : ins 114 1 = some (.getfield 63) := by decide +kernel
theorem i_114_4 : ins 114 4 = some (.iload_n 1) := by decide +kernel
theorem i_114_5 : ins 114 5 = some (.invokevirtual 270) := by decide +kernel
theorem i_114_8 : ins 114 8 = some (.ireturn) := by decide +kernel
theorem o_115 : mOwn 115 = 7 := rfl
theorem i_115_0 : ins 115 0 = some (.iload_n 1) := by decide +kernel
theorem i_115_1 : ins 115 1 = some (.tableswitch 131 0 8 #[51, 59, 67, 83, 91, 99, 107, 115, 123]) := by decide +kernel
theorem i_115_52 : ins 115 52 = some (.aload_n 0) := by decide +kernel
theorem i_115_53 : ins 115 53 = some (.getfield 10) := by decide +kernel
theorem i_115_56 : ins 115 56 = some (.invokevirtual 273) := by decide +kernel
theorem i_115_59 : ins 115 59 = some (.ireturn) := by decide +kernel
theorem i_115_60 : ins 115 60 = some (.aload_n 0) := by decide +kernel
theorem i_115_61 : ins 115 61 = some (.getfield 30) := by decide +kernel
theorem i_115_64 : ins 115 64 = some (.getfield 157) := by decide +kernel
theorem i_115_67 : ins 115 67 = some (.ireturn) := by decide +kernel
theorem i_115_68 : ins 115 68 = some (.aload_n 0) := by decide +kernel
theorem i_115_69 : ins 115 69 = some (.getfield 30) := by decide +kernel
theorem i_115_72 : ins 115 72 = some (.getfield 157) := by decide +kernel
theorem i_115_75 : ins 115 75 = some (.aload_n 0) := by decide +kernel
theorem i_115_76 : ins 115 76 = some (.getfield 30) := by decide +kernel
theorem i_115_79 : ins 115 79 = some (.getfield 276) := by decide +kernel
theorem i_115_82 : ins 115 82 = some (.isub) := by decide +kernel
theorem i_115_83 : ins 115 83 = some (.ireturn) := by decide +kernel
theorem i_115_84 : ins 115 84 = some (.aload_n 0) := by decide +kernel
theorem i_115_85 : ins 115 85 = some (.getfield 38) := by decide +kernel
theorem i_115_88 : ins 115 88 = some (.getfield 161) := by decide +kernel
theorem i_115_91 : ins 115 91 = some (.ireturn) := by decide +kernel
theorem i_115_92 : ins 115 92 = some (.aload_n 0) := by decide +kernel
theorem i_115_93 : ins 115 93 = some (.getfield 38) := by decide +kernel
theorem i_115_96 : ins 115 96 = some (.getfield 172) := by decide +kernel
theorem i_115_99 : ins 115 99 = some (.ireturn) := by decide +kernel
theorem i_115_100 : ins 115 100 = some (.aload_n 0) := by decide +kernel
theorem i_115_101 : ins 115 101 = some (.getfield 38) := by decide +kernel
theorem i_115_104 : ins 115 104 = some (.getfield 196) := by decide +kernel
theorem i_115_107 : ins 115 107 = some (.ireturn) := by decide +kernel
theorem i_115_108 : ins 115 108 = some (.aload_n 0) := by decide +kernel
theorem i_115_109 : ins 115 109 = some (.getfield 38) := by decide +kernel
theorem i_115_112 : ins 115 112 = some (.getfield 199) := by decide +kernel
theorem i_115_115 : ins 115 115 = some (.ireturn) := by decide +kernel
theorem i_115_116 : ins 115 116 = some (.aload_n 0) := by decide +kernel
theorem i_115_117 : ins 115 117 = some (.getfield 47) := by decide +kernel
theorem i_115_120 : ins 115 120 = some (.invokevirtual 202) := by decide +kernel
theorem i_115_123 : ins 115 123 = some (.ireturn) := by decide +kernel
theorem i_115_124 : ins 115 124 = some (.aload_n 0) := by decide +kernel
theorem i_115_125 : ins 115 125 = some (.getfield 19) := by decide +kernel
theorem i_115_128 : ins 115 128 = some (.invokevirtual 279) := by decide +kernel
theorem i_115_131 : ins 115 131 = some (.ireturn) := by decide +kernel
theorem i_115_132 : ins 115 132 = some (.ldc 86) := by decide +kernel
theorem i_115_134 : ins 115 134 = some (.ireturn) := by decide +kernel
theorem o_116 : mOwn 116 = 7 := rfl
theorem i_116_0 : ins 116 0 = some (.aload_n 0) := by decide +kernel
theorem i_116_1 : ins 116 1 = some (.getfield 282) := by decide +kernel
theorem i_116_4 : ins 116 4 = some (.ireturn) := by decide +kernel
theorem o_117 : mOwn 117 = 7 := rfl
theorem i_117_0 : ins 117 0 = some (.iload_n 0) := by decide +kernel
theorem i_117_1 : ins 117 1 = some (.ifCond .lt 12) := by decide +kernel
theorem i_117_4 : ins 117 4 = some (.iload_n 0) := by decide +kernel
theorem i_117_5 : ins 117 5 = some (.iload_n 1) := by decide +kernel
theorem i_117_6 : ins 117 6 = some (.if_icmp .gt 7) := by decide +kernel
theorem i_117_9 : ins 117 9 = some (.iconst 1) := by decide +kernel
theorem i_117_10 : ins 117 10 = some (.goto 4) := by decide +kernel
theorem i_117_13 : ins 117 13 = some (.iconst 0) := by decide +kernel
theorem i_117_14 : ins 117 14 = some (.ireturn) := by decide +kernel
theorem o_118 : mOwn 118 = 7 := rfl
theorem i_118_0 : ins 118 0 = some (.iload_n 1) := by decide +kernel
theorem i_118_1 : ins 118 1 = some (.ifCond .lt 18) := by decide +kernel
theorem i_118_4 : ins 118 4 = some (.iload_n 1) := by decide +kernel
theorem i_118_5 : ins 118 5 = some (.aload_n 0) := by decide +kernel
theorem i_118_6 : ins 118 6 = some (.getfield 30) := by decide +kernel
theorem i_118_9 : ins 118 9 = some (.getfield 157) := by decide +kernel
theorem i_118_12 : ins 118 12 = some (.if_icmp .ge 7) := by decide +kernel
theorem i_118_15 : ins 118 15 = some (.iconst 1) := by decide +kernel
theorem i_118_16 : ins 118 16 = some (.goto 4) := by decide +kernel
theorem i_118_19 : ins 118 19 = some (.iconst 0) := by decide +kernel
theorem i_118_20 : ins 118 20 = some (.ireturn) := by decide +kernel
theorem o_119 : mOwn 119 = 7 := rfl
theorem i_119_0 : ins 119 0 = some (.aload_n 0) := by decide +kernel
theorem i_119_1 : ins 119 1 = some (.iload_n 1) := by decide +kernel
theorem i_119_2 : ins 119 2 = some (.putfield 282) := by decide +kernel
theorem i_119_5 : ins 119 5 = some (.ldc_w 285) := by decide +kernel
theorem i_119_8 : ins 119 8 = some (.iload_n 1) := by decide +kernel
theorem i_119_9 : ins 119 9 = some (.isub) := by decide +kernel
theorem i_119_10 : ins 119 10 = some (.ireturn) := by decide +kernel
theorem o_120 : mOwn 120 = 7 := rfl
theorem i_120_0 : ins 120 0 = some (.aload_n 0) := by decide +kernel
theorem i_120_1 : ins 120 1 = some (.iconst 0) := by decide +kernel
theorem i_120_2 : ins 120 2 = some (.putfield 282) := by decide +kernel
theorem i_120_5 : ins 120 5 = some (.iload_n 1) := by decide +kernel
theorem i_120_6 : ins 120 6 = some (.ireturn) := by decide +kernel
end
section
theorem o_121 : mOwn 121 = 8 := rfl
theorem i_121_0 : ins 121 0 = some (.aload_n 0) := by decide +kernel
theorem i_121_1 : ins 121 1 = some (.invokespecial 1) := by decide +kernel
theorem i_121_4 : ins 121 4 = some (.aload_n 0) := by decide +kernel
theorem i_121_5 : ins 121 5 = some (.sipush 232) := by decide +kernel
theorem i_121_8 : ins 121 8 = some (.newarray .int) := by decide +kernel
theorem i_121_10 : ins 121 10 = some (.putfield 7) := by decide +kernel
theorem i_121_13 : ins 121 13 = some (.aload_n 0) := by decide +kernel
theorem i_121_14 : ins 121 14 = some (.sipush 464) := by decide +kernel
theorem i_121_17 : ins 121 17 = some (.newarray .int) := by decide +kernel
theorem i_121_19 : ins 121 19 = some (.putfield 13) := by decide +kernel
theorem i_121_22 : ins 121 22 = some (.aload_n 0) := by decide +kernel
theorem i_121_23 : ins 121 23 = some (.iconst 2) := by decide +kernel
theorem i_121_24 : ins 121 24 = some (.newarray .boolean) := by decide +kernel
theorem i_121_26 : ins 121 26 = some (.putfield 16) := by decide +kernel
theorem i_121_29 : ins 121 29 = some (.aload_n 0) := by decide +kernel
theorem i_121_30 : ins 121 30 = some (.sipush 3480) := by decide +kernel
theorem i_121_33 : ins 121 33 = some (.newarray .int) := by decide +kernel
theorem i_121_35 : ins 121 35 = some (.putfield 20) := by decide +kernel
theorem i_121_38 : ins 121 38 = some (.aload_n 0) := by decide +kernel
theorem i_121_39 : ins 121 39 = some (.sipush 232) := by decide +kernel
theorem i_121_42 : ins 121 42 = some (.newarray .int) := by decide +kernel
theorem i_121_44 : ins 121 44 = some (.putfield 23) := by decide +kernel
theorem i_121_47 : ins 121 47 = some (.aload_n 0) := by decide +kernel
theorem i_121_48 : ins 121 48 = some (.bipush 8) := by decide +kernel
theorem i_121_50 : ins 121 50 = some (.newarray .int) := by decide +kernel
theorem i_121_52 : ins 121 52 = some (.putfield 26) := by decide +kernel
theorem i_121_55 : ins 121 55 = some (.aload_n 0) := by decide +kernel
theorem i_121_56 : ins 121 56 = some (.bipush 8) := by decide +kernel
theorem i_121_58 : ins 121 58 = some (.newarray .int) := by decide +kernel
theorem i_121_60 : ins 121 60 = some (.putfield 29) := by decide +kernel
theorem i_121_63 : ins 121 63 = some (.aload_n 0) := by decide +kernel
theorem i_121_64 : ins 121 64 = some (.bipush 8) := by decide +kernel
theorem i_121_66 : ins 121 66 = some (.newarray .boolean) := by decide +kernel
theorem i_121_68 : ins 121 68 = some (.putfield 32) := by decide +kernel
theorem i_121_71 : ins 121 71 = some (.aload_n 0) := by decide +kernel
theorem i_121_72 : ins 121 72 = some (.sipush 320) := by decide +kernel
theorem i_121_75 : ins 121 75 = some (.newarray .int) := by decide +kernel
theorem i_121_77 : ins 121 77 = some (.putfield 35) := by decide +kernel
theorem i_121_80 : ins 121 80 = some (.aload_n 0) := by decide +kernel
theorem i_121_81 : ins 121 81 = some (.bipush 40) := by decide +kernel
theorem i_121_83 : ins 121 83 = some (.newarray .int) := by decide +kernel
theorem i_121_85 : ins 121 85 = some (.putfield 38) := by decide +kernel
theorem i_121_88 : ins 121 88 = some (.aload_n 0) := by decide +kernel
theorem i_121_89 : ins 121 89 = some (.sipush 160) := by decide +kernel
theorem i_121_92 : ins 121 92 = some (.newarray .int) := by decide +kernel
theorem i_121_94 : ins 121 94 = some (.putfield 41) := by decide +kernel
theorem i_121_97 : ins 121 97 = some (.aload_n 0) := by decide +kernel
theorem i_121_98 : ins 121 98 = some (.sipush 232) := by decide +kernel
theorem i_121_101 : ins 121 101 = some (.newarray .int) := by decide +kernel
theorem i_121_103 : ins 121 103 = some (.putfield 44) := by decide +kernel
theorem i_121_106 : ins 121 106 = some (.aload_n 0) := by decide +kernel
theorem i_121_107 : ins 121 107 = some (.bipush 28) := by decide +kernel
theorem i_121_109 : ins 121 109 = some (.newarray .int) := by decide +kernel
theorem i_121_111 : ins 121 111 = some (.putfield 47) := by decide +kernel
theorem i_121_114 : ins 121 114 = some (.aload_n 0) := by decide +kernel
theorem i_121_115 : ins 121 115 = some (.bipush 28) := by decide +kernel
theorem i_121_117 : ins 121 117 = some (.newarray .int) := by decide +kernel
theorem i_121_119 : ins 121 119 = some (.putfield 50) := by decide +kernel
theorem i_121_122 : ins 121 122 = some (.aload_n 0) := by decide +kernel
theorem i_121_123 : ins 121 123 = some (.bipush 16) := by decide +kernel
theorem i_121_125 : ins 121 125 = some (.newarray .int) := by decide +kernel
theorem i_121_127 : ins 121 127 = some (.putfield 53) := by decide +kernel
theorem i_121_130 : ins 121 130 = some (.return_) := by decide +kernel
theorem o_122 : mOwn 122 = 8 := rfl
theorem i_122_0 : ins 122 0 = some (.lload_n 0) := by decide +kernel
theorem i_122_1 : ins 122 1 = some (.lload_n 2) := by decide +kernel
theorem i_122_2 : ins 122 2 = some (.lcmp) := by decide +kernel
theorem i_122_3 : ins 122 3 = some (.ifCond .lt 14) := by decide +kernel
theorem i_122_6 : ins 122 6 = some (.lload_n 0) := by decide +kernel
theorem i_122_7 : ins 122 7 = some (.lload 4) := by decide +kernel
theorem i_122_9 : ins 122 9 = some (.lcmp) := by decide +kernel
theorem i_122_10 : ins 122 10 = some (.ifCond .gt 7) := by decide +kernel
theorem i_122_13 : ins 122 13 = some (.iconst 1) := by decide +kernel
theorem i_122_14 : ins 122 14 = some (.goto 4) := by decide +kernel
theorem i_122_17 : ins 122 17 = some (.iconst 0) := by decide +kernel
theorem i_122_18 : ins 122 18 = some (.ireturn) := by decide +kernel
theorem o_123 : mOwn 123 = 8 := rfl
theorem i_123_0 : ins 123 0 = some (.aload_n 0) := by decide +kernel
theorem i_123_1 : ins 123 1 = some (.iload_n 1) := by decide +kernel
theorem i_123_2 : ins 123 2 = some (.putfield 56) := by decide +kernel
theorem i_123_5 : ins 123 5 = some (.ldc 60) := by decide +kernel
theorem i_123_7 : ins 123 7 = some (.iload_n 1) := by decide +kernel
theorem i_123_8 : ins 123 8 = some (.isub) := by decide +kernel
theorem i_123_9 : ins 123 9 = some (.ireturn) := by decide +kernel
theorem o_124 : mOwn 124 = 8 := rfl
theorem i_124_0 : ins 124 0 = some (.aload_n 0) := by decide +kernel
theorem i_124_1 : ins 124 1 = some (.iconst 0) := by decide +kernel
theorem i_124_2 : ins 124 2 = some (.putfield 56) := by decide +kernel
theorem i_124_5 : ins 124 5 = some (.iload_n 1) := by decide +kernel
theorem i_124_6 : ins 124 6 = some (.ireturn) := by decide +kernel
theorem o_125 : mOwn 125 = 8 := rfl
theorem i_125_0 : ins 125 0 = some (.iload_n 0) := by decide +kernel
theorem i_125_1 : ins 125 1 = some (.i2l) := by decide +kernel
theorem i_125_2 : ins 125 2 = some (.lconst 0) := by decide +kernel
theorem i_125_3 : ins 125 3 = some (.ldc2_w 61) := by decide +kernel
theorem i_125_6 : ins 125 6 = some (.invokestatic 63) := by decide +kernel
theorem i_125_9 : ins 125 9 = some (.ireturn) := by decide +kernel
theorem o_126 : mOwn 126 = 8 := rfl
theorem i_126_0 : ins 126 0 = some (.iload_n 1) := by decide +kernel
theorem i_126_1 : ins 126 1 = some (.invokestatic 67) := by decide +kernel
theorem i_126_4 : ins 126 4 = some (.ifCond .eq 21) := by decide +kernel
theorem i_126_7 : ins 126 7 = some (.iload_n 2) := by decide +kernel
theorem i_126_8 : ins 126 8 = some (.i2l) := by decide +kernel
theorem i_126_9 : ins 126 9 = some (.lconst 0) := by decide +kernel
theorem i_126_10 : ins 126 10 = some (.ldc2_w 71) := by decide +kernel
theorem i_126_13 : ins 126 13 = some (.invokestatic 63) := by decide +kernel
theorem i_126_16 : ins 126 16 = some (.ifCond .eq 9) := by decide +kernel
theorem i_126_19 : ins 126 19 = some (.iload_n 3) := by decide +kernel
theorem i_126_20 : ins 126 20 = some (.bipush 40) := by decide +kernel
theorem i_126_22 : ins 126 22 = some (.if_icmp .le 6) := by decide +kernel
theorem i_126_25 : ins 126 25 = some (.ldc 73) := by decide +kernel
theorem i_126_27 : ins 126 27 = some (.ireturn) := by decide +kernel
theorem i_126_28 : ins 126 28 = some (.iload_n 3) := by decide +kernel
theorem i_126_29 : ins 126 29 = some (.ifCond .ge 9) := by decide +kernel
theorem i_126_32 : ins 126 32 = some (.aload_n 0) := by decide +kernel
theorem i_126_33 : ins 126 33 = some (.iconst 4) := by decide +kernel
theorem i_126_34 : ins 126 34 = some (.invokevirtual 74) := by decide +kernel
theorem i_126_37 : ins 126 37 = some (.ireturn) := by decide +kernel
theorem i_126_38 : ins 126 38 = some (.aload_n 0) := by decide +kernel
theorem i_126_39 : ins 126 39 = some (.getfield 32) := by decide +kernel
theorem i_126_42 : ins 126 42 = some (.iload_n 1) := by decide +kernel
theorem i_126_43 : ins 126 43 = some (.iconst 1) := by decide +kernel
theorem i_126_44 : ins 126 44 = some (.bastore) := by decide +kernel
theorem i_126_45 : ins 126 45 = some (.aload_n 0) := by decide +kernel
theorem i_126_46 : ins 126 46 = some (.getfield 26) := by decide +kernel
theorem i_126_49 : ins 126 49 = some (.iload_n 1) := by decide +kernel
theorem i_126_50 : ins 126 50 = some (.iload_n 2) := by decide +kernel
theorem i_126_51 : ins 126 51 = some (.iastore) := by decide +kernel
theorem i_126_52 : ins 126 52 = some (.aload_n 0) := by decide +kernel
theorem i_126_53 : ins 126 53 = some (.getfield 29) := by decide +kernel
theorem i_126_56 : ins 126 56 = some (.iload_n 1) := by decide +kernel
theorem i_126_57 : ins 126 57 = some (.iload_n 3) := by decide +kernel
theorem i_126_58 : ins 126 58 = some (.iastore) := by decide +kernel
theorem i_126_59 : ins 126 59 = some (.iconst 0) := by decide +kernel
theorem i_126_60 : ins 126 60 = some (.istore 4) := by decide +kernel
theorem i_126_62 : ins 126 62 = some (.iload 4) := by decide +kernel
theorem i_126_64 : ins 126 64 = some (.bipush 40) := by decide +kernel
theorem i_126_66 : ins 126 66 = some (.if_icmp .ge 22) := by decide +kernel
theorem i_126_69 : ins 126 69 = some (.aload_n 0) := by decide +kernel
theorem i_126_70 : ins 126 70 = some (.getfield 35) := by decide +kernel
theorem i_126_73 : ins 126 73 = some (.bipush 40) := by decide +kernel
theorem i_126_75 : ins 126 75 = some (.iload_n 1) := by decide +kernel
theorem i_126_76 : ins 126 76 = some (.imul) := by decide +kernel
theorem i_126_77 : ins 126 77 = some (.iload 4) := by decide +kernel
theorem i_126_79 : ins 126 79 = some (.iadd) := by decide +kernel
theorem i_126_80 : ins 126 80 = some (.iconst 0) := by decide +kernel
theorem i_126_81 : ins 126 81 = some (.iastore) := by decide +kernel
theorem i_126_82 : ins 126 82 = some (.iinc 4 1) := by decide +kernel
theorem i_126_85 : ins 126 85 = some (.goto (-23)) := by decide +kernel
theorem i_126_88 : ins 126 88 = some (.aload_n 0) := by decide +kernel
theorem i_126_89 : ins 126 89 = some (.iload_n 3) := by decide +kernel
theorem i_126_90 : ins 126 90 = some (.invokevirtual 78) := by decide +kernel
theorem i_126_93 : ins 126 93 = some (.ireturn) := by decide +kernel
theorem o_127 : mOwn 127 = 8 := rfl
theorem i_127_0 : ins 127 0 = some (.iload_n 1) := by decide +kernel
theorem i_127_1 : ins 127 1 = some (.invokestatic 67) := by decide +kernel
theorem i_127_4 : ins 127 4 = some (.ifCond .ne 6) := by decide +kernel
theorem i_127_7 : ins 127 7 = some (.ldc 73) := by decide +kernel
theorem i_127_9 : ins 127 9 = some (.ireturn) := by decide +kernel
theorem i_127_10 : ins 127 10 = some (.aload_n 0) := by decide +kernel
theorem i_127_11 : ins 127 11 = some (.getfield 32) := by decide +kernel
theorem i_127_14 : ins 127 14 = some (.iload_n 1) := by decide +kernel
theorem i_127_15 : ins 127 15 = some (.baload) := by decide +kernel
theorem i_127_16 : ins 127 16 = some (.ifCond .ne 9) := by decide +kernel
theorem i_127_19 : ins 127 19 = some (.aload_n 0) := by decide +kernel
theorem i_127_20 : ins 127 20 = some (.iconst 1) := by decide +kernel
theorem i_127_21 : ins 127 21 = some (.invokevirtual 74) := by decide +kernel
theorem i_127_24 : ins 127 24 = some (.ireturn) := by decide +kernel
theorem i_127_25 : ins 127 25 = some (.iload_n 2) := by decide +kernel
theorem i_127_26 : ins 127 26 = some (.i2l) := by decide +kernel
theorem i_127_27 : ins 127 27 = some (.lconst 0) := by decide +kernel
theorem i_127_28 : ins 127 28 = some (.aload_n 0) := by decide +kernel
theorem i_127_29 : ins 127 29 = some (.getfield 29) := by decide +kernel
theorem i_127_32 : ins 127 32 = some (.iload_n 1) := by decide +kernel
theorem i_127_33 : ins 127 33 = some (.iaload) := by decide +kernel
theorem i_127_34 : ins 127 34 = some (.iconst 1) := by decide +kernel
theorem i_127_35 : ins 127 35 = some (.isub) := by decide +kernel
theorem i_127_36 : ins 127 36 = some (.i2l) := by decide +kernel
theorem i_127_37 : ins 127 37 = some (.invokestatic 63) := by decide +kernel
theorem i_127_40 : ins 127 40 = some (.ifCond .ne 9) := by decide +kernel
theorem i_127_43 : ins 127 43 = some (.aload_n 0) := by decide +kernel
theorem i_127_44 : ins 127 44 = some (.iconst 2) := by decide +kernel
theorem i_127_45 : ins 127 45 = some (.invokevirtual 74) := by decide +kernel
theorem i_127_48 : ins 127 48 = some (.ireturn) := by decide +kernel
theorem i_127_49 : ins 127 49 = some (.aload_n 0) := by decide +kernel
theorem i_127_50 : ins 127 50 = some (.getfield 26) := by decide +kernel
theorem i_127_53 : ins 127 53 = some (.iload_n 1) := by decide +kernel
theorem i_127_54 : ins 127 54 = some (.iaload) := by decide +kernel
theorem i_127_55 : ins 127 55 = some (.ifCond .ne 13) := by decide +kernel
theorem i_127_58 : ins 127 58 = some (.iload_n 3) := by decide +kernel
theorem i_127_59 : ins 127 59 = some (.bipush 24) := by decide +kernel
theorem i_127_61 : ins 127 61 = some (.ishl) := by decide +kernel
theorem i_127_62 : ins 127 62 = some (.bipush 24) := by decide +kernel
theorem i_127_64 : ins 127 64 = some (.ishr) := by decide +kernel
theorem i_127_65 : ins 127 65 = some (.goto 24) := by decide +kernel
theorem i_127_68 : ins 127 68 = some (.aload_n 0) := by decide +kernel
theorem i_127_69 : ins 127 69 = some (.getfield 26) := by decide +kernel
theorem i_127_72 : ins 127 72 = some (.iload_n 1) := by decide +kernel
theorem i_127_73 : ins 127 73 = some (.iaload) := by decide +kernel
theorem i_127_74 : ins 127 74 = some (.iconst 1) := by decide +kernel
theorem i_127_75 : ins 127 75 = some (.if_icmp .ne 13) := by decide +kernel
theorem i_127_78 : ins 127 78 = some (.iload_n 3) := by decide +kernel
theorem i_127_79 : ins 127 79 = some (.bipush 16) := by decide +kernel
theorem i_127_81 : ins 127 81 = some (.ishl) := by decide +kernel
theorem i_127_82 : ins 127 82 = some (.bipush 16) := by decide +kernel
theorem i_127_84 : ins 127 84 = some (.ishr) := by decide +kernel
theorem i_127_85 : ins 127 85 = some (.goto 4) := by decide +kernel
theorem i_127_88 : ins 127 88 = some (.iload_n 3) := by decide +kernel
theorem i_127_89 : ins 127 89 = some (.istore 4) := by decide +kernel
theorem i_127_91 : ins 127 91 = some (.aload_n 0) := by decide +kernel
theorem i_127_92 : ins 127 92 = some (.getfield 35) := by decide +kernel
theorem i_127_95 : ins 127 95 = some (.bipush 40) := by decide +kernel
theorem i_127_97 : ins 127 97 = some (.iload_n 1) := by decide +kernel
theorem i_127_98 : ins 127 98 = some (.imul) := by decide +kernel
theorem i_127_99 : ins 127 99 = some (.iload_n 2) := by decide +kernel
theorem i_127_100 : ins 127 100 = some (.iadd) := by decide +kernel
theorem i_127_101 : ins 127 101 = some (.iload 4) := by decide +kernel
theorem i_127_103 : ins 127 103 = some (.iastore) := by decide +kernel
theorem i_127_104 : ins 127 104 = some (.aload_n 0) := by decide +kernel
theorem i_127_105 : ins 127 105 = some (.iload 4) := by decide +kernel
theorem i_127_107 : ins 127 107 = some (.invokevirtual 78) := by decide +kernel
theorem i_127_110 : ins 127 110 = some (.ireturn) := by decide +kernel
theorem o_128 : mOwn 128 = 8 := rfl
theorem i_128_0 : ins 128 0 = some (.iload_n 1) := by decide +kernel
theorem i_128_1 : ins 128 1 = some (.invokestatic 67) := by decide +kernel
theorem i_128_4 : ins 128 4 = some (.ifCond .eq 10) := by decide +kernel
theorem i_128_7 : ins 128 7 = some (.iload_n 3) := by decide +kernel
theorem i_128_8 : ins 128 8 = some (.invokestatic 67) := by decide +kernel
theorem i_128_11 : ins 128 11 = some (.ifCond .ne 6) := by decide +kernel
theorem i_128_14 : ins 128 14 = some (.ldc 73) := by decide +kernel
theorem i_128_16 : ins 128 16 = some (.ireturn) := by decide +kernel
theorem i_128_17 : ins 128 17 = some (.aload_n 0) := by decide +kernel
theorem i_128_18 : ins 128 18 = some (.getfield 32) := by decide +kernel
theorem i_128_21 : ins 128 21 = some (.iload_n 1) := by decide +kernel
theorem i_128_22 : ins 128 22 = some (.baload) := by decide +kernel
theorem i_128_23 : ins 128 23 = some (.ifCond .eq 12) := by decide +kernel
theorem i_128_26 : ins 128 26 = some (.aload_n 0) := by decide +kernel
theorem i_128_27 : ins 128 27 = some (.getfield 32) := by decide +kernel
theorem i_128_30 : ins 128 30 = some (.iload_n 3) := by decide +kernel
theorem i_128_31 : ins 128 31 = some (.baload) := by decide +kernel
theorem i_128_32 : ins 128 32 = some (.ifCond .ne 9) := by decide +kernel
theorem i_128_35 : ins 128 35 = some (.aload_n 0) := by decide +kernel
theorem i_128_36 : ins 128 36 = some (.iconst 1) := by decide +kernel
theorem i_128_37 : ins 128 37 = some (.invokevirtual 74) := by decide +kernel
theorem i_128_40 : ins 128 40 = some (.ireturn) := by decide +kernel
theorem i_128_41 : ins 128 41 = some (.aload_n 0) := by decide +kernel
theorem i_128_42 : ins 128 42 = some (.getfield 26) := by decide +kernel
theorem i_128_45 : ins 128 45 = some (.iload_n 1) := by decide +kernel
theorem i_128_46 : ins 128 46 = some (.iaload) := by decide +kernel
theorem i_128_47 : ins 128 47 = some (.aload_n 0) := by decide +kernel
theorem i_128_48 : ins 128 48 = some (.getfield 26) := by decide +kernel
theorem i_128_51 : ins 128 51 = some (.iload_n 3) := by decide +kernel
theorem i_128_52 : ins 128 52 = some (.iaload) := by decide +kernel
theorem i_128_53 : ins 128 53 = some (.if_icmp .eq 9) := by decide +kernel
theorem i_128_56 : ins 128 56 = some (.aload_n 0) := by decide +kernel
theorem i_128_57 : ins 128 57 = some (.iconst 5) := by decide +kernel
theorem i_128_58 : ins 128 58 = some (.invokevirtual 74) := by decide +kernel
theorem i_128_61 : ins 128 61 = some (.ireturn) := by decide +kernel
theorem i_128_62 : ins 128 62 = some (.iload_n 2) := by decide +kernel
theorem i_128_63 : ins 128 63 = some (.ifCond .lt 48) := by decide +kernel
theorem i_128_66 : ins 128 66 = some (.iload 4) := by decide +kernel
theorem i_128_68 : ins 128 68 = some (.ifCond .lt 43) := by decide +kernel
theorem i_128_71 : ins 128 71 = some (.iload 5) := by decide +kernel
theorem i_128_73 : ins 128 73 = some (.ifCond .lt 38) := by decide +kernel
theorem i_128_76 : ins 128 76 = some (.iload_n 2) := by decide +kernel
theorem i_128_77 : ins 128 77 = some (.i2l) := by decide +kernel
theorem i_128_78 : ins 128 78 = some (.iload 5) := by decide +kernel
theorem i_128_80 : ins 128 80 = some (.i2l) := by decide +kernel
theorem i_128_81 : ins 128 81 = some (.ladd) := by decide +kernel
theorem i_128_82 : ins 128 82 = some (.aload_n 0) := by decide +kernel
theorem i_128_83 : ins 128 83 = some (.getfield 29) := by decide +kernel
theorem i_128_86 : ins 128 86 = some (.iload_n 1) := by decide +kernel
theorem i_128_87 : ins 128 87 = some (.iaload) := by decide +kernel
theorem i_128_88 : ins 128 88 = some (.i2l) := by decide +kernel
theorem i_128_89 : ins 128 89 = some (.lcmp) := by decide +kernel
theorem i_128_90 : ins 128 90 = some (.ifCond .gt 21) := by decide +kernel
theorem i_128_93 : ins 128 93 = some (.iload 4) := by decide +kernel
theorem i_128_95 : ins 128 95 = some (.i2l) := by decide +kernel
theorem i_128_96 : ins 128 96 = some (.iload 5) := by decide +kernel
theorem i_128_98 : ins 128 98 = some (.i2l) := by decide +kernel
theorem i_128_99 : ins 128 99 = some (.ladd) := by decide +kernel
theorem i_128_100 : ins 128 100 = some (.aload_n 0) := by decide +kernel
theorem i_128_101 : ins 128 101 = some (.getfield 29) := by decide +kernel
theorem i_128_104 : ins 128 104 = some (.iload_n 3) := by decide +kernel
theorem i_128_105 : ins 128 105 = some (.iaload) := by decide +kernel
theorem i_128_106 : ins 128 106 = some (.i2l) := by decide +kernel
theorem i_128_107 : ins 128 107 = some (.lcmp) := by decide +kernel
theorem i_128_108 : ins 128 108 = some (.ifCond .le 9) := by decide +kernel
theorem i_128_111 : ins 128 111 = some (.aload_n 0) := by decide +kernel
theorem i_128_112 : ins 128 112 = some (.iconst 2) := by decide +kernel
theorem i_128_113 : ins 128 113 = some (.invokevirtual 74) := by decide +kernel
theorem i_128_116 : ins 128 116 = some (.ireturn) := by decide +kernel
theorem i_128_117 : ins 128 117 = some (.iconst 0) := by decide +kernel
theorem i_128_118 : ins 128 118 = some (.istore 6) := by decide +kernel
theorem i_128_120 : ins 128 120 = some (.iload 6) := by decide +kernel
theorem i_128_122 : ins 128 122 = some (.iload 5) := by decide +kernel
theorem i_128_124 : ins 128 124 = some (.if_icmp .ge 30) := by decide +kernel
theorem i_128_127 : ins 128 127 = some (.aload_n 0) := by decide +kernel
theorem i_128_128 : ins 128 128 = some (.getfield 38) := by decide +kernel
theorem i_128_131 : ins 128 131 = some (.iload 6) := by decide +kernel
theorem i_128_133 : ins 128 133 = some (.aload_n 0) := by decide +kernel
theorem i_128_134 : ins 128 134 = some (.getfield 35) := by decide +kernel
theorem i_128_137 : ins 128 137 = some (.bipush 40) := by decide +kernel
theorem i_128_139 : ins 128 139 = some (.iload_n 1) := by decide +kernel
theorem i_128_140 : ins 128 140 = some (.imul) := by decide +kernel
theorem i_128_141 : ins 128 141 = some (.iload_n 2) := by decide +kernel
theorem i_128_142 : ins 128 142 = some (.iadd) := by decide +kernel
theorem i_128_143 : ins 128 143 = some (.iload 6) := by decide +kernel
theorem i_128_145 : ins 128 145 = some (.iadd) := by decide +kernel
theorem i_128_146 : ins 128 146 = some (.iaload) := by decide +kernel
theorem i_128_147 : ins 128 147 = some (.iastore) := by decide +kernel
theorem i_128_148 : ins 128 148 = some (.iinc 6 1) := by decide +kernel
theorem i_128_151 : ins 128 151 = some (.goto (-31)) := by decide +kernel
theorem i_128_154 : ins 128 154 = some (.iconst 0) := by decide +kernel
theorem i_128_155 : ins 128 155 = some (.istore 6) := by decide +kernel
theorem i_128_157 : ins 128 157 = some (.iload 6) := by decide +kernel
theorem i_128_159 : ins 128 159 = some (.iload 5) := by decide +kernel
theorem i_128_161 : ins 128 161 = some (.if_icmp .ge 31) := by decide +kernel
theorem i_128_164 : ins 128 164 = some (.aload_n 0) := by decide +kernel
theorem i_128_165 : ins 128 165 = some (.getfield 35) := by decide +kernel
theorem i_128_168 : ins 128 168 = some (.bipush 40) := by decide +kernel
theorem i_128_170 : ins 128 170 = some (.iload_n 3) := by decide +kernel
theorem i_128_171 : ins 128 171 = some (.imul) := by decide +kernel
theorem i_128_172 : ins 128 172 = some (.iload 4) := by decide +kernel
theorem i_128_174 : ins 128 174 = some (.iadd) := by decide +kernel
theorem i_128_175 : ins 128 175 = some (.iload 6) := by decide +kernel
theorem i_128_177 : ins 128 177 = some (.iadd) := by decide +kernel
theorem i_128_178 : ins 128 178 = some (.aload_n 0) := by decide +kernel
theorem i_128_179 : ins 128 179 = some (.getfield 38) := by decide +kernel
theorem i_128_182 : ins 128 182 = some (.iload 6) := by decide +kernel
theorem i_128_184 : ins 128 184 = some (.iaload) := by decide +kernel
theorem i_128_185 : ins 128 185 = some (.iastore) := by decide +kernel
theorem i_128_186 : ins 128 186 = some (.iinc 6 1) := by decide +kernel
theorem i_128_189 : ins 128 189 = some (.goto (-32)) := by decide +kernel
theorem i_128_192 : ins 128 192 = some (.aload_n 0) := by decide +kernel
theorem i_128_193 : ins 128 193 = some (.iload 5) := by decide +kernel
theorem i_128_195 : ins 128 195 = some (.invokevirtual 78) := by decide +kernel
theorem i_128_198 : ins 128 198 = some (.ireturn) := by decide +kernel
theorem o_129 : mOwn 129 = 8 := rfl
theorem i_129_0 : ins 129 0 = some (.iload_n 1) := by decide +kernel
theorem i_129_1 : ins 129 1 = some (.invokestatic 67) := by decide +kernel
theorem i_129_4 : ins 129 4 = some (.ifCond .ne 6) := by decide +kernel
theorem i_129_7 : ins 129 7 = some (.ldc 73) := by decide +kernel
theorem i_129_9 : ins 129 9 = some (.ireturn) := by decide +kernel
theorem i_129_10 : ins 129 10 = some (.aload_n 0) := by decide +kernel
theorem i_129_11 : ins 129 11 = some (.getfield 32) := by decide +kernel
theorem i_129_14 : ins 129 14 = some (.iload_n 1) := by decide +kernel
theorem i_129_15 : ins 129 15 = some (.baload) := by decide +kernel
theorem i_129_16 : ins 129 16 = some (.ifCond .ne 9) := by decide +kernel
theorem i_129_19 : ins 129 19 = some (.aload_n 0) := by decide +kernel
theorem i_129_20 : ins 129 20 = some (.iconst 1) := by decide +kernel
theorem i_129_21 : ins 129 21 = some (.invokevirtual 74) := by decide +kernel
theorem i_129_24 : ins 129 24 = some (.ireturn) := by decide +kernel
theorem i_129_25 : ins 129 25 = some (.aload_n 0) := by decide +kernel
theorem i_129_26 : ins 129 26 = some (.getfield 32) := by decide +kernel
theorem i_129_29 : ins 129 29 = some (.iload_n 1) := by decide +kernel
theorem i_129_30 : ins 129 30 = some (.iconst 0) := by decide +kernel
theorem i_129_31 : ins 129 31 = some (.bastore) := by decide +kernel
theorem i_129_32 : ins 129 32 = some (.aload_n 0) := by decide +kernel
theorem i_129_33 : ins 129 33 = some (.aload_n 0) := by decide +kernel
theorem i_129_34 : ins 129 34 = some (.getfield 29) := by decide +kernel
theorem i_129_37 : ins 129 37 = some (.iload_n 1) := by decide +kernel
theorem i_129_38 : ins 129 38 = some (.iaload) := by decide +kernel
theorem i_129_39 : ins 129 39 = some (.invokevirtual 78) := by decide +kernel
theorem i_129_42 : ins 129 42 = some (.ireturn) := by decide +kernel
theorem o_130 : mOwn 130 = 8 := rfl
theorem i_130_0 : ins 130 0 = some (.iload_n 1) := by decide +kernel
theorem i_130_1 : ins 130 1 = some (.i2l) := by decide +kernel
theorem i_130_2 : ins 130 2 = some (.lconst 0) := by decide +kernel
theorem i_130_3 : ins 130 3 = some (.ldc2_w 81) := by decide +kernel
theorem i_130_6 : ins 130 6 = some (.invokestatic 63) := by decide +kernel
theorem i_130_9 : ins 130 9 = some (.ifCond .ne 6) := by decide +kernel
theorem i_130_12 : ins 130 12 = some (.ldc 73) := by decide +kernel
theorem i_130_14 : ins 130 14 = some (.ireturn) := by decide +kernel
theorem i_130_15 : ins 130 15 = some (.aload_n 0) := by decide +kernel
theorem i_130_16 : ins 130 16 = some (.getfield 83) := by decide +kernel
theorem i_130_19 : ins 130 19 = some (.sipush 160) := by decide +kernel
theorem i_130_22 : ins 130 22 = some (.if_icmp .ne 6) := by decide +kernel
theorem i_130_25 : ins 130 25 = some (.ldc 86) := by decide +kernel
theorem i_130_27 : ins 130 27 = some (.ireturn) := by decide +kernel
theorem i_130_28 : ins 130 28 = some (.aload_n 0) := by decide +kernel
theorem i_130_29 : ins 130 29 = some (.getfield 41) := by decide +kernel
theorem i_130_32 : ins 130 32 = some (.aload_n 0) := by decide +kernel
theorem i_130_33 : ins 130 33 = some (.getfield 83) := by decide +kernel
theorem i_130_36 : ins 130 36 = some (.iload_n 1) := by decide +kernel
theorem i_130_37 : ins 130 37 = some (.iastore) := by decide +kernel
theorem i_130_38 : ins 130 38 = some (.aload_n 0) := by decide +kernel
theorem i_130_39 : ins 130 39 = some (.dup) := by decide +kernel
theorem i_130_40 : ins 130 40 = some (.getfield 83) := by decide +kernel
theorem i_130_43 : ins 130 43 = some (.iconst 1) := by decide +kernel
theorem i_130_44 : ins 130 44 = some (.iadd) := by decide +kernel
theorem i_130_45 : ins 130 45 = some (.putfield 83) := by decide +kernel
theorem i_130_48 : ins 130 48 = some (.aload_n 0) := by decide +kernel
theorem i_130_49 : ins 130 49 = some (.getfield 83) := by decide +kernel
theorem i_130_52 : ins 130 52 = some (.ireturn) := by decide +kernel
theorem o_131 : mOwn 131 = 8 := rfl
theorem i_131_0 : ins 131 0 = some (.iload_n 1) := by decide +kernel
theorem i_131_1 : ins 131 1 = some (.aload_n 0) := by decide +kernel
theorem i_131_2 : ins 131 2 = some (.getfield 83) := by decide +kernel
theorem i_131_5 : ins 131 5 = some (.if_icmp .ge 12) := by decide +kernel
theorem i_131_8 : ins 131 8 = some (.aload_n 0) := by decide +kernel
theorem i_131_9 : ins 131 9 = some (.getfield 41) := by decide +kernel
theorem i_131_12 : ins 131 12 = some (.iload_n 1) := by decide +kernel
theorem i_131_13 : ins 131 13 = some (.iaload) := by decide +kernel
theorem i_131_14 : ins 131 14 = some (.goto 4) := by decide +kernel
theorem i_131_17 : ins 131 17 = some (.iconst (-1)) := by decide +kernel
theorem i_131_18 : ins 131 18 = some (.ireturn) := by decide +kernel
theorem o_132 : mOwn 132 = 8 := rfl
theorem i_132_0 : ins 132 0 = some (.iload_n 0) := by decide +kernel
theorem i_132_1 : ins 132 1 = some (.i2l) := by decide +kernel
theorem i_132_2 : ins 132 2 = some (.ldc2_w 87) := by decide +kernel
theorem i_132_5 : ins 132 5 = some (.ldc2_w 89) := by decide +kernel
theorem i_132_8 : ins 132 8 = some (.invokestatic 63) := by decide +kernel
theorem i_132_11 : ins 132 11 = some (.ireturn) := by decide +kernel
theorem o_133 : mOwn 133 = 8 := rfl
theorem i_133_0 : ins 133 0 = some (.aload_n 0) := by decide +kernel
theorem i_133_1 : ins 133 1 = some (.aload_n 0) := by decide +kernel
theorem i_133_2 : ins 133 2 = some (.getfield 91) := by decide +kernel
theorem i_133_5 : ins 133 5 = some (.invokevirtual 94) := by decide +kernel
theorem i_133_8 : ins 133 8 = some (.iload_n 1) := by decide +kernel
theorem i_133_9 : ins 133 9 = some (.if_icmp .ne 7) := by decide +kernel
theorem i_133_12 : ins 133 12 = some (.iconst 1) := by decide +kernel
theorem i_133_13 : ins 133 13 = some (.goto 4) := by decide +kernel
theorem i_133_16 : ins 133 16 = some (.iconst 0) := by decide +kernel
theorem i_133_17 : ins 133 17 = some (.istore_n 2) := by decide +kernel
theorem i_133_18 : ins 133 18 = some (.aload_n 0) := by decide +kernel
theorem i_133_19 : ins 133 19 = some (.dup) := by decide +kernel
theorem i_133_20 : ins 133 20 = some (.getfield 91) := by decide +kernel
theorem i_133_23 : ins 133 23 = some (.iload_n 2) := by decide +kernel
theorem i_133_24 : ins 133 24 = some (.ifCond .eq 7) := by decide +kernel
theorem i_133_27 : ins 133 27 = some (.iconst 1) := by decide +kernel
theorem i_133_28 : ins 133 28 = some (.goto 4) := by decide +kernel
theorem i_133_31 : ins 133 31 = some (.iconst 0) := by decide +kernel
theorem i_133_32 : ins 133 32 = some (.iadd) := by decide +kernel
theorem i_133_33 : ins 133 33 = some (.putfield 91) := by decide +kernel
theorem i_133_36 : ins 133 36 = some (.iload_n 2) := by decide +kernel
theorem i_133_37 : ins 133 37 = some (.ifCond .eq 7) := by decide +kernel
theorem i_133_40 : ins 133 40 = some (.iconst 0) := by decide +kernel
theorem i_133_41 : ins 133 41 = some (.goto 4) := by decide +kernel
theorem i_133_44 : ins 133 44 = some (.iconst 1) := by decide +kernel
theorem i_133_45 : ins 133 45 = some (.ireturn) := by decide +kernel
theorem o_134 : mOwn 134 = 8 := rfl
theorem i_134_0 : ins 134 0 = some (.iconst 0) := by decide +kernel
theorem i_134_1 : ins 134 1 = some (.istore_n 2) := by decide +kernel
theorem i_134_2 : ins 134 2 = some (.aload_n 0) := by decide +kernel
theorem i_134_3 : ins 134 3 = some (.iconst 0) := by decide +kernel
theorem i_134_4 : ins 134 4 = some (.putfield 97) := by decide +kernel
theorem i_134_7 : ins 134 7 = some (.aload_n 0) := by decide +kernel
theorem i_134_8 : ins 134 8 = some (.aload_n 0) := by decide +kernel
theorem i_134_9 : ins 134 9 = some (.getfield 91) := by decide +kernel
theorem i_134_12 : ins 134 12 = some (.iload_n 2) := by decide +kernel
theorem i_134_13 : ins 134 13 = some (.iadd) := by decide +kernel
theorem i_134_14 : ins 134 14 = some (.invokevirtual 94) := by decide +kernel
theorem i_134_17 : ins 134 17 = some (.invokestatic 100) := by decide +kernel
theorem i_134_20 : ins 134 20 = some (.ifCond .eq 46) := by decide +kernel
theorem i_134_23 : ins 134 23 = some (.aload_n 0) := by decide +kernel
theorem i_134_24 : ins 134 24 = some (.iload_n 2) := by decide +kernel
theorem i_134_25 : ins 134 25 = some (.iconst 2) := by decide +kernel
theorem i_134_26 : ins 134 26 = some (.if_icmp .ge 27) := by decide +kernel
theorem i_134_29 : ins 134 29 = some (.bipush 10) := by decide +kernel
theorem i_134_31 : ins 134 31 = some (.aload_n 0) := by decide +kernel
theorem i_134_32 : ins 134 32 = some (.getfield 97) := by decide +kernel
theorem i_134_35 : ins 134 35 = some (.imul) := by decide +kernel
theorem i_134_36 : ins 134 36 = some (.aload_n 0) := by decide +kernel
theorem i_134_37 : ins 134 37 = some (.aload_n 0) := by decide +kernel
theorem i_134_38 : ins 134 38 = some (.getfield 91) := by decide +kernel
theorem i_134_41 : ins 134 41 = some (.iload_n 2) := by decide +kernel
theorem i_134_42 : ins 134 42 = some (.iadd) := by decide +kernel
theorem i_134_43 : ins 134 43 = some (.invokevirtual 94) := by decide +kernel
theorem i_134_46 : ins 134 46 = some (.iadd) := by decide +kernel
theorem i_134_47 : ins 134 47 = some (.bipush 48) := by decide +kernel
theorem i_134_49 : ins 134 49 = some (.isub) := by decide +kernel
theorem i_134_50 : ins 134 50 = some (.goto 7) := by decide +kernel
theorem i_134_53 : ins 134 53 = some (.aload_n 0) := by decide +kernel
theorem i_134_54 : ins 134 54 = some (.getfield 97) := by decide +kernel
theorem i_134_57 : ins 134 57 = some (.putfield 97) := by decide +kernel
theorem i_134_60 : ins 134 60 = some (.iinc 2 1) := by decide +kernel
theorem i_134_63 : ins 134 63 = some (.goto (-56)) := by decide +kernel
theorem i_134_66 : ins 134 66 = some (.iload_n 2) := by decide +kernel
theorem i_134_67 : ins 134 67 = some (.ifCond .eq 8) := by decide +kernel
theorem i_134_70 : ins 134 70 = some (.iload_n 2) := by decide +kernel
theorem i_134_71 : ins 134 71 = some (.iconst 2) := by decide +kernel
theorem i_134_72 : ins 134 72 = some (.if_icmp .le 7) := by decide +kernel
theorem i_134_75 : ins 134 75 = some (.iconst 1) := by decide +kernel
theorem i_134_76 : ins 134 76 = some (.goto 16) := by decide +kernel
theorem i_134_79 : ins 134 79 = some (.aload_n 0) := by decide +kernel
theorem i_134_80 : ins 134 80 = some (.getfield 97) := by decide +kernel
theorem i_134_83 : ins 134 83 = some (.iload_n 1) := by decide +kernel
theorem i_134_84 : ins 134 84 = some (.if_icmp .le 7) := by decide +kernel
theorem i_134_87 : ins 134 87 = some (.iconst 2) := by decide +kernel
theorem i_134_88 : ins 134 88 = some (.goto 4) := by decide +kernel
theorem i_134_91 : ins 134 91 = some (.iconst 0) := by decide +kernel
theorem i_134_92 : ins 134 92 = some (.istore_n 3) := by decide +kernel
theorem i_134_93 : ins 134 93 = some (.aload_n 0) := by decide +kernel
theorem i_134_94 : ins 134 94 = some (.dup) := by decide +kernel
theorem i_134_95 : ins 134 95 = some (.getfield 91) := by decide +kernel
theorem i_134_98 : ins 134 98 = some (.iload_n 3) := by decide +kernel
theorem i_134_99 : ins 134 99 = some (.ifCond .ne 7) := by decide +kernel
theorem i_134_102 : ins 134 102 = some (.iload_n 2) := by decide +kernel
theorem i_134_103 : ins 134 103 = some (.goto 4) := by decide +kernel
theorem i_134_106 : ins 134 106 = some (.iconst 0) := by decide +kernel
theorem i_134_107 : ins 134 107 = some (.iadd) := by decide +kernel
theorem i_134_108 : ins 134 108 = some (.putfield 91) := by decide +kernel
theorem i_134_111 : ins 134 111 = some (.iload_n 3) := by decide +kernel
theorem i_134_112 : ins 134 112 = some (.ireturn) := by decide +kernel
theorem o_135 : mOwn 135 = 8 := rfl
theorem i_135_0 : ins 135 0 = some (.iload_n 0) := by decide +kernel
theorem i_135_1 : ins 135 1 = some (.bipush 98) := by decide +kernel
theorem i_135_3 : ins 135 3 = some (.if_icmp .ne 7) := by decide +kernel
theorem i_135_6 : ins 135 6 = some (.iconst 1) := by decide +kernel
theorem i_135_7 : ins 135 7 = some (.goto 44) := by decide +kernel
theorem i_135_10 : ins 135 10 = some (.iload_n 0) := by decide +kernel
theorem i_135_11 : ins 135 11 = some (.bipush 119) := by decide +kernel
theorem i_135_13 : ins 135 13 = some (.if_icmp .ne 7) := by decide +kernel
theorem i_135_16 : ins 135 16 = some (.iconst 2) := by decide +kernel
theorem i_135_17 : ins 135 17 = some (.goto 34) := by decide +kernel
theorem i_135_20 : ins 135 20 = some (.iload_n 0) := by decide +kernel
theorem i_135_21 : ins 135 21 = some (.bipush 115) := by decide +kernel
theorem i_135_23 : ins 135 23 = some (.if_icmp .ne 7) := by decide +kernel
theorem i_135_26 : ins 135 26 = some (.iconst 3) := by decide +kernel
theorem i_135_27 : ins 135 27 = some (.goto 24) := by decide +kernel
theorem i_135_30 : ins 135 30 = some (.iload_n 0) := by decide +kernel
theorem i_135_31 : ins 135 31 = some (.bipush 102) := by decide +kernel
theorem i_135_33 : ins 135 33 = some (.if_icmp .ne 7) := by decide +kernel
theorem i_135_36 : ins 135 36 = some (.iconst 4) := by decide +kernel
theorem i_135_37 : ins 135 37 = some (.goto 14) := by decide +kernel
theorem i_135_40 : ins 135 40 = some (.iload_n 0) := by decide +kernel
theorem i_135_41 : ins 135 41 = some (.bipush 100) := by decide +kernel
theorem i_135_43 : ins 135 43 = some (.if_icmp .ne 7) := by decide +kernel
theorem i_135_46 : ins 135 46 = some (.iconst 5) := by decide +kernel
theorem i_135_47 : ins 135 47 = some (.goto 4) := by decide +kernel
theorem i_135_50 : ins 135 50 = some (.iconst 0) := by decide +kernel
theorem i_135_51 : ins 135 51 = some (.ireturn) := by decide +kernel
theorem o_136 : mOwn 136 = 8 := rfl
theorem i_136_0 : ins 136 0 = some (.aload_n 0) := by decide +kernel
theorem i_136_1 : ins 136 1 = some (.getfield 44) := by decide +kernel
theorem i_136_4 : ins 136 4 = some (.sipush 145) := by decide +kernel
theorem i_136_7 : ins 136 7 = some (.iload_n 1) := by decide +kernel
theorem i_136_8 : ins 136 8 = some (.iadd) := by decide +kernel
theorem i_136_9 : ins 136 9 = some (.aload_n 0) := by decide +kernel
theorem i_136_10 : ins 136 10 = some (.aload_n 0) := by decide +kernel
theorem i_136_11 : ins 136 11 = some (.getfield 91) := by decide +kernel
theorem i_136_14 : ins 136 14 = some (.invokevirtual 94) := by decide +kernel
theorem i_136_17 : ins 136 17 = some (.invokestatic 103) := by decide +kernel
theorem i_136_20 : ins 136 20 = some (.iastore) := by decide +kernel
theorem i_136_21 : ins 136 21 = some (.aload_n 0) := by decide +kernel
theorem i_136_22 : ins 136 22 = some (.getfield 44) := by decide +kernel
theorem i_136_25 : ins 136 25 = some (.sipush 145) := by decide +kernel
theorem i_136_28 : ins 136 28 = some (.iload_n 1) := by decide +kernel
theorem i_136_29 : ins 136 29 = some (.iadd) := by decide +kernel
theorem i_136_30 : ins 136 30 = some (.iaload) := by decide +kernel
theorem i_136_31 : ins 136 31 = some (.ifCond .ne 5) := by decide +kernel
theorem i_136_34 : ins 136 34 = some (.iconst 1) := by decide +kernel
theorem i_136_35 : ins 136 35 = some (.ireturn) := by decide +kernel
theorem i_136_36 : ins 136 36 = some (.aload_n 0) := by decide +kernel
theorem i_136_37 : ins 136 37 = some (.dup) := by decide +kernel
theorem i_136_38 : ins 136 38 = some (.getfield 91) := by decide +kernel
theorem i_136_41 : ins 136 41 = some (.iconst 1) := by decide +kernel
theorem i_136_42 : ins 136 42 = some (.iadd) := by decide +kernel
theorem i_136_43 : ins 136 43 = some (.putfield 91) := by decide +kernel
theorem i_136_46 : ins 136 46 = some (.aload_n 0) := by decide +kernel
theorem i_136_47 : ins 136 47 = some (.bipush 99) := by decide +kernel
theorem i_136_49 : ins 136 49 = some (.invokevirtual 106) := by decide +kernel
theorem i_136_52 : ins 136 52 = some (.istore_n 2) := by decide +kernel
theorem i_136_53 : ins 136 53 = some (.aload_n 0) := by decide +kernel
theorem i_136_54 : ins 136 54 = some (.getfield 44) := by decide +kernel
theorem i_136_57 : ins 136 57 = some (.sipush 173) := by decide +kernel
theorem i_136_60 : ins 136 60 = some (.iload_n 1) := by decide +kernel
theorem i_136_61 : ins 136 61 = some (.iadd) := by decide +kernel
theorem i_136_62 : ins 136 62 = some (.aload_n 0) := by decide +kernel
theorem i_136_63 : ins 136 63 = some (.getfield 97) := by decide +kernel
theorem i_136_66 : ins 136 66 = some (.iastore) := by decide +kernel
theorem i_136_67 : ins 136 67 = some (.iload_n 2) := by decide +kernel
theorem i_136_68 : ins 136 68 = some (.ifCond .ne 12) := by decide +kernel
theorem i_136_71 : ins 136 71 = some (.aload_n 0) := by decide +kernel
theorem i_136_72 : ins 136 72 = some (.bipush 44) := by decide +kernel
theorem i_136_74 : ins 136 74 = some (.invokevirtual 109) := by decide +kernel
theorem i_136_77 : ins 136 77 = some (.goto 4) := by decide +kernel
theorem i_136_80 : ins 136 80 = some (.iload_n 2) := by decide +kernel
theorem i_136_81 : ins 136 81 = some (.istore_n 2) := by decide +kernel
theorem i_136_82 : ins 136 82 = some (.iload_n 2) := by decide +kernel
theorem i_136_83 : ins 136 83 = some (.ifCond .ne 11) := by decide +kernel
theorem i_136_86 : ins 136 86 = some (.aload_n 0) := by decide +kernel
theorem i_136_87 : ins 136 87 = some (.iconst 3) := by decide +kernel
theorem i_136_88 : ins 136 88 = some (.invokevirtual 106) := by decide +kernel
theorem i_136_91 : ins 136 91 = some (.goto 4) := by decide +kernel
theorem i_136_94 : ins 136 94 = some (.iload_n 2) := by decide +kernel
theorem i_136_95 : ins 136 95 = some (.istore_n 2) := by decide +kernel
theorem i_136_96 : ins 136 96 = some (.aload_n 0) := by decide +kernel
theorem i_136_97 : ins 136 97 = some (.getfield 44) := by decide +kernel
theorem i_136_100 : ins 136 100 = some (.bipush 56) := by decide +kernel
theorem i_136_102 : ins 136 102 = some (.iload_n 1) := by decide +kernel
theorem i_136_103 : ins 136 103 = some (.iadd) := by decide +kernel
theorem i_136_104 : ins 136 104 = some (.aload_n 0) := by decide +kernel
theorem i_136_105 : ins 136 105 = some (.getfield 97) := by decide +kernel
theorem i_136_108 : ins 136 108 = some (.iastore) := by decide +kernel
theorem i_136_109 : ins 136 109 = some (.aload_n 0) := by decide +kernel
theorem i_136_110 : ins 136 110 = some (.getfield 44) := by decide +kernel
theorem i_136_113 : ins 136 113 = some (.bipush 84) := by decide +kernel
theorem i_136_115 : ins 136 115 = some (.iload_n 1) := by decide +kernel
theorem i_136_116 : ins 136 116 = some (.iadd) := by decide +kernel
theorem i_136_117 : ins 136 117 = some (.iload_n 1) := by decide +kernel
theorem i_136_118 : ins 136 118 = some (.iastore) := by decide +kernel
theorem i_136_119 : ins 136 119 = some (.iload_n 2) := by decide +kernel
theorem i_136_120 : ins 136 120 = some (.ireturn) := by decide +kernel
theorem o_137 : mOwn 137 = 8 := rfl
theorem i_137_0 : ins 137 0 = some (.aload_n 0) := by decide +kernel
theorem i_137_1 : ins 137 1 = some (.getfield 44) := by decide +kernel
theorem i_137_4 : ins 137 4 = some (.sipush 229) := by decide +kernel
theorem i_137_7 : ins 137 7 = some (.iaload) := by decide +kernel
theorem i_137_8 : ins 137 8 = some (.istore_n 1) := by decide +kernel
theorem i_137_9 : ins 137 9 = some (.aload_n 0) := by decide +kernel
theorem i_137_10 : ins 137 10 = some (.aload_n 0) := by decide +kernel
theorem i_137_11 : ins 137 11 = some (.getfield 91) := by decide +kernel
theorem i_137_14 : ins 137 14 = some (.invokevirtual 94) := by decide +kernel
theorem i_137_17 : ins 137 17 = some (.invokestatic 103) := by decide +kernel
theorem i_137_20 : ins 137 20 = some (.ifCond .eq 11) := by decide +kernel
theorem i_137_23 : ins 137 23 = some (.iload_n 1) := by decide +kernel
theorem i_137_24 : ins 137 24 = some (.bipush 8) := by decide +kernel
theorem i_137_26 : ins 137 26 = some (.if_icmp .ne 5) := by decide +kernel
theorem i_137_29 : ins 137 29 = some (.iconst 3) := by decide +kernel
theorem i_137_30 : ins 137 30 = some (.ireturn) := by decide +kernel
theorem i_137_31 : ins 137 31 = some (.aload_n 0) := by decide +kernel
theorem i_137_32 : ins 137 32 = some (.iload_n 1) := by decide +kernel
theorem i_137_33 : ins 137 33 = some (.invokevirtual 112) := by decide +kernel
theorem i_137_36 : ins 137 36 = some (.istore_n 2) := by decide +kernel
theorem i_137_37 : ins 137 37 = some (.iload_n 2) := by decide +kernel
theorem i_137_38 : ins 137 38 = some (.ifCond .ne 12) := by decide +kernel
theorem i_137_41 : ins 137 41 = some (.aload_n 0) := by decide +kernel
theorem i_137_42 : ins 137 42 = some (.bipush 59) := by decide +kernel
theorem i_137_44 : ins 137 44 = some (.invokevirtual 109) := by decide +kernel
theorem i_137_47 : ins 137 47 = some (.goto 4) := by decide +kernel
theorem i_137_50 : ins 137 50 = some (.iload_n 2) := by decide +kernel
theorem i_137_51 : ins 137 51 = some (.istore_n 2) := by decide +kernel
theorem i_137_52 : ins 137 52 = some (.aload_n 0) := by decide +kernel
theorem i_137_53 : ins 137 53 = some (.getfield 44) := by decide +kernel
theorem i_137_56 : ins 137 56 = some (.iconst 0) := by decide +kernel
theorem i_137_57 : ins 137 57 = some (.iload_n 1) := by decide +kernel
theorem i_137_58 : ins 137 58 = some (.iadd) := by decide +kernel
theorem i_137_59 : ins 137 59 = some (.iconst 1) := by decide +kernel
theorem i_137_60 : ins 137 60 = some (.iastore) := by decide +kernel
theorem i_137_61 : ins 137 61 = some (.aload_n 0) := by decide +kernel
theorem i_137_62 : ins 137 62 = some (.getfield 44) := by decide +kernel
theorem i_137_65 : ins 137 65 = some (.bipush 112) := by decide +kernel
theorem i_137_67 : ins 137 67 = some (.iload_n 1) := by decide +kernel
theorem i_137_68 : ins 137 68 = some (.iadd) := by decide +kernel
theorem i_137_69 : ins 137 69 = some (.iload_n 1) := by decide +kernel
theorem i_137_70 : ins 137 70 = some (.iastore) := by decide +kernel
theorem i_137_71 : ins 137 71 = some (.aload_n 0) := by decide +kernel
theorem i_137_72 : ins 137 72 = some (.getfield 44) := by decide +kernel
theorem i_137_75 : ins 137 75 = some (.sipush 140) := by decide +kernel
theorem i_137_78 : ins 137 78 = some (.dup2) := by decide +kernel
theorem i_137_79 : ins 137 79 = some (.iaload) := by decide +kernel
theorem i_137_80 : ins 137 80 = some (.iconst 1) := by decide +kernel
theorem i_137_81 : ins 137 81 = some (.iadd) := by decide +kernel
theorem i_137_82 : ins 137 82 = some (.iastore) := by decide +kernel
theorem i_137_83 : ins 137 83 = some (.aload_n 0) := by decide +kernel
theorem i_137_84 : ins 137 84 = some (.getfield 44) := by decide +kernel
theorem i_137_87 : ins 137 87 = some (.sipush 229) := by decide +kernel
theorem i_137_90 : ins 137 90 = some (.dup2) := by decide +kernel
theorem i_137_91 : ins 137 91 = some (.iaload) := by decide +kernel
theorem i_137_92 : ins 137 92 = some (.iconst 1) := by decide +kernel
theorem i_137_93 : ins 137 93 = some (.iadd) := by decide +kernel
theorem i_137_94 : ins 137 94 = some (.iastore) := by decide +kernel
theorem i_137_95 : ins 137 95 = some (.iload_n 2) := by decide +kernel
theorem i_137_96 : ins 137 96 = some (.ireturn) := by decide +kernel
theorem o_138 : mOwn 138 = 8 := rfl
theorem i_138_0 : ins 138 0 = some (.aload_n 0) := by decide +kernel
theorem i_138_1 : ins 138 1 = some (.getfield 44) := by decide +kernel
theorem i_138_4 : ins 138 4 = some (.sipush 230) := by decide +kernel
theorem i_138_7 : ins 138 7 = some (.iaload) := by decide +kernel
theorem i_138_8 : ins 138 8 = some (.bipush 8) := by decide +kernel
theorem i_138_10 : ins 138 10 = some (.if_icmp .ne 5) := by decide +kernel
theorem i_138_13 : ins 138 13 = some (.iconst 3) := by decide +kernel
theorem i_138_14 : ins 138 14 = some (.ireturn) := by decide +kernel
theorem i_138_15 : ins 138 15 = some (.aload_n 0) := by decide +kernel
theorem i_138_16 : ins 138 16 = some (.dup) := by decide +kernel
theorem i_138_17 : ins 138 17 = some (.getfield 91) := by decide +kernel
theorem i_138_20 : ins 138 20 = some (.iconst 1) := by decide +kernel
theorem i_138_21 : ins 138 21 = some (.iadd) := by decide +kernel
theorem i_138_22 : ins 138 22 = some (.putfield 91) := by decide +kernel
theorem i_138_25 : ins 138 25 = some (.aload_n 0) := by decide +kernel
theorem i_138_26 : ins 138 26 = some (.getfield 44) := by decide +kernel
theorem i_138_29 : ins 138 29 = some (.sipush 229) := by decide +kernel
theorem i_138_32 : ins 138 32 = some (.iaload) := by decide +kernel
theorem i_138_33 : ins 138 33 = some (.istore_n 1) := by decide +kernel
theorem i_138_34 : ins 138 34 = some (.aload_n 0) := by decide +kernel
theorem i_138_35 : ins 138 35 = some (.iload_n 1) := by decide +kernel
theorem i_138_36 : ins 138 36 = some (.invokevirtual 112) := by decide +kernel
theorem i_138_39 : ins 138 39 = some (.istore_n 2) := by decide +kernel
theorem i_138_40 : ins 138 40 = some (.iload_n 2) := by decide +kernel
theorem i_138_41 : ins 138 41 = some (.ifCond .ne 12) := by decide +kernel
theorem i_138_44 : ins 138 44 = some (.aload_n 0) := by decide +kernel
theorem i_138_45 : ins 138 45 = some (.bipush 44) := by decide +kernel
theorem i_138_47 : ins 138 47 = some (.invokevirtual 109) := by decide +kernel
theorem i_138_50 : ins 138 50 = some (.goto 4) := by decide +kernel
theorem i_138_53 : ins 138 53 = some (.iload_n 2) := by decide +kernel
theorem i_138_54 : ins 138 54 = some (.istore_n 2) := by decide +kernel
theorem i_138_55 : ins 138 55 = some (.iload_n 2) := by decide +kernel
theorem i_138_56 : ins 138 56 = some (.ifCond .ne 12) := by decide +kernel
theorem i_138_59 : ins 138 59 = some (.aload_n 0) := by decide +kernel
theorem i_138_60 : ins 138 60 = some (.bipush 16) := by decide +kernel
theorem i_138_62 : ins 138 62 = some (.invokevirtual 106) := by decide +kernel
theorem i_138_65 : ins 138 65 = some (.goto 4) := by decide +kernel
theorem i_138_68 : ins 138 68 = some (.iload_n 2) := by decide +kernel
theorem i_138_69 : ins 138 69 = some (.istore_n 2) := by decide +kernel
theorem i_138_70 : ins 138 70 = some (.aload_n 0) := by decide +kernel
theorem i_138_71 : ins 138 71 = some (.getfield 44) := by decide +kernel
theorem i_138_74 : ins 138 74 = some (.sipush 201) := by decide +kernel
theorem i_138_77 : ins 138 77 = some (.iload_n 1) := by decide +kernel
theorem i_138_78 : ins 138 78 = some (.iadd) := by decide +kernel
theorem i_138_79 : ins 138 79 = some (.aload_n 0) := by decide +kernel
theorem i_138_80 : ins 138 80 = some (.getfield 97) := by decide +kernel
theorem i_138_83 : ins 138 83 = some (.iastore) := by decide +kernel
theorem i_138_84 : ins 138 84 = some (.iload_n 2) := by decide +kernel
theorem i_138_85 : ins 138 85 = some (.ifCond .ne 12) := by decide +kernel
theorem i_138_88 : ins 138 88 = some (.aload_n 0) := by decide +kernel
theorem i_138_89 : ins 138 89 = some (.bipush 59) := by decide +kernel
theorem i_138_91 : ins 138 91 = some (.invokevirtual 109) := by decide +kernel
theorem i_138_94 : ins 138 94 = some (.goto 4) := by decide +kernel
theorem i_138_97 : ins 138 97 = some (.iload_n 2) := by decide +kernel
theorem i_138_98 : ins 138 98 = some (.istore_n 2) := by decide +kernel
theorem i_138_99 : ins 138 99 = some (.aload_n 0) := by decide +kernel
theorem i_138_100 : ins 138 100 = some (.getfield 44) := by decide +kernel
theorem i_138_103 : ins 138 103 = some (.iconst 0) := by decide +kernel
theorem i_138_104 : ins 138 104 = some (.iload_n 1) := by decide +kernel
theorem i_138_105 : ins 138 105 = some (.iadd) := by decide +kernel
theorem i_138_106 : ins 138 106 = some (.iconst 0) := by decide +kernel
theorem i_138_107 : ins 138 107 = some (.iastore) := by decide +kernel
theorem i_138_108 : ins 138 108 = some (.aload_n 0) := by decide +kernel
theorem i_138_109 : ins 138 109 = some (.getfield 44) := by decide +kernel
theorem i_138_112 : ins 138 112 = some (.sipush 230) := by decide +kernel
theorem i_138_115 : ins 138 115 = some (.dup2) := by decide +kernel
theorem i_138_116 : ins 138 116 = some (.iaload) := by decide +kernel
theorem i_138_117 : ins 138 117 = some (.iconst 1) := by decide +kernel
theorem i_138_118 : ins 138 118 = some (.iadd) := by decide +kernel
theorem i_138_119 : ins 138 119 = some (.iastore) := by decide +kernel
theorem i_138_120 : ins 138 120 = some (.aload_n 0) := by decide +kernel
theorem i_138_121 : ins 138 121 = some (.getfield 44) := by decide +kernel
theorem i_138_124 : ins 138 124 = some (.sipush 229) := by decide +kernel
theorem i_138_127 : ins 138 127 = some (.dup2) := by decide +kernel
theorem i_138_128 : ins 138 128 = some (.iaload) := by decide +kernel
theorem i_138_129 : ins 138 129 = some (.iconst 1) := by decide +kernel
theorem i_138_130 : ins 138 130 = some (.iadd) := by decide +kernel
theorem i_138_131 : ins 138 131 = some (.iastore) := by decide +kernel
theorem i_138_132 : ins 138 132 = some (.iload_n 2) := by decide +kernel
theorem i_138_133 : ins 138 133 = some (.ireturn) := by decide +kernel
theorem o_139 : mOwn 139 = 8 := rfl
theorem i_139_0 : ins 139 0 = some (.iconst 0) := by decide +kernel
theorem i_139_1 : ins 139 1 = some (.istore_n 1) := by decide +kernel
theorem i_139_2 : ins 139 2 = some (.iload_n 1) := by decide +kernel
theorem i_139_3 : ins 139 3 = some (.sipush 232) := by decide +kernel
theorem i_139_6 : ins 139 6 = some (.if_icmp .ge 16) := by decide +kernel
theorem i_139_9 : ins 139 9 = some (.aload_n 0) := by decide +kernel
theorem i_139_10 : ins 139 10 = some (.getfield 44) := by decide +kernel
theorem i_139_13 : ins 139 13 = some (.iload_n 1) := by decide +kernel
theorem i_139_14 : ins 139 14 = some (.iconst 0) := by decide +kernel
theorem i_139_15 : ins 139 15 = some (.iastore) := by decide +kernel
theorem i_139_16 : ins 139 16 = some (.iinc 1 1) := by decide +kernel
theorem i_139_19 : ins 139 19 = some (.goto (-17)) := by decide +kernel
theorem i_139_22 : ins 139 22 = some (.aload_n 0) := by decide +kernel
theorem i_139_23 : ins 139 23 = some (.iconst 0) := by decide +kernel
theorem i_139_24 : ins 139 24 = some (.putfield 91) := by decide +kernel
theorem i_139_27 : ins 139 27 = some (.aload_n 0) := by decide +kernel
theorem i_139_28 : ins 139 28 = some (.bipush 113) := by decide +kernel
theorem i_139_30 : ins 139 30 = some (.invokevirtual 109) := by decide +kernel
theorem i_139_33 : ins 139 33 = some (.istore_n 1) := by decide +kernel
theorem i_139_34 : ins 139 34 = some (.iload_n 1) := by decide +kernel
theorem i_139_35 : ins 139 35 = some (.ifCond .ne 11) := by decide +kernel
theorem i_139_38 : ins 139 38 = some (.aload_n 0) := by decide +kernel
theorem i_139_39 : ins 139 39 = some (.iconst 3) := by decide +kernel
theorem i_139_40 : ins 139 40 = some (.invokevirtual 106) := by decide +kernel
theorem i_139_43 : ins 139 43 = some (.goto 4) := by decide +kernel
theorem i_139_46 : ins 139 46 = some (.iload_n 1) := by decide +kernel
theorem i_139_47 : ins 139 47 = some (.istore_n 1) := by decide +kernel
theorem i_139_48 : ins 139 48 = some (.aload_n 0) := by decide +kernel
theorem i_139_49 : ins 139 49 = some (.getfield 44) := by decide +kernel
theorem i_139_52 : ins 139 52 = some (.sipush 143) := by decide +kernel
theorem i_139_55 : ins 139 55 = some (.aload_n 0) := by decide +kernel
theorem i_139_56 : ins 139 56 = some (.getfield 97) := by decide +kernel
theorem i_139_59 : ins 139 59 = some (.iastore) := by decide +kernel
theorem i_139_60 : ins 139 60 = some (.iload_n 1) := by decide +kernel
theorem i_139_61 : ins 139 61 = some (.ifCond .ne 12) := by decide +kernel
theorem i_139_64 : ins 139 64 = some (.aload_n 0) := by decide +kernel
theorem i_139_65 : ins 139 65 = some (.bipush 44) := by decide +kernel
theorem i_139_67 : ins 139 67 = some (.invokevirtual 109) := by decide +kernel
theorem i_139_70 : ins 139 70 = some (.goto 4) := by decide +kernel
theorem i_139_73 : ins 139 73 = some (.iload_n 1) := by decide +kernel
theorem i_139_74 : ins 139 74 = some (.istore_n 1) := by decide +kernel
theorem i_139_75 : ins 139 75 = some (.iload_n 1) := by decide +kernel
theorem i_139_76 : ins 139 76 = some (.ifCond .ne 12) := by decide +kernel
theorem i_139_79 : ins 139 79 = some (.aload_n 0) := by decide +kernel
theorem i_139_80 : ins 139 80 = some (.bipush 9) := by decide +kernel
theorem i_139_82 : ins 139 82 = some (.invokevirtual 106) := by decide +kernel
theorem i_139_85 : ins 139 85 = some (.goto 4) := by decide +kernel
theorem i_139_88 : ins 139 88 = some (.iload_n 1) := by decide +kernel
theorem i_139_89 : ins 139 89 = some (.istore_n 1) := by decide +kernel
theorem i_139_90 : ins 139 90 = some (.aload_n 0) := by decide +kernel
theorem i_139_91 : ins 139 91 = some (.getfield 44) := by decide +kernel
theorem i_139_94 : ins 139 94 = some (.sipush 144) := by decide +kernel
theorem i_139_97 : ins 139 97 = some (.aload_n 0) := by decide +kernel
theorem i_139_98 : ins 139 98 = some (.getfield 97) := by decide +kernel
theorem i_139_101 : ins 139 101 = some (.iastore) := by decide +kernel
theorem i_139_102 : ins 139 102 = some (.iload_n 1) := by decide +kernel
theorem i_139_103 : ins 139 103 = some (.ifCond .ne 12) := by decide +kernel
theorem i_139_106 : ins 139 106 = some (.aload_n 0) := by decide +kernel
theorem i_139_107 : ins 139 107 = some (.bipush 59) := by decide +kernel
theorem i_139_109 : ins 139 109 = some (.invokevirtual 109) := by decide +kernel
theorem i_139_112 : ins 139 112 = some (.goto 4) := by decide +kernel
theorem i_139_115 : ins 139 115 = some (.iload_n 1) := by decide +kernel
theorem i_139_116 : ins 139 116 = some (.istore_n 1) := by decide +kernel
theorem i_139_117 : ins 139 117 = some (.iload_n 1) := by decide +kernel
theorem i_139_118 : ins 139 118 = some (.ifCond .ne 67) := by decide +kernel
theorem i_139_121 : ins 139 121 = some (.aload_n 0) := by decide +kernel
theorem i_139_122 : ins 139 122 = some (.getfield 91) := by decide +kernel
theorem i_139_125 : ins 139 125 = some (.aload_n 0) := by decide +kernel
theorem i_139_126 : ins 139 126 = some (.getfield 83) := by decide +kernel
theorem i_139_129 : ins 139 129 = some (.if_icmp .ge 56) := by decide +kernel
theorem i_139_132 : ins 139 132 = some (.aload_n 0) := by decide +kernel
theorem i_139_133 : ins 139 133 = some (.aload_n 0) := by decide +kernel
theorem i_139_134 : ins 139 134 = some (.getfield 91) := by decide +kernel
theorem i_139_137 : ins 139 137 = some (.invokevirtual 94) := by decide +kernel
theorem i_139_140 : ins 139 140 = some (.bipush 112) := by decide +kernel
theorem i_139_142 : ins 139 142 = some (.if_icmp .ne 7) := by decide +kernel
theorem i_139_145 : ins 139 145 = some (.iconst 1) := by decide +kernel
theorem i_139_146 : ins 139 146 = some (.goto 4) := by decide +kernel
theorem i_139_149 : ins 139 149 = some (.iconst 0) := by decide +kernel
theorem i_139_150 : ins 139 150 = some (.istore_n 2) := by decide +kernel
theorem i_139_151 : ins 139 151 = some (.iload_n 2) := by decide +kernel
theorem i_139_152 : ins 139 152 = some (.ifCond .eq 10) := by decide +kernel
theorem i_139_155 : ins 139 155 = some (.aload_n 0) := by decide +kernel
theorem i_139_156 : ins 139 156 = some (.invokevirtual 115) := by decide +kernel
theorem i_139_159 : ins 139 159 = some (.goto 22) := by decide +kernel
theorem i_139_162 : ins 139 162 = some (.aload_n 0) := by decide +kernel
theorem i_139_163 : ins 139 163 = some (.getfield 44) := by decide +kernel
theorem i_139_166 : ins 139 166 = some (.sipush 230) := by decide +kernel
theorem i_139_169 : ins 139 169 = some (.iaload) := by decide +kernel
theorem i_139_170 : ins 139 170 = some (.ifCond .le 7) := by decide +kernel
theorem i_139_173 : ins 139 173 = some (.iconst 1) := by decide +kernel
theorem i_139_174 : ins 139 174 = some (.goto 7) := by decide +kernel
theorem i_139_177 : ins 139 177 = some (.aload_n 0) := by decide +kernel
theorem i_139_178 : ins 139 178 = some (.invokevirtual 119) := by decide +kernel
theorem i_139_181 : ins 139 181 = some (.istore_n 1) := by decide +kernel
theorem i_139_182 : ins 139 182 = some (.goto (-65)) := by decide +kernel
theorem i_139_185 : ins 139 185 = some (.aload_n 0) := by decide +kernel
theorem i_139_186 : ins 139 186 = some (.getfield 44) := by decide +kernel
theorem i_139_189 : ins 139 189 = some (.sipush 141) := by decide +kernel
theorem i_139_192 : ins 139 192 = some (.aload_n 0) := by decide +kernel
theorem i_139_193 : ins 139 193 = some (.getfield 44) := by decide +kernel
theorem i_139_196 : ins 139 196 = some (.sipush 229) := by decide +kernel
theorem i_139_199 : ins 139 199 = some (.iaload) := by decide +kernel
theorem i_139_200 : ins 139 200 = some (.aload_n 0) := by decide +kernel
theorem i_139_201 : ins 139 201 = some (.getfield 44) := by decide +kernel
theorem i_139_204 : ins 139 204 = some (.sipush 230) := by decide +kernel
theorem i_139_207 : ins 139 207 = some (.iaload) := by decide +kernel
theorem i_139_208 : ins 139 208 = some (.isub) := by decide +kernel
theorem i_139_209 : ins 139 209 = some (.iastore) := by decide +kernel
theorem i_139_210 : ins 139 210 = some (.aload_n 0) := by decide +kernel
theorem i_139_211 : ins 139 211 = some (.getfield 44) := by decide +kernel
theorem i_139_214 : ins 139 214 = some (.sipush 231) := by decide +kernel
theorem i_139_217 : ins 139 217 = some (.iconst 1) := by decide +kernel
theorem i_139_218 : ins 139 218 = some (.iastore) := by decide +kernel
theorem i_139_219 : ins 139 219 = some (.iload_n 1) := by decide +kernel
theorem i_139_220 : ins 139 220 = some (.ireturn) := by decide +kernel
theorem o_140 : mOwn 140 = 8 := rfl
theorem i_140_0 : ins 140 0 = some (.aload_n 0) := by decide +kernel
theorem i_140_1 : ins 140 1 = some (.invokevirtual 122) := by decide +kernel
theorem i_140_4 : ins 140 4 = some (.istore_n 1) := by decide +kernel
theorem i_140_5 : ins 140 5 = some (.aload_n 0) := by decide +kernel
theorem i_140_6 : ins 140 6 = some (.iconst 0) := by decide +kernel
theorem i_140_7 : ins 140 7 = some (.putfield 83) := by decide +kernel
theorem i_140_10 : ins 140 10 = some (.iload_n 1) := by decide +kernel
theorem i_140_11 : ins 140 11 = some (.ifCond .eq 16) := by decide +kernel
theorem i_140_14 : ins 140 14 = some (.aload_n 0) := by decide +kernel
theorem i_140_15 : ins 140 15 = some (.iload_n 1) := by decide +kernel
theorem i_140_16 : ins 140 16 = some (.putfield 125) := by decide +kernel
theorem i_140_19 : ins 140 19 = some (.ldc 128) := by decide +kernel
theorem i_140_21 : ins 140 21 = some (.aload_n 0) := by decide +kernel
theorem i_140_22 : ins 140 22 = some (.getfield 91) := by decide +kernel
theorem i_140_25 : ins 140 25 = some (.isub) := by decide +kernel
theorem i_140_26 : ins 140 26 = some (.ireturn) := by decide +kernel
theorem i_140_27 : ins 140 27 = some (.iconst 0) := by decide +kernel
theorem i_140_28 : ins 140 28 = some (.istore_n 2) := by decide +kernel
theorem i_140_29 : ins 140 29 = some (.iload_n 2) := by decide +kernel
theorem i_140_30 : ins 140 30 = some (.sipush 232) := by decide +kernel
theorem i_140_33 : ins 140 33 = some (.if_icmp .ge 21) := by decide +kernel
theorem i_140_36 : ins 140 36 = some (.aload_n 0) := by decide +kernel
theorem i_140_37 : ins 140 37 = some (.getfield 7) := by decide +kernel
theorem i_140_40 : ins 140 40 = some (.iload_n 2) := by decide +kernel
theorem i_140_41 : ins 140 41 = some (.aload_n 0) := by decide +kernel
theorem i_140_42 : ins 140 42 = some (.getfield 44) := by decide +kernel
theorem i_140_45 : ins 140 45 = some (.iload_n 2) := by decide +kernel
theorem i_140_46 : ins 140 46 = some (.iaload) := by decide +kernel
theorem i_140_47 : ins 140 47 = some (.iastore) := by decide +kernel
theorem i_140_48 : ins 140 48 = some (.iinc 2 1) := by decide +kernel
theorem i_140_51 : ins 140 51 = some (.goto (-22)) := by decide +kernel
theorem i_140_54 : ins 140 54 = some (.aload_n 0) := by decide +kernel
theorem i_140_55 : ins 140 55 = some (.iconst 0) := by decide +kernel
theorem i_140_56 : ins 140 56 = some (.putfield 129) := by decide +kernel
theorem i_140_59 : ins 140 59 = some (.aload_n 0) := by decide +kernel
theorem i_140_60 : ins 140 60 = some (.invokevirtual 132) := by decide +kernel
theorem i_140_63 : ins 140 63 = some (.ireturn) := by decide +kernel
theorem o_141 : mOwn 141 = 8 := rfl
theorem i_141_0 : ins 141 0 = some (.aload_n 0) := by decide +kernel
theorem i_141_1 : ins 141 1 = some (.getfield 125) := by decide +kernel
theorem i_141_4 : ins 141 4 = some (.ireturn) := by decide +kernel
theorem o_142 : mOwn 142 = 8 := rfl
theorem i_142_0 : ins 142 0 = some (.aload_n 0) := by decide +kernel
theorem i_142_1 : ins 142 1 = some (.getfield 7) := by decide +kernel
theorem i_142_4 : ins 142 4 = some (.sipush 229) := by decide +kernel
theorem i_142_7 : ins 142 7 = some (.iaload) := by decide +kernel
theorem i_142_8 : ins 142 8 = some (.ireturn) := by decide +kernel
theorem o_143 : mOwn 143 = 8 := rfl
theorem i_143_0 : ins 143 0 = some (.iload_n 1) := by decide +kernel
theorem i_143_1 : ins 143 1 = some (.i2l) := by decide +kernel
theorem i_143_2 : ins 143 2 = some (.lconst 0) := by decide +kernel
theorem i_143_3 : ins 143 3 = some (.aload_n 0) := by decide +kernel
theorem i_143_4 : ins 143 4 = some (.invokevirtual 132) := by decide +kernel
theorem i_143_7 : ins 143 7 = some (.iconst 1) := by decide +kernel
theorem i_143_8 : ins 143 8 = some (.isub) := by decide +kernel
theorem i_143_9 : ins 143 9 = some (.i2l) := by decide +kernel
theorem i_143_10 : ins 143 10 = some (.invokestatic 63) := by decide +kernel
theorem i_143_13 : ins 143 13 = some (.ireturn) := by decide +kernel
theorem o_144 : mOwn 144 = 8 := rfl
theorem i_144_0 : ins 144 0 = some (.aload_n 0) := by decide +kernel
theorem i_144_1 : ins 144 1 = some (.getfield 7) := by decide +kernel
theorem i_144_4 : ins 144 4 = some (.sipush 231) := by decide +kernel
theorem i_144_7 : ins 144 7 = some (.iaload) := by decide +kernel
theorem i_144_8 : ins 144 8 = some (.iconst 1) := by decide +kernel
theorem i_144_9 : ins 144 9 = some (.if_icmp .ne 7) := by decide +kernel
theorem i_144_12 : ins 144 12 = some (.iconst 1) := by decide +kernel
theorem i_144_13 : ins 144 13 = some (.goto 4) := by decide +kernel
theorem i_144_16 : ins 144 16 = some (.iconst 0) := by decide +kernel
theorem i_144_17 : ins 144 17 = some (.ireturn) := by decide +kernel
theorem o_145 : mOwn 145 = 8 := rfl
theorem i_145_0 : ins 145 0 = some (.aload_n 0) := by decide +kernel
theorem i_145_1 : ins 145 1 = some (.getfield 7) := by decide +kernel
theorem i_145_4 : ins 145 4 = some (.sipush 145) := by decide +kernel
theorem i_145_7 : ins 145 7 = some (.iload_n 1) := by decide +kernel
theorem i_145_8 : ins 145 8 = some (.iadd) := by decide +kernel
theorem i_145_9 : ins 145 9 = some (.iaload) := by decide +kernel
theorem i_145_10 : ins 145 10 = some (.iconst 4) := by decide +kernel
theorem i_145_11 : ins 145 11 = some (.if_icmp .eq 17) := by decide +kernel
theorem i_145_14 : ins 145 14 = some (.aload_n 0) := by decide +kernel
theorem i_145_15 : ins 145 15 = some (.getfield 7) := by decide +kernel
theorem i_145_18 : ins 145 18 = some (.sipush 145) := by decide +kernel
theorem i_145_21 : ins 145 21 = some (.iload_n 1) := by decide +kernel
theorem i_145_22 : ins 145 22 = some (.iadd) := by decide +kernel
theorem i_145_23 : ins 145 23 = some (.iaload) := by decide +kernel
theorem i_145_24 : ins 145 24 = some (.iconst 5) := by decide +kernel
theorem i_145_25 : ins 145 25 = some (.if_icmp .ne 7) := by decide +kernel
theorem i_145_28 : ins 145 28 = some (.iconst 1) := by decide +kernel
theorem i_145_29 : ins 145 29 = some (.goto 4) := by decide +kernel
theorem i_145_32 : ins 145 32 = some (.iconst 0) := by decide +kernel
theorem i_145_33 : ins 145 33 = some (.ireturn) := by decide +kernel
theorem o_146 : mOwn 146 = 8 := rfl
theorem i_146_0 : ins 146 0 = some (.aload_n 0) := by decide +kernel
theorem i_146_1 : ins 146 1 = some (.getfield 7) := by decide +kernel
theorem i_146_4 : ins 146 4 = some (.sipush 145) := by decide +kernel
theorem i_146_7 : ins 146 7 = some (.iload_n 1) := by decide +kernel
theorem i_146_8 : ins 146 8 = some (.iadd) := by decide +kernel
theorem i_146_9 : ins 146 9 = some (.iaload) := by decide +kernel
theorem i_146_10 : ins 146 10 = some (.iconst 4) := by decide +kernel
theorem i_146_11 : ins 146 11 = some (.if_icmp .ne 14) := by decide +kernel
theorem i_146_14 : ins 146 14 = some (.aload_n 0) := by decide +kernel
theorem i_146_15 : ins 146 15 = some (.getfield 7) := by decide +kernel
theorem i_146_18 : ins 146 18 = some (.sipush 143) := by decide +kernel
theorem i_146_21 : ins 146 21 = some (.iaload) := by decide +kernel
theorem i_146_22 : ins 146 22 = some (.goto 12) := by decide +kernel
theorem i_146_25 : ins 146 25 = some (.aload_n 0) := by decide +kernel
theorem i_146_26 : ins 146 26 = some (.getfield 7) := by decide +kernel
theorem i_146_29 : ins 146 29 = some (.bipush 56) := by decide +kernel
theorem i_146_31 : ins 146 31 = some (.iload_n 1) := by decide +kernel
theorem i_146_32 : ins 146 32 = some (.iadd) := by decide +kernel
theorem i_146_33 : ins 146 33 = some (.iaload) := by decide +kernel
theorem i_146_34 : ins 146 34 = some (.ireturn) := by decide +kernel
theorem o_147 : mOwn 147 = 8 := rfl
theorem i_147_0 : ins 147 0 = some (.aload_n 0) := by decide +kernel
theorem i_147_1 : ins 147 1 = some (.getfield 7) := by decide +kernel
theorem i_147_4 : ins 147 4 = some (.sipush 145) := by decide +kernel
theorem i_147_7 : ins 147 7 = some (.iload_n 1) := by decide +kernel
theorem i_147_8 : ins 147 8 = some (.iadd) := by decide +kernel
theorem i_147_9 : ins 147 9 = some (.iaload) := by decide +kernel
theorem i_147_10 : ins 147 10 = some (.istore_n 2) := by decide +kernel
theorem i_147_11 : ins 147 11 = some (.iload_n 2) := by decide +kernel
theorem i_147_12 : ins 147 12 = some (.iconst 2) := by decide +kernel
theorem i_147_13 : ins 147 13 = some (.if_icmp .eq 25) := by decide +kernel
theorem i_147_16 : ins 147 16 = some (.iload_n 2) := by decide +kernel
theorem i_147_17 : ins 147 17 = some (.iconst 1) := by decide +kernel
theorem i_147_18 : ins 147 18 = some (.if_icmp .eq 8) := by decide +kernel
theorem i_147_21 : ins 147 21 = some (.iload_n 2) := by decide +kernel
theorem i_147_22 : ins 147 22 = some (.iconst 3) := by decide +kernel
theorem i_147_23 : ins 147 23 = some (.if_icmp .ne 19) := by decide +kernel
theorem i_147_26 : ins 147 26 = some (.aload_n 0) := by decide +kernel
theorem i_147_27 : ins 147 27 = some (.getfield 7) := by decide +kernel
theorem i_147_30 : ins 147 30 = some (.bipush 56) := by decide +kernel
theorem i_147_32 : ins 147 32 = some (.iload_n 1) := by decide +kernel
theorem i_147_33 : ins 147 33 = some (.iadd) := by decide +kernel
theorem i_147_34 : ins 147 34 = some (.iaload) := by decide +kernel
theorem i_147_35 : ins 147 35 = some (.ifCond .ne 7) := by decide +kernel
theorem i_147_38 : ins 147 38 = some (.iconst 1) := by decide +kernel
theorem i_147_39 : ins 147 39 = some (.goto 4) := by decide +kernel
theorem i_147_42 : ins 147 42 = some (.iconst 0) := by decide +kernel
theorem i_147_43 : ins 147 43 = some (.ireturn) := by decide +kernel
theorem o_148 : mOwn 148 = 8 := rfl
theorem i_148_0 : ins 148 0 = some (.iconst 0) := by decide +kernel
theorem i_148_1 : ins 148 1 = some (.istore_n 1) := by decide +kernel
theorem i_148_2 : ins 148 2 = some (.iload_n 1) := by decide +kernel
theorem i_148_3 : ins 148 3 = some (.aload_n 0) := by decide +kernel
theorem i_148_4 : ins 148 4 = some (.getfield 7) := by decide +kernel
theorem i_148_7 : ins 148 7 = some (.sipush 140) := by decide +kernel
theorem i_148_10 : ins 148 10 = some (.iaload) := by decide +kernel
theorem i_148_11 : ins 148 11 = some (.if_icmp .ge 51) := by decide +kernel
theorem i_148_14 : ins 148 14 = some (.aload_n 0) := by decide +kernel
theorem i_148_15 : ins 148 15 = some (.getfield 47) := by decide +kernel
theorem i_148_18 : ins 148 18 = some (.iload_n 1) := by decide +kernel
theorem i_148_19 : ins 148 19 = some (.aload_n 0) := by decide +kernel
theorem i_148_20 : ins 148 20 = some (.aload_n 0) := by decide +kernel
theorem i_148_21 : ins 148 21 = some (.getfield 7) := by decide +kernel
theorem i_148_24 : ins 148 24 = some (.bipush 112) := by decide +kernel
theorem i_148_26 : ins 148 26 = some (.iload_n 1) := by decide +kernel
theorem i_148_27 : ins 148 27 = some (.iadd) := by decide +kernel
theorem i_148_28 : ins 148 28 = some (.iaload) := by decide +kernel
theorem i_148_29 : ins 148 29 = some (.invokevirtual 135) := by decide +kernel
theorem i_148_32 : ins 148 32 = some (.iastore) := by decide +kernel
theorem i_148_33 : ins 148 33 = some (.aload_n 0) := by decide +kernel
theorem i_148_34 : ins 148 34 = some (.getfield 50) := by decide +kernel
theorem i_148_37 : ins 148 37 = some (.iload_n 1) := by decide +kernel
theorem i_148_38 : ins 148 38 = some (.aload_n 0) := by decide +kernel
theorem i_148_39 : ins 148 39 = some (.getfield 7) := by decide +kernel
theorem i_148_42 : ins 148 42 = some (.bipush 84) := by decide +kernel
theorem i_148_44 : ins 148 44 = some (.aload_n 0) := by decide +kernel
theorem i_148_45 : ins 148 45 = some (.getfield 7) := by decide +kernel
theorem i_148_48 : ins 148 48 = some (.bipush 112) := by decide +kernel
theorem i_148_50 : ins 148 50 = some (.iload_n 1) := by decide +kernel
theorem i_148_51 : ins 148 51 = some (.iadd) := by decide +kernel
theorem i_148_52 : ins 148 52 = some (.iaload) := by decide +kernel
theorem i_148_53 : ins 148 53 = some (.iadd) := by decide +kernel
theorem i_148_54 : ins 148 54 = some (.iaload) := by decide +kernel
theorem i_148_55 : ins 148 55 = some (.iastore) := by decide +kernel
theorem i_148_56 : ins 148 56 = some (.iinc 1 1) := by decide +kernel
theorem i_148_59 : ins 148 59 = some (.goto (-57)) := by decide +kernel
theorem i_148_62 : ins 148 62 = some (.iconst 1) := by decide +kernel
theorem i_148_63 : ins 148 63 = some (.istore_n 1) := by decide +kernel
theorem i_148_64 : ins 148 64 = some (.iload_n 1) := by decide +kernel
theorem i_148_65 : ins 148 65 = some (.aload_n 0) := by decide +kernel
theorem i_148_66 : ins 148 66 = some (.getfield 7) := by decide +kernel
theorem i_148_69 : ins 148 69 = some (.sipush 140) := by decide +kernel
theorem i_148_72 : ins 148 72 = some (.iaload) := by decide +kernel
theorem i_148_73 : ins 148 73 = some (.if_icmp .ge 72) := by decide +kernel
theorem i_148_76 : ins 148 76 = some (.aload_n 0) := by decide +kernel
theorem i_148_77 : ins 148 77 = some (.getfield 7) := by decide +kernel
theorem i_148_80 : ins 148 80 = some (.bipush 112) := by decide +kernel
theorem i_148_82 : ins 148 82 = some (.iload_n 1) := by decide +kernel
theorem i_148_83 : ins 148 83 = some (.iadd) := by decide +kernel
theorem i_148_84 : ins 148 84 = some (.iaload) := by decide +kernel
theorem i_148_85 : ins 148 85 = some (.istore_n 2) := by decide +kernel
theorem i_148_86 : ins 148 86 = some (.aload_n 0) := by decide +kernel
theorem i_148_87 : ins 148 87 = some (.getfield 47) := by decide +kernel
theorem i_148_90 : ins 148 90 = some (.iload_n 1) := by decide +kernel
theorem i_148_91 : ins 148 91 = some (.iconst 1) := by decide +kernel
theorem i_148_92 : ins 148 92 = some (.isub) := by decide +kernel
theorem i_148_93 : ins 148 93 = some (.iaload) := by decide +kernel
theorem i_148_94 : ins 148 94 = some (.ifCond .eq 45) := by decide +kernel
theorem i_148_97 : ins 148 97 = some (.aload_n 0) := by decide +kernel
theorem i_148_98 : ins 148 98 = some (.iload_n 2) := by decide +kernel
theorem i_148_99 : ins 148 99 = some (.invokevirtual 138) := by decide +kernel
theorem i_148_102 : ins 148 102 = some (.ifCond .eq 37) := by decide +kernel
theorem i_148_105 : ins 148 105 = some (.aload_n 0) := by decide +kernel
theorem i_148_106 : ins 148 106 = some (.getfield 7) := by decide +kernel
theorem i_148_109 : ins 148 109 = some (.bipush 56) := by decide +kernel
theorem i_148_111 : ins 148 111 = some (.iload_n 2) := by decide +kernel
theorem i_148_112 : ins 148 112 = some (.iadd) := by decide +kernel
theorem i_148_113 : ins 148 113 = some (.aload_n 0) := by decide +kernel
theorem i_148_114 : ins 148 114 = some (.getfield 47) := by decide +kernel
theorem i_148_117 : ins 148 117 = some (.iload_n 1) := by decide +kernel
theorem i_148_118 : ins 148 118 = some (.iconst 1) := by decide +kernel
theorem i_148_119 : ins 148 119 = some (.isub) := by decide +kernel
theorem i_148_120 : ins 148 120 = some (.iaload) := by decide +kernel
theorem i_148_121 : ins 148 121 = some (.iastore) := by decide +kernel
theorem i_148_122 : ins 148 122 = some (.aload_n 0) := by decide +kernel
theorem i_148_123 : ins 148 123 = some (.getfield 7) := by decide +kernel
theorem i_148_126 : ins 148 126 = some (.bipush 84) := by decide +kernel
theorem i_148_128 : ins 148 128 = some (.iload_n 2) := by decide +kernel
theorem i_148_129 : ins 148 129 = some (.iadd) := by decide +kernel
theorem i_148_130 : ins 148 130 = some (.aload_n 0) := by decide +kernel
theorem i_148_131 : ins 148 131 = some (.getfield 50) := by decide +kernel
theorem i_148_134 : ins 148 134 = some (.iload_n 1) := by decide +kernel
theorem i_148_135 : ins 148 135 = some (.iconst 1) := by decide +kernel
theorem i_148_136 : ins 148 136 = some (.isub) := by decide +kernel
theorem i_148_137 : ins 148 137 = some (.iaload) := by decide +kernel
theorem i_148_138 : ins 148 138 = some (.iastore) := by decide +kernel
theorem i_148_139 : ins 148 139 = some (.iinc 1 1) := by decide +kernel
theorem i_148_142 : ins 148 142 = some (.goto (-78)) := by decide +kernel
theorem i_148_145 : ins 148 145 = some (.return_) := by decide +kernel
theorem o_149 : mOwn 149 = 8 := rfl
theorem i_149_0 : ins 149 0 = some (.iload_n 1) := by decide +kernel
theorem i_149_1 : ins 149 1 = some (.istore_n 2) := by decide +kernel
theorem i_149_2 : ins 149 2 = some (.iload_n 2) := by decide +kernel
theorem i_149_3 : ins 149 3 = some (.iconst 1) := by decide +kernel
theorem i_149_4 : ins 149 4 = some (.iadd) := by decide +kernel
theorem i_149_5 : ins 149 5 = some (.aload_n 0) := by decide +kernel
theorem i_149_6 : ins 149 6 = some (.getfield 7) := by decide +kernel
theorem i_149_9 : ins 149 9 = some (.sipush 140) := by decide +kernel
theorem i_149_12 : ins 149 12 = some (.iaload) := by decide +kernel
theorem i_149_13 : ins 149 13 = some (.if_icmp .ge 29) := by decide +kernel
theorem i_149_16 : ins 149 16 = some (.aload_n 0) := by decide +kernel
theorem i_149_17 : ins 149 17 = some (.getfield 7) := by decide +kernel
theorem i_149_20 : ins 149 20 = some (.bipush 112) := by decide +kernel
theorem i_149_22 : ins 149 22 = some (.iload_n 2) := by decide +kernel
theorem i_149_23 : ins 149 23 = some (.iadd) := by decide +kernel
theorem i_149_24 : ins 149 24 = some (.aload_n 0) := by decide +kernel
theorem i_149_25 : ins 149 25 = some (.getfield 7) := by decide +kernel
theorem i_149_28 : ins 149 28 = some (.bipush 112) := by decide +kernel
theorem i_149_30 : ins 149 30 = some (.iload_n 2) := by decide +kernel
theorem i_149_31 : ins 149 31 = some (.iadd) := by decide +kernel
theorem i_149_32 : ins 149 32 = some (.iconst 1) := by decide +kernel
theorem i_149_33 : ins 149 33 = some (.iadd) := by decide +kernel
theorem i_149_34 : ins 149 34 = some (.iaload) := by decide +kernel
theorem i_149_35 : ins 149 35 = some (.iastore) := by decide +kernel
theorem i_149_36 : ins 149 36 = some (.iinc 2 1) := by decide +kernel
theorem i_149_39 : ins 149 39 = some (.goto (-37)) := by decide +kernel
theorem i_149_42 : ins 149 42 = some (.aload_n 0) := by decide +kernel
theorem i_149_43 : ins 149 43 = some (.getfield 7) := by decide +kernel
theorem i_149_46 : ins 149 46 = some (.sipush 140) := by decide +kernel
theorem i_149_49 : ins 149 49 = some (.dup2) := by decide +kernel
theorem i_149_50 : ins 149 50 = some (.iaload) := by decide +kernel
theorem i_149_51 : ins 149 51 = some (.iconst 1) := by decide +kernel
theorem i_149_52 : ins 149 52 = some (.isub) := by decide +kernel
theorem i_149_53 : ins 149 53 = some (.iastore) := by decide +kernel
theorem i_149_54 : ins 149 54 = some (.return_) := by decide +kernel
theorem o_150 : mOwn 150 = 8 := rfl
theorem i_150_0 : ins 150 0 = some (.aload_n 0) := by decide +kernel
theorem i_150_1 : ins 150 1 = some (.getfield 7) := by decide +kernel
theorem i_150_4 : ins 150 4 = some (.sipush 145) := by decide +kernel
theorem i_150_7 : ins 150 7 = some (.iload_n 1) := by decide +kernel
theorem i_150_8 : ins 150 8 = some (.iadd) := by decide +kernel
theorem i_150_9 : ins 150 9 = some (.iaload) := by decide +kernel
theorem i_150_10 : ins 150 10 = some (.istore_n 2) := by decide +kernel
theorem i_150_11 : ins 150 11 = some (.aload_n 0) := by decide +kernel
theorem i_150_12 : ins 150 12 = some (.getfield 7) := by decide +kernel
theorem i_150_15 : ins 150 15 = some (.sipush 173) := by decide +kernel
theorem i_150_18 : ins 150 18 = some (.iload_n 1) := by decide +kernel
theorem i_150_19 : ins 150 19 = some (.iadd) := by decide +kernel
theorem i_150_20 : ins 150 20 = some (.iaload) := by decide +kernel
theorem i_150_21 : ins 150 21 = some (.istore_n 3) := by decide +kernel
theorem i_150_22 : ins 150 22 = some (.iload_n 2) := by decide +kernel
theorem i_150_23 : ins 150 23 = some (.iconst 5) := by decide +kernel
theorem i_150_24 : ins 150 24 = some (.if_icmp .ne 7) := by decide +kernel
theorem i_150_27 : ins 150 27 = some (.iload_n 3) := by decide +kernel
theorem i_150_28 : ins 150 28 = some (.iconst 2) := by decide +kernel
theorem i_150_29 : ins 150 29 = some (.idiv) := by decide +kernel
theorem i_150_30 : ins 150 30 = some (.ireturn) := by decide +kernel
theorem i_150_31 : ins 150 31 = some (.iload_n 2) := by decide +kernel
theorem i_150_32 : ins 150 32 = some (.iconst 4) := by decide +kernel
theorem i_150_33 : ins 150 33 = some (.if_icmp .eq 15) := by decide +kernel
theorem i_150_36 : ins 150 36 = some (.aload_n 0) := by decide +kernel
theorem i_150_37 : ins 150 37 = some (.iload_n 1) := by decide +kernel
theorem i_150_38 : ins 150 38 = some (.invokevirtual 135) := by decide +kernel
theorem i_150_41 : ins 150 41 = some (.ifCond .eq 7) := by decide +kernel
theorem i_150_44 : ins 150 44 = some (.iconst 1) := by decide +kernel
theorem i_150_45 : ins 150 45 = some (.goto 4) := by decide +kernel
theorem i_150_48 : ins 150 48 = some (.iconst 0) := by decide +kernel
theorem i_150_49 : ins 150 49 = some (.istore 4) := by decide +kernel
theorem i_150_51 : ins 150 51 = some (.iload 4) := by decide +kernel
theorem i_150_53 : ins 150 53 = some (.ifCond .eq 9) := by decide +kernel
theorem i_150_56 : ins 150 56 = some (.iconst 2) := by decide +kernel
theorem i_150_57 : ins 150 57 = some (.iload_n 3) := by decide +kernel
theorem i_150_58 : ins 150 58 = some (.imul) := by decide +kernel
theorem i_150_59 : ins 150 59 = some (.goto 4) := by decide +kernel
theorem i_150_62 : ins 150 62 = some (.iload_n 3) := by decide +kernel
theorem i_150_63 : ins 150 63 = some (.iload_n 2) := by decide +kernel
theorem i_150_64 : ins 150 64 = some (.iconst 3) := by decide +kernel
theorem i_150_65 : ins 150 65 = some (.if_icmp .ne 17) := by decide +kernel
theorem i_150_68 : ins 150 68 = some (.aload_n 0) := by decide +kernel
theorem i_150_69 : ins 150 69 = some (.getfield 7) := by decide +kernel
theorem i_150_72 : ins 150 72 = some (.bipush 28) := by decide +kernel
theorem i_150_74 : ins 150 74 = some (.iload_n 1) := by decide +kernel
theorem i_150_75 : ins 150 75 = some (.iadd) := by decide +kernel
theorem i_150_76 : ins 150 76 = some (.iaload) := by decide +kernel
theorem i_150_77 : ins 150 77 = some (.iconst 2) := by decide +kernel
theorem i_150_78 : ins 150 78 = some (.idiv) := by decide +kernel
theorem i_150_79 : ins 150 79 = some (.goto 4) := by decide +kernel
theorem i_150_82 : ins 150 82 = some (.iconst 0) := by decide +kernel
theorem i_150_83 : ins 150 83 = some (.iadd) := by decide +kernel
theorem i_150_84 : ins 150 84 = some (.ireturn) := by decide +kernel
theorem o_151 : mOwn 151 = 8 := rfl
theorem i_151_0 : ins 151 0 = some (.aload_n 0) := by decide +kernel
theorem i_151_1 : ins 151 1 = some (.getfield 7) := by decide +kernel
theorem i_151_4 : ins 151 4 = some (.sipush 140) := by decide +kernel
theorem i_151_7 : ins 151 7 = some (.iaload) := by decide +kernel
theorem i_151_8 : ins 151 8 = some (.bipush 6) := by decide +kernel
theorem i_151_10 : ins 151 10 = some (.if_icmp .lt 7) := by decide +kernel
theorem i_151_13 : ins 151 13 = some (.iconst 1) := by decide +kernel
theorem i_151_14 : ins 151 14 = some (.goto 4) := by decide +kernel
theorem i_151_17 : ins 151 17 = some (.iconst 0) := by decide +kernel
theorem i_151_18 : ins 151 18 = some (.istore_n 1) := by decide +kernel
theorem i_151_19 : ins 151 19 = some (.iconst 0) := by decide +kernel
theorem i_151_20 : ins 151 20 = some (.istore_n 2) := by decide +kernel
theorem i_151_21 : ins 151 21 = some (.iload_n 2) := by decide +kernel
theorem i_151_22 : ins 151 22 = some (.aload_n 0) := by decide +kernel
theorem i_151_23 : ins 151 23 = some (.getfield 7) := by decide +kernel
theorem i_151_26 : ins 151 26 = some (.sipush 140) := by decide +kernel
theorem i_151_29 : ins 151 29 = some (.iaload) := by decide +kernel
theorem i_151_30 : ins 151 30 = some (.if_icmp .ge 30) := by decide +kernel
theorem i_151_33 : ins 151 33 = some (.aload_n 0) := by decide +kernel
theorem i_151_34 : ins 151 34 = some (.getfield 7) := by decide +kernel
theorem i_151_37 : ins 151 37 = some (.bipush 28) := by decide +kernel
theorem i_151_39 : ins 151 39 = some (.aload_n 0) := by decide +kernel
theorem i_151_40 : ins 151 40 = some (.getfield 7) := by decide +kernel
theorem i_151_43 : ins 151 43 = some (.bipush 112) := by decide +kernel
theorem i_151_45 : ins 151 45 = some (.iload_n 2) := by decide +kernel
theorem i_151_46 : ins 151 46 = some (.iadd) := by decide +kernel
theorem i_151_47 : ins 151 47 = some (.iaload) := by decide +kernel
theorem i_151_48 : ins 151 48 = some (.iadd) := by decide +kernel
theorem i_151_49 : ins 151 49 = some (.dup2) := by decide +kernel
theorem i_151_50 : ins 151 50 = some (.iaload) := by decide +kernel
theorem i_151_51 : ins 151 51 = some (.iconst 1) := by decide +kernel
theorem i_151_52 : ins 151 52 = some (.iadd) := by decide +kernel
theorem i_151_53 : ins 151 53 = some (.iastore) := by decide +kernel
theorem i_151_54 : ins 151 54 = some (.iinc 2 1) := by decide +kernel
theorem i_151_57 : ins 151 57 = some (.goto (-36)) := by decide +kernel
theorem i_151_60 : ins 151 60 = some (.aload_n 0) := by decide +kernel
theorem i_151_61 : ins 151 61 = some (.getfield 7) := by decide +kernel
theorem i_151_64 : ins 151 64 = some (.sipush 140) := by decide +kernel
theorem i_151_67 : ins 151 67 = some (.iaload) := by decide +kernel
theorem i_151_68 : ins 151 68 = some (.iconst 1) := by decide +kernel
theorem i_151_69 : ins 151 69 = some (.isub) := by decide +kernel
theorem i_151_70 : ins 151 70 = some (.istore_n 2) := by decide +kernel
theorem i_151_71 : ins 151 71 = some (.iload_n 2) := by decide +kernel
theorem i_151_72 : ins 151 72 = some (.ifCond .lt 80) := by decide +kernel
theorem i_151_75 : ins 151 75 = some (.aload_n 0) := by decide +kernel
theorem i_151_76 : ins 151 76 = some (.getfield 7) := by decide +kernel
theorem i_151_79 : ins 151 79 = some (.bipush 112) := by decide +kernel
theorem i_151_81 : ins 151 81 = some (.iload_n 2) := by decide +kernel
theorem i_151_82 : ins 151 82 = some (.iadd) := by decide +kernel
theorem i_151_83 : ins 151 83 = some (.iaload) := by decide +kernel
theorem i_151_84 : ins 151 84 = some (.istore_n 3) := by decide +kernel
theorem i_151_85 : ins 151 85 = some (.aload_n 0) := by decide +kernel
theorem i_151_86 : ins 151 86 = some (.getfield 7) := by decide +kernel
theorem i_151_89 : ins 151 89 = some (.sipush 145) := by decide +kernel
theorem i_151_92 : ins 151 92 = some (.iload_n 3) := by decide +kernel
theorem i_151_93 : ins 151 93 = some (.iadd) := by decide +kernel
theorem i_151_94 : ins 151 94 = some (.iaload) := by decide +kernel
theorem i_151_95 : ins 151 95 = some (.iconst 2) := by decide +kernel
theorem i_151_96 : ins 151 96 = some (.if_icmp .ne 7) := by decide +kernel
theorem i_151_99 : ins 151 99 = some (.iload_n 1) := by decide +kernel
theorem i_151_100 : ins 151 100 = some (.ifCond .ne 20) := by decide +kernel
theorem i_151_103 : ins 151 103 = some (.aload_n 0) := by decide +kernel
theorem i_151_104 : ins 151 104 = some (.getfield 7) := by decide +kernel
theorem i_151_107 : ins 151 107 = some (.bipush 28) := by decide +kernel
theorem i_151_109 : ins 151 109 = some (.iload_n 3) := by decide +kernel
theorem i_151_110 : ins 151 110 = some (.iadd) := by decide +kernel
theorem i_151_111 : ins 151 111 = some (.iaload) := by decide +kernel
theorem i_151_112 : ins 151 112 = some (.aload_n 0) := by decide +kernel
theorem i_151_113 : ins 151 113 = some (.iload_n 3) := by decide +kernel
theorem i_151_114 : ins 151 114 = some (.invokevirtual 141) := by decide +kernel
theorem i_151_117 : ins 151 117 = some (.if_icmp .gt 7) := by decide +kernel
theorem i_151_120 : ins 151 120 = some (.iconst 1) := by decide +kernel
theorem i_151_121 : ins 151 121 = some (.goto 4) := by decide +kernel
theorem i_151_124 : ins 151 124 = some (.iconst 0) := by decide +kernel
theorem i_151_125 : ins 151 125 = some (.istore 4) := by decide +kernel
theorem i_151_127 : ins 151 127 = some (.iload 4) := by decide +kernel
theorem i_151_129 : ins 151 129 = some (.ifCond .ne 17) := by decide +kernel
theorem i_151_132 : ins 151 132 = some (.aload_n 0) := by decide +kernel
theorem i_151_133 : ins 151 133 = some (.getfield 7) := by decide +kernel
theorem i_151_136 : ins 151 136 = some (.iconst 0) := by decide +kernel
theorem i_151_137 : ins 151 137 = some (.iload_n 3) := by decide +kernel
theorem i_151_138 : ins 151 138 = some (.iadd) := by decide +kernel
theorem i_151_139 : ins 151 139 = some (.iconst 3) := by decide +kernel
theorem i_151_140 : ins 151 140 = some (.iastore) := by decide +kernel
theorem i_151_141 : ins 151 141 = some (.aload_n 0) := by decide +kernel
theorem i_151_142 : ins 151 142 = some (.iload_n 2) := by decide +kernel
theorem i_151_143 : ins 151 143 = some (.invokevirtual 144) := by decide +kernel
theorem i_151_146 : ins 151 146 = some (.iinc 2 (-1)) := by decide +kernel
theorem i_151_149 : ins 151 149 = some (.goto (-78)) := by decide +kernel
theorem i_151_152 : ins 151 152 = some (.return_) := by decide +kernel
theorem o_152 : mOwn 152 = 8 := rfl
theorem i_152_0 : ins 152 0 = some (.aload_n 0) := by decide +kernel
theorem i_152_1 : ins 152 1 = some (.getfield 7) := by decide +kernel
theorem i_152_4 : ins 152 4 = some (.bipush 112) := by decide +kernel
theorem i_152_6 : ins 152 6 = some (.aload_n 0) := by decide +kernel
theorem i_152_7 : ins 152 7 = some (.getfield 7) := by decide +kernel
theorem i_152_10 : ins 152 10 = some (.sipush 140) := by decide +kernel
theorem i_152_13 : ins 152 13 = some (.iaload) := by decide +kernel
theorem i_152_14 : ins 152 14 = some (.iadd) := by decide +kernel
theorem i_152_15 : ins 152 15 = some (.iload_n 1) := by decide +kernel
theorem i_152_16 : ins 152 16 = some (.iastore) := by decide +kernel
theorem i_152_17 : ins 152 17 = some (.aload_n 0) := by decide +kernel
theorem i_152_18 : ins 152 18 = some (.getfield 7) := by decide +kernel
theorem i_152_21 : ins 152 21 = some (.sipush 140) := by decide +kernel
theorem i_152_24 : ins 152 24 = some (.dup2) := by decide +kernel
theorem i_152_25 : ins 152 25 = some (.iaload) := by decide +kernel
theorem i_152_26 : ins 152 26 = some (.iconst 1) := by decide +kernel
theorem i_152_27 : ins 152 27 = some (.iadd) := by decide +kernel
theorem i_152_28 : ins 152 28 = some (.iastore) := by decide +kernel
theorem i_152_29 : ins 152 29 = some (.aload_n 0) := by decide +kernel
theorem i_152_30 : ins 152 30 = some (.getfield 7) := by decide +kernel
theorem i_152_33 : ins 152 33 = some (.iconst 0) := by decide +kernel
theorem i_152_34 : ins 152 34 = some (.iload_n 1) := by decide +kernel
theorem i_152_35 : ins 152 35 = some (.iadd) := by decide +kernel
theorem i_152_36 : ins 152 36 = some (.iconst 1) := by decide +kernel
theorem i_152_37 : ins 152 37 = some (.iastore) := by decide +kernel
theorem i_152_38 : ins 152 38 = some (.return_) := by decide +kernel
theorem o_153 : mOwn 153 = 8 := rfl
theorem i_153_0 : ins 153 0 = some (.aload_n 0) := by decide +kernel
theorem i_153_1 : ins 153 1 = some (.invokevirtual 148) := by decide +kernel
theorem i_153_4 : ins 153 4 = some (.aload_n 0) := by decide +kernel
theorem i_153_5 : ins 153 5 = some (.getfield 7) := by decide +kernel
theorem i_153_8 : ins 153 8 = some (.sipush 142) := by decide +kernel
theorem i_153_11 : ins 153 11 = some (.dup2) := by decide +kernel
theorem i_153_12 : ins 153 12 = some (.iaload) := by decide +kernel
theorem i_153_13 : ins 153 13 = some (.iconst 1) := by decide +kernel
theorem i_153_14 : ins 153 14 = some (.iadd) := by decide +kernel
theorem i_153_15 : ins 153 15 = some (.iastore) := by decide +kernel
theorem i_153_16 : ins 153 16 = some (.aload_n 0) := by decide +kernel
theorem i_153_17 : ins 153 17 = some (.getfield 7) := by decide +kernel
theorem i_153_20 : ins 153 20 = some (.sipush 144) := by decide +kernel
theorem i_153_23 : ins 153 23 = some (.iaload) := by decide +kernel
theorem i_153_24 : ins 153 24 = some (.ifCond .eq 54) := by decide +kernel
theorem i_153_27 : ins 153 27 = some (.aload_n 0) := by decide +kernel
theorem i_153_28 : ins 153 28 = some (.getfield 7) := by decide +kernel
theorem i_153_31 : ins 153 31 = some (.sipush 142) := by decide +kernel
theorem i_153_34 : ins 153 34 = some (.iaload) := by decide +kernel
theorem i_153_35 : ins 153 35 = some (.aload_n 0) := by decide +kernel
theorem i_153_36 : ins 153 36 = some (.getfield 7) := by decide +kernel
theorem i_153_39 : ins 153 39 = some (.sipush 144) := by decide +kernel
theorem i_153_42 : ins 153 42 = some (.iaload) := by decide +kernel
theorem i_153_43 : ins 153 43 = some (.irem) := by decide +kernel
theorem i_153_44 : ins 153 44 = some (.ifCond .ne 34) := by decide +kernel
theorem i_153_47 : ins 153 47 = some (.aload_n 0) := by decide +kernel
theorem i_153_48 : ins 153 48 = some (.getfield 7) := by decide +kernel
theorem i_153_51 : ins 153 51 = some (.sipush 140) := by decide +kernel
theorem i_153_54 : ins 153 54 = some (.iaload) := by decide +kernel
theorem i_153_55 : ins 153 55 = some (.ifCond .le 23) := by decide +kernel
theorem i_153_58 : ins 153 58 = some (.aload_n 0) := by decide +kernel
theorem i_153_59 : ins 153 59 = some (.getfield 7) := by decide +kernel
theorem i_153_62 : ins 153 62 = some (.iconst 0) := by decide +kernel
theorem i_153_63 : ins 153 63 = some (.aload_n 0) := by decide +kernel
theorem i_153_64 : ins 153 64 = some (.getfield 7) := by decide +kernel
theorem i_153_67 : ins 153 67 = some (.bipush 112) := by decide +kernel
theorem i_153_69 : ins 153 69 = some (.iaload) := by decide +kernel
theorem i_153_70 : ins 153 70 = some (.iadd) := by decide +kernel
theorem i_153_71 : ins 153 71 = some (.iconst 2) := by decide +kernel
theorem i_153_72 : ins 153 72 = some (.iastore) := by decide +kernel
theorem i_153_73 : ins 153 73 = some (.aload_n 0) := by decide +kernel
theorem i_153_74 : ins 153 74 = some (.iconst 0) := by decide +kernel
theorem i_153_75 : ins 153 75 = some (.invokevirtual 144) := by decide +kernel
theorem i_153_78 : ins 153 78 = some (.aload_n 0) := by decide +kernel
theorem i_153_79 : ins 153 79 = some (.invokevirtual 151) := by decide +kernel
theorem i_153_82 : ins 153 82 = some (.aload_n 0) := by decide +kernel
theorem i_153_83 : ins 153 83 = some (.getfield 7) := by decide +kernel
theorem i_153_86 : ins 153 86 = some (.sipush 141) := by decide +kernel
theorem i_153_89 : ins 153 89 = some (.iaload) := by decide +kernel
theorem i_153_90 : ins 153 90 = some (.istore_n 2) := by decide +kernel
theorem i_153_91 : ins 153 91 = some (.iload_n 2) := by decide +kernel
theorem i_153_92 : ins 153 92 = some (.aload_n 0) := by decide +kernel
theorem i_153_93 : ins 153 93 = some (.invokevirtual 132) := by decide +kernel
theorem i_153_96 : ins 153 96 = some (.if_icmp .ge 57) := by decide +kernel
theorem i_153_99 : ins 153 99 = some (.aload_n 0) := by decide +kernel
theorem i_153_100 : ins 153 100 = some (.getfield 7) := by decide +kernel
theorem i_153_103 : ins 153 103 = some (.sipush 141) := by decide +kernel
theorem i_153_106 : ins 153 106 = some (.dup2) := by decide +kernel
theorem i_153_107 : ins 153 107 = some (.iaload) := by decide +kernel
theorem i_153_108 : ins 153 108 = some (.iconst 1) := by decide +kernel
theorem i_153_109 : ins 153 109 = some (.iadd) := by decide +kernel
theorem i_153_110 : ins 153 110 = some (.iastore) := by decide +kernel
theorem i_153_111 : ins 153 111 = some (.iload_n 1) := by decide +kernel
theorem i_153_112 : ins 153 112 = some (.ifCond .eq 32) := by decide +kernel
theorem i_153_115 : ins 153 115 = some (.aload_n 0) := by decide +kernel
theorem i_153_116 : ins 153 116 = some (.getfield 7) := by decide +kernel
theorem i_153_119 : ins 153 119 = some (.sipush 140) := by decide +kernel
theorem i_153_122 : ins 153 122 = some (.iaload) := by decide +kernel
theorem i_153_123 : ins 153 123 = some (.aload_n 0) := by decide +kernel
theorem i_153_124 : ins 153 124 = some (.getfield 7) := by decide +kernel
theorem i_153_127 : ins 153 127 = some (.sipush 201) := by decide +kernel
theorem i_153_130 : ins 153 130 = some (.iload_n 2) := by decide +kernel
theorem i_153_131 : ins 153 131 = some (.iadd) := by decide +kernel
theorem i_153_132 : ins 153 132 = some (.iaload) := by decide +kernel
theorem i_153_133 : ins 153 133 = some (.if_icmp .lt 11) := by decide +kernel
theorem i_153_136 : ins 153 136 = some (.aload_n 0) := by decide +kernel
theorem i_153_137 : ins 153 137 = some (.iload_n 2) := by decide +kernel
theorem i_153_138 : ins 153 138 = some (.invokevirtual 154) := by decide +kernel
theorem i_153_141 : ins 153 141 = some (.goto 12) := by decide +kernel
theorem i_153_144 : ins 153 144 = some (.aload_n 0) := by decide +kernel
theorem i_153_145 : ins 153 145 = some (.getfield 7) := by decide +kernel
theorem i_153_148 : ins 153 148 = some (.iconst 0) := by decide +kernel
theorem i_153_149 : ins 153 149 = some (.iload_n 2) := by decide +kernel
theorem i_153_150 : ins 153 150 = some (.iadd) := by decide +kernel
theorem i_153_151 : ins 153 151 = some (.iconst 4) := by decide +kernel
theorem i_153_152 : ins 153 152 = some (.iastore) := by decide +kernel
theorem i_153_153 : ins 153 153 = some (.return_) := by decide +kernel
theorem o_154 : mOwn 154 = 8 := rfl
theorem i_154_0 : ins 154 0 = some (.aload_n 0) := by decide +kernel
theorem i_154_1 : ins 154 1 = some (.getfield 129) := by decide +kernel
theorem i_154_4 : ins 154 4 = some (.bipush 24) := by decide +kernel
theorem i_154_6 : ins 154 6 = some (.if_icmp .ne 40) := by decide +kernel
theorem i_154_9 : ins 154 9 = some (.iconst 0) := by decide +kernel
theorem i_154_10 : ins 154 10 = some (.istore_n 1) := by decide +kernel
theorem i_154_11 : ins 154 11 = some (.iload_n 1) := by decide +kernel
theorem i_154_12 : ins 154 12 = some (.sipush 3335) := by decide +kernel
theorem i_154_15 : ins 154 15 = some (.if_icmp .ge 25) := by decide +kernel
theorem i_154_18 : ins 154 18 = some (.aload_n 0) := by decide +kernel
theorem i_154_19 : ins 154 19 = some (.getfield 20) := by decide +kernel
theorem i_154_22 : ins 154 22 = some (.iload_n 1) := by decide +kernel
theorem i_154_23 : ins 154 23 = some (.aload_n 0) := by decide +kernel
theorem i_154_24 : ins 154 24 = some (.getfield 20) := by decide +kernel
theorem i_154_27 : ins 154 27 = some (.iload_n 1) := by decide +kernel
theorem i_154_28 : ins 154 28 = some (.sipush 145) := by decide +kernel
theorem i_154_31 : ins 154 31 = some (.iadd) := by decide +kernel
theorem i_154_32 : ins 154 32 = some (.iaload) := by decide +kernel
theorem i_154_33 : ins 154 33 = some (.iastore) := by decide +kernel
theorem i_154_34 : ins 154 34 = some (.iinc 1 1) := by decide +kernel
theorem i_154_37 : ins 154 37 = some (.goto (-26)) := by decide +kernel
theorem i_154_40 : ins 154 40 = some (.aload_n 0) := by decide +kernel
theorem i_154_41 : ins 154 41 = some (.bipush 23) := by decide +kernel
theorem i_154_43 : ins 154 43 = some (.putfield 129) := by decide +kernel
theorem i_154_46 : ins 154 46 = some (.iconst 0) := by decide +kernel
theorem i_154_47 : ins 154 47 = some (.istore_n 1) := by decide +kernel
theorem i_154_48 : ins 154 48 = some (.iload_n 1) := by decide +kernel
theorem i_154_49 : ins 154 49 = some (.sipush 145) := by decide +kernel
theorem i_154_52 : ins 154 52 = some (.if_icmp .ge 30) := by decide +kernel
theorem i_154_55 : ins 154 55 = some (.aload_n 0) := by decide +kernel
theorem i_154_56 : ins 154 56 = some (.getfield 20) := by decide +kernel
theorem i_154_59 : ins 154 59 = some (.sipush 145) := by decide +kernel
theorem i_154_62 : ins 154 62 = some (.aload_n 0) := by decide +kernel
theorem i_154_63 : ins 154 63 = some (.getfield 129) := by decide +kernel
theorem i_154_66 : ins 154 66 = some (.imul) := by decide +kernel
theorem i_154_67 : ins 154 67 = some (.iload_n 1) := by decide +kernel
theorem i_154_68 : ins 154 68 = some (.iadd) := by decide +kernel
theorem i_154_69 : ins 154 69 = some (.aload_n 0) := by decide +kernel
theorem i_154_70 : ins 154 70 = some (.getfield 7) := by decide +kernel
theorem i_154_73 : ins 154 73 = some (.iload_n 1) := by decide +kernel
theorem i_154_74 : ins 154 74 = some (.iaload) := by decide +kernel
theorem i_154_75 : ins 154 75 = some (.iastore) := by decide +kernel
theorem i_154_76 : ins 154 76 = some (.iinc 1 1) := by decide +kernel
theorem i_154_79 : ins 154 79 = some (.goto (-31)) := by decide +kernel
theorem i_154_82 : ins 154 82 = some (.aload_n 0) := by decide +kernel
theorem i_154_83 : ins 154 83 = some (.dup) := by decide +kernel
theorem i_154_84 : ins 154 84 = some (.getfield 129) := by decide +kernel
theorem i_154_87 : ins 154 87 = some (.iconst 1) := by decide +kernel
theorem i_154_88 : ins 154 88 = some (.iadd) := by decide +kernel
theorem i_154_89 : ins 154 89 = some (.putfield 129) := by decide +kernel
theorem i_154_92 : ins 154 92 = some (.return_) := by decide +kernel
theorem o_155 : mOwn 155 = 8 := rfl
theorem i_155_0 : ins 155 0 = some (.aload_n 0) := by decide +kernel
theorem i_155_1 : ins 155 1 = some (.invokevirtual 157) := by decide +kernel
theorem i_155_4 : ins 155 4 = some (.ifCond .ne 6) := by decide +kernel
theorem i_155_7 : ins 155 7 = some (.ldc 161) := by decide +kernel
theorem i_155_9 : ins 155 9 = some (.ireturn) := by decide +kernel
theorem i_155_10 : ins 155 10 = some (.iload_n 1) := by decide +kernel
theorem i_155_11 : ins 155 11 = some (.i2l) := by decide +kernel
theorem i_155_12 : ins 155 12 = some (.lconst 1) := by decide +kernel
theorem i_155_13 : ins 155 13 = some (.ldc2_w 162) := by decide +kernel
theorem i_155_16 : ins 155 16 = some (.invokestatic 63) := by decide +kernel
theorem i_155_19 : ins 155 19 = some (.ifCond .ne 6) := by decide +kernel
theorem i_155_22 : ins 155 22 = some (.ldc 73) := by decide +kernel
theorem i_155_24 : ins 155 24 = some (.ireturn) := by decide +kernel
theorem i_155_25 : ins 155 25 = some (.aload_n 0) := by decide +kernel
theorem i_155_26 : ins 155 26 = some (.getfield 7) := by decide +kernel
theorem i_155_29 : ins 155 29 = some (.sipush 142) := by decide +kernel
theorem i_155_32 : ins 155 32 = some (.iaload) := by decide +kernel
theorem i_155_33 : ins 155 33 = some (.iload_n 1) := by decide +kernel
theorem i_155_34 : ins 155 34 = some (.iadd) := by decide +kernel
theorem i_155_35 : ins 155 35 = some (.sipush 999) := by decide +kernel
theorem i_155_38 : ins 155 38 = some (.if_icmp .le 6) := by decide +kernel
theorem i_155_41 : ins 155 41 = some (.ldc 86) := by decide +kernel
theorem i_155_43 : ins 155 43 = some (.ireturn) := by decide +kernel
theorem i_155_44 : ins 155 44 = some (.iconst 0) := by decide +kernel
theorem i_155_45 : ins 155 45 = some (.istore_n 2) := by decide +kernel
theorem i_155_46 : ins 155 46 = some (.iload_n 2) := by decide +kernel
theorem i_155_47 : ins 155 47 = some (.iload_n 1) := by decide +kernel
theorem i_155_48 : ins 155 48 = some (.if_icmp .ge 18) := by decide +kernel
theorem i_155_51 : ins 155 51 = some (.aload_n 0) := by decide +kernel
theorem i_155_52 : ins 155 52 = some (.invokevirtual 164) := by decide +kernel
theorem i_155_55 : ins 155 55 = some (.aload_n 0) := by decide +kernel
theorem i_155_56 : ins 155 56 = some (.iconst 1) := by decide +kernel
theorem i_155_57 : ins 155 57 = some (.invokevirtual 167) := by decide +kernel
theorem i_155_60 : ins 155 60 = some (.iinc 2 1) := by decide +kernel
theorem i_155_63 : ins 155 63 = some (.goto (-17)) := by decide +kernel
theorem i_155_66 : ins 155 66 = some (.aload_n 0) := by decide +kernel
theorem i_155_67 : ins 155 67 = some (.getfield 7) := by decide +kernel
theorem i_155_70 : ins 155 70 = some (.sipush 140) := by decide +kernel
theorem i_155_73 : ins 155 73 = some (.iaload) := by decide +kernel
theorem i_155_74 : ins 155 74 = some (.ireturn) := by decide +kernel
theorem o_156 : mOwn 156 = 8 := rfl
theorem i_156_0 : ins 156 0 = some (.aload_n 0) := by decide +kernel
theorem i_156_1 : ins 156 1 = some (.getfield 7) := by decide +kernel
theorem i_156_4 : ins 156 4 = some (.iconst 0) := by decide +kernel
theorem i_156_5 : ins 156 5 = some (.iload_n 1) := by decide +kernel
theorem i_156_6 : ins 156 6 = some (.iadd) := by decide +kernel
theorem i_156_7 : ins 156 7 = some (.iaload) := by decide +kernel
theorem i_156_8 : ins 156 8 = some (.iconst 1) := by decide +kernel
theorem i_156_9 : ins 156 9 = some (.if_icmp .ne 7) := by decide +kernel
theorem i_156_12 : ins 156 12 = some (.iconst 1) := by decide +kernel
theorem i_156_13 : ins 156 13 = some (.goto 4) := by decide +kernel
theorem i_156_16 : ins 156 16 = some (.iconst 0) := by decide +kernel
theorem i_156_17 : ins 156 17 = some (.ireturn) := by decide +kernel
theorem o_157 : mOwn 157 = 8 := rfl
theorem i_157_0 : ins 157 0 = some (.aload_n 0) := by decide +kernel
theorem i_157_1 : ins 157 1 = some (.getfield 7) := by decide +kernel
theorem i_157_4 : ins 157 4 = some (.bipush 56) := by decide +kernel
theorem i_157_6 : ins 157 6 = some (.iload_n 1) := by decide +kernel
theorem i_157_7 : ins 157 7 = some (.iadd) := by decide +kernel
theorem i_157_8 : ins 157 8 = some (.iload_n 2) := by decide +kernel
theorem i_157_9 : ins 157 9 = some (.iastore) := by decide +kernel
theorem i_157_10 : ins 157 10 = some (.aload_n 0) := by decide +kernel
theorem i_157_11 : ins 157 11 = some (.getfield 7) := by decide +kernel
theorem i_157_14 : ins 157 14 = some (.bipush 84) := by decide +kernel
theorem i_157_16 : ins 157 16 = some (.iload_n 1) := by decide +kernel
theorem i_157_17 : ins 157 17 = some (.iadd) := by decide +kernel
theorem i_157_18 : ins 157 18 = some (.iload_n 1) := by decide +kernel
theorem i_157_19 : ins 157 19 = some (.iastore) := by decide +kernel
theorem i_157_20 : ins 157 20 = some (.return_) := by decide +kernel
theorem o_158 : mOwn 158 = 8 := rfl
theorem i_158_0 : ins 158 0 = some (.aload_n 0) := by decide +kernel
theorem i_158_1 : ins 158 1 = some (.iload_n 1) := by decide +kernel
theorem i_158_2 : ins 158 2 = some (.invokevirtual 171) := by decide +kernel
theorem i_158_5 : ins 158 5 = some (.ifCond .eq 15) := by decide +kernel
theorem i_158_8 : ins 158 8 = some (.iload_n 2) := by decide +kernel
theorem i_158_9 : ins 158 9 = some (.i2l) := by decide +kernel
theorem i_158_10 : ins 158 10 = some (.lconst 0) := by decide +kernel
theorem i_158_11 : ins 158 11 = some (.ldc2_w 174) := by decide +kernel
theorem i_158_14 : ins 158 14 = some (.invokestatic 63) := by decide +kernel
theorem i_158_17 : ins 158 17 = some (.ifCond .ne 6) := by decide +kernel
theorem i_158_20 : ins 158 20 = some (.ldc 73) := by decide +kernel
theorem i_158_22 : ins 158 22 = some (.ireturn) := by decide +kernel
theorem i_158_23 : ins 158 23 = some (.aload_n 0) := by decide +kernel
theorem i_158_24 : ins 158 24 = some (.iload_n 1) := by decide +kernel
theorem i_158_25 : ins 158 25 = some (.invokevirtual 176) := by decide +kernel
theorem i_158_28 : ins 158 28 = some (.ifCond .ne 6) := by decide +kernel
theorem i_158_31 : ins 158 31 = some (.ldc 161) := by decide +kernel
theorem i_158_33 : ins 158 33 = some (.ireturn) := by decide +kernel
theorem i_158_34 : ins 158 34 = some (.aload_n 0) := by decide +kernel
theorem i_158_35 : ins 158 35 = some (.invokevirtual 164) := by decide +kernel
theorem i_158_38 : ins 158 38 = some (.aload_n 0) := by decide +kernel
theorem i_158_39 : ins 158 39 = some (.iload_n 1) := by decide +kernel
theorem i_158_40 : ins 158 40 = some (.invokevirtual 135) := by decide +kernel
theorem i_158_43 : ins 158 43 = some (.istore_n 3) := by decide +kernel
theorem i_158_44 : ins 158 44 = some (.aload_n 0) := by decide +kernel
theorem i_158_45 : ins 158 45 = some (.iload_n 1) := by decide +kernel
theorem i_158_46 : ins 158 46 = some (.iload_n 2) := by decide +kernel
theorem i_158_47 : ins 158 47 = some (.invokevirtual 179) := by decide +kernel
theorem i_158_50 : ins 158 50 = some (.iload_n 3) := by decide +kernel
theorem i_158_51 : ins 158 51 = some (.ireturn) := by decide +kernel
theorem o_159 : mOwn 159 = 8 := rfl
theorem i_159_0 : ins 159 0 = some (.ldc 183) := by decide +kernel
theorem i_159_2 : ins 159 2 = some (.istore_n 2) := by decide +kernel
theorem i_159_3 : ins 159 3 = some (.iconst 0) := by decide +kernel
theorem i_159_4 : ins 159 4 = some (.istore_n 3) := by decide +kernel
theorem i_159_5 : ins 159 5 = some (.iload_n 3) := by decide +kernel
theorem i_159_6 : ins 159 6 = some (.aload_n 0) := by decide +kernel
theorem i_159_7 : ins 159 7 = some (.getfield 7) := by decide +kernel
theorem i_159_10 : ins 159 10 = some (.sipush 140) := by decide +kernel
theorem i_159_13 : ins 159 13 = some (.iaload) := by decide +kernel
theorem i_159_14 : ins 159 14 = some (.if_icmp .ge 28) := by decide +kernel
theorem i_159_17 : ins 159 17 = some (.aload_n 0) := by decide +kernel
theorem i_159_18 : ins 159 18 = some (.getfield 7) := by decide +kernel
theorem i_159_21 : ins 159 21 = some (.bipush 112) := by decide +kernel
theorem i_159_23 : ins 159 23 = some (.iload_n 3) := by decide +kernel
theorem i_159_24 : ins 159 24 = some (.iadd) := by decide +kernel
theorem i_159_25 : ins 159 25 = some (.iaload) := by decide +kernel
theorem i_159_26 : ins 159 26 = some (.iload_n 1) := by decide +kernel
theorem i_159_27 : ins 159 27 = some (.if_icmp .ne 7) := by decide +kernel
theorem i_159_30 : ins 159 30 = some (.iload_n 3) := by decide +kernel
theorem i_159_31 : ins 159 31 = some (.goto 4) := by decide +kernel
theorem i_159_34 : ins 159 34 = some (.iload_n 2) := by decide +kernel
theorem i_159_35 : ins 159 35 = some (.istore_n 2) := by decide +kernel
theorem i_159_36 : ins 159 36 = some (.iinc 3 1) := by decide +kernel
theorem i_159_39 : ins 159 39 = some (.goto (-34)) := by decide +kernel
theorem i_159_42 : ins 159 42 = some (.iload_n 2) := by decide +kernel
theorem i_159_43 : ins 159 43 = some (.ireturn) := by decide +kernel
theorem o_160 : mOwn 160 = 8 := rfl
theorem i_160_0 : ins 160 0 = some (.aload_n 0) := by decide +kernel
theorem i_160_1 : ins 160 1 = some (.iload_n 1) := by decide +kernel
theorem i_160_2 : ins 160 2 = some (.invokevirtual 171) := by decide +kernel
theorem i_160_5 : ins 160 5 = some (.ifCond .ne 6) := by decide +kernel
theorem i_160_8 : ins 160 8 = some (.ldc 73) := by decide +kernel
theorem i_160_10 : ins 160 10 = some (.ireturn) := by decide +kernel
theorem i_160_11 : ins 160 11 = some (.aload_n 0) := by decide +kernel
theorem i_160_12 : ins 160 12 = some (.iload_n 1) := by decide +kernel
theorem i_160_13 : ins 160 13 = some (.invokevirtual 176) := by decide +kernel
theorem i_160_16 : ins 160 16 = some (.ifCond .ne 6) := by decide +kernel
theorem i_160_19 : ins 160 19 = some (.ldc 161) := by decide +kernel
theorem i_160_21 : ins 160 21 = some (.ireturn) := by decide +kernel
theorem i_160_22 : ins 160 22 = some (.aload_n 0) := by decide +kernel
theorem i_160_23 : ins 160 23 = some (.invokevirtual 164) := by decide +kernel
theorem i_160_26 : ins 160 26 = some (.aload_n 0) := by decide +kernel
theorem i_160_27 : ins 160 27 = some (.aload_n 0) := by decide +kernel
theorem i_160_28 : ins 160 28 = some (.iload_n 1) := by decide +kernel
theorem i_160_29 : ins 160 29 = some (.invokevirtual 184) := by decide +kernel
theorem i_160_32 : ins 160 32 = some (.invokevirtual 144) := by decide +kernel
theorem i_160_35 : ins 160 35 = some (.aload_n 0) := by decide +kernel
theorem i_160_36 : ins 160 36 = some (.getfield 7) := by decide +kernel
theorem i_160_39 : ins 160 39 = some (.iconst 0) := by decide +kernel
theorem i_160_40 : ins 160 40 = some (.iload_n 1) := by decide +kernel
theorem i_160_41 : ins 160 41 = some (.iadd) := by decide +kernel
theorem i_160_42 : ins 160 42 = some (.iconst 3) := by decide +kernel
theorem i_160_43 : ins 160 43 = some (.iastore) := by decide +kernel
theorem i_160_44 : ins 160 44 = some (.aload_n 0) := by decide +kernel
theorem i_160_45 : ins 160 45 = some (.getfield 7) := by decide +kernel
theorem i_160_48 : ins 160 48 = some (.sipush 140) := by decide +kernel
theorem i_160_51 : ins 160 51 = some (.iaload) := by decide +kernel
theorem i_160_52 : ins 160 52 = some (.ireturn) := by decide +kernel
theorem o_161 : mOwn 161 = 8 := rfl
theorem i_161_0 : ins 161 0 = some (.aload_n 0) := by decide +kernel
theorem i_161_1 : ins 161 1 = some (.invokevirtual 157) := by decide +kernel
theorem i_161_4 : ins 161 4 = some (.ifCond .ne 6) := by decide +kernel
theorem i_161_7 : ins 161 7 = some (.ldc 161) := by decide +kernel
theorem i_161_9 : ins 161 9 = some (.ireturn) := by decide +kernel
theorem i_161_10 : ins 161 10 = some (.iload_n 1) := by decide +kernel
theorem i_161_11 : ins 161 11 = some (.i2l) := by decide +kernel
theorem i_161_12 : ins 161 12 = some (.lconst 0) := by decide +kernel
theorem i_161_13 : ins 161 13 = some (.ldc2_w 174) := by decide +kernel
theorem i_161_16 : ins 161 16 = some (.invokestatic 63) := by decide +kernel
theorem i_161_19 : ins 161 19 = some (.ifCond .eq 15) := by decide +kernel
theorem i_161_22 : ins 161 22 = some (.iload_n 2) := by decide +kernel
theorem i_161_23 : ins 161 23 = some (.i2l) := by decide +kernel
theorem i_161_24 : ins 161 24 = some (.lconst 0) := by decide +kernel
theorem i_161_25 : ins 161 25 = some (.ldc2_w 187) := by decide +kernel
theorem i_161_28 : ins 161 28 = some (.invokestatic 63) := by decide +kernel
theorem i_161_31 : ins 161 31 = some (.ifCond .ne 6) := by decide +kernel
theorem i_161_34 : ins 161 34 = some (.ldc 73) := by decide +kernel
theorem i_161_36 : ins 161 36 = some (.ireturn) := by decide +kernel
theorem i_161_37 : ins 161 37 = some (.aload_n 0) := by decide +kernel
theorem i_161_38 : ins 161 38 = some (.invokevirtual 164) := by decide +kernel
theorem i_161_41 : ins 161 41 = some (.bipush 10) := by decide +kernel
theorem i_161_43 : ins 161 43 = some (.aload_n 0) := by decide +kernel
theorem i_161_44 : ins 161 44 = some (.getfield 7) := by decide +kernel
theorem i_161_47 : ins 161 47 = some (.sipush 143) := by decide +kernel
theorem i_161_50 : ins 161 50 = some (.iaload) := by decide +kernel
theorem i_161_51 : ins 161 51 = some (.imul) := by decide +kernel
theorem i_161_52 : ins 161 52 = some (.aload_n 0) := by decide +kernel
theorem i_161_53 : ins 161 53 = some (.getfield 7) := by decide +kernel
theorem i_161_56 : ins 161 56 = some (.sipush 144) := by decide +kernel
theorem i_161_59 : ins 161 59 = some (.iaload) := by decide +kernel
theorem i_161_60 : ins 161 60 = some (.iadd) := by decide +kernel
theorem i_161_61 : ins 161 61 = some (.istore_n 3) := by decide +kernel
theorem i_161_62 : ins 161 62 = some (.aload_n 0) := by decide +kernel
theorem i_161_63 : ins 161 63 = some (.getfield 7) := by decide +kernel
theorem i_161_66 : ins 161 66 = some (.sipush 143) := by decide +kernel
theorem i_161_69 : ins 161 69 = some (.iload_n 1) := by decide +kernel
theorem i_161_70 : ins 161 70 = some (.iastore) := by decide +kernel
theorem i_161_71 : ins 161 71 = some (.aload_n 0) := by decide +kernel
theorem i_161_72 : ins 161 72 = some (.getfield 7) := by decide +kernel
theorem i_161_75 : ins 161 75 = some (.sipush 144) := by decide +kernel
theorem i_161_78 : ins 161 78 = some (.iload_n 2) := by decide +kernel
theorem i_161_79 : ins 161 79 = some (.iastore) := by decide +kernel
theorem i_161_80 : ins 161 80 = some (.iload_n 3) := by decide +kernel
theorem i_161_81 : ins 161 81 = some (.ireturn) := by decide +kernel
theorem o_162 : mOwn 162 = 8 := rfl
theorem i_162_0 : ins 162 0 = some (.aload_n 0) := by decide +kernel
theorem i_162_1 : ins 162 1 = some (.getfield 129) := by decide +kernel
theorem i_162_4 : ins 162 4 = some (.ifCond .ne 6) := by decide +kernel
theorem i_162_7 : ins 162 7 = some (.ldc 161) := by decide +kernel
theorem i_162_9 : ins 162 9 = some (.ireturn) := by decide +kernel
theorem i_162_10 : ins 162 10 = some (.aload_n 0) := by decide +kernel
theorem i_162_11 : ins 162 11 = some (.dup) := by decide +kernel
theorem i_162_12 : ins 162 12 = some (.getfield 129) := by decide +kernel
theorem i_162_15 : ins 162 15 = some (.iconst 1) := by decide +kernel
theorem i_162_16 : ins 162 16 = some (.isub) := by decide +kernel
theorem i_162_17 : ins 162 17 = some (.putfield 129) := by decide +kernel
theorem i_162_20 : ins 162 20 = some (.iconst 0) := by decide +kernel
theorem i_162_21 : ins 162 21 = some (.istore_n 1) := by decide +kernel
theorem i_162_22 : ins 162 22 = some (.iload_n 1) := by decide +kernel
theorem i_162_23 : ins 162 23 = some (.sipush 145) := by decide +kernel
theorem i_162_26 : ins 162 26 = some (.if_icmp .ge 30) := by decide +kernel
theorem i_162_29 : ins 162 29 = some (.aload_n 0) := by decide +kernel
theorem i_162_30 : ins 162 30 = some (.getfield 7) := by decide +kernel
theorem i_162_33 : ins 162 33 = some (.iload_n 1) := by decide +kernel
theorem i_162_34 : ins 162 34 = some (.aload_n 0) := by decide +kernel
theorem i_162_35 : ins 162 35 = some (.getfield 20) := by decide +kernel
theorem i_162_38 : ins 162 38 = some (.sipush 145) := by decide +kernel
theorem i_162_41 : ins 162 41 = some (.aload_n 0) := by decide +kernel
theorem i_162_42 : ins 162 42 = some (.getfield 129) := by decide +kernel
theorem i_162_45 : ins 162 45 = some (.imul) := by decide +kernel
theorem i_162_46 : ins 162 46 = some (.iload_n 1) := by decide +kernel
theorem i_162_47 : ins 162 47 = some (.iadd) := by decide +kernel
theorem i_162_48 : ins 162 48 = some (.iaload) := by decide +kernel
theorem i_162_49 : ins 162 49 = some (.iastore) := by decide +kernel
theorem i_162_50 : ins 162 50 = some (.iinc 1 1) := by decide +kernel
theorem i_162_53 : ins 162 53 = some (.goto (-31)) := by decide +kernel
theorem i_162_56 : ins 162 56 = some (.aload_n 0) := by decide +kernel
theorem i_162_57 : ins 162 57 = some (.getfield 129) := by decide +kernel
theorem i_162_60 : ins 162 60 = some (.ireturn) := by decide +kernel
theorem o_163 : mOwn 163 = 8 := rfl
theorem i_163_0 : ins 163 0 = some (.aload_n 0) := by decide +kernel
theorem i_163_1 : ins 163 1 = some (.iload_n 1) := by decide +kernel
theorem i_163_2 : ins 163 2 = some (.invokevirtual 171) := by decide +kernel
theorem i_163_5 : ins 163 5 = some (.ifCond .eq 15) := by decide +kernel
theorem i_163_8 : ins 163 8 = some (.iload_n 2) := by decide +kernel
theorem i_163_9 : ins 163 9 = some (.i2l) := by decide +kernel
theorem i_163_10 : ins 163 10 = some (.lconst 0) := by decide +kernel
theorem i_163_11 : ins 163 11 = some (.ldc2_w 189) := by decide +kernel
theorem i_163_14 : ins 163 14 = some (.invokestatic 63) := by decide +kernel
theorem i_163_17 : ins 163 17 = some (.ifCond .ne 6) := by decide +kernel
theorem i_163_20 : ins 163 20 = some (.ldc 73) := by decide +kernel
theorem i_163_22 : ins 163 22 = some (.ireturn) := by decide +kernel
theorem i_163_23 : ins 163 23 = some (.iload_n 2) := by decide +kernel
theorem i_163_24 : ins 163 24 = some (.tableswitch 78 0 4 #[36, 42, 51, 61, 67]) := by decide +kernel
theorem i_163_60 : ins 163 60 = some (.aload_n 0) := by decide +kernel
theorem i_163_61 : ins 163 61 = some (.iload_n 1) := by decide +kernel
theorem i_163_62 : ins 163 62 = some (.invokevirtual 184) := by decide +kernel
theorem i_163_65 : ins 163 65 = some (.ireturn) := by decide +kernel
theorem i_163_66 : ins 163 66 = some (.aload_n 0) := by decide +kernel
theorem i_163_67 : ins 163 67 = some (.getfield 7) := by decide +kernel
theorem i_163_70 : ins 163 70 = some (.iconst 0) := by decide +kernel
theorem i_163_71 : ins 163 71 = some (.iload_n 1) := by decide +kernel
theorem i_163_72 : ins 163 72 = some (.iadd) := by decide +kernel
theorem i_163_73 : ins 163 73 = some (.iaload) := by decide +kernel
theorem i_163_74 : ins 163 74 = some (.ireturn) := by decide +kernel
theorem i_163_75 : ins 163 75 = some (.aload_n 0) := by decide +kernel
theorem i_163_76 : ins 163 76 = some (.getfield 7) := by decide +kernel
theorem i_163_79 : ins 163 79 = some (.bipush 28) := by decide +kernel
theorem i_163_81 : ins 163 81 = some (.iload_n 1) := by decide +kernel
theorem i_163_82 : ins 163 82 = some (.iadd) := by decide +kernel
theorem i_163_83 : ins 163 83 = some (.iaload) := by decide +kernel
theorem i_163_84 : ins 163 84 = some (.ireturn) := by decide +kernel
theorem i_163_85 : ins 163 85 = some (.aload_n 0) := by decide +kernel
theorem i_163_86 : ins 163 86 = some (.iload_n 1) := by decide +kernel
theorem i_163_87 : ins 163 87 = some (.invokevirtual 135) := by decide +kernel
theorem i_163_90 : ins 163 90 = some (.ireturn) := by decide +kernel
theorem i_163_91 : ins 163 91 = some (.aload_n 0) := by decide +kernel
theorem i_163_92 : ins 163 92 = some (.getfield 7) := by decide +kernel
theorem i_163_95 : ins 163 95 = some (.sipush 173) := by decide +kernel
theorem i_163_98 : ins 163 98 = some (.iload_n 1) := by decide +kernel
theorem i_163_99 : ins 163 99 = some (.iadd) := by decide +kernel
theorem i_163_100 : ins 163 100 = some (.iaload) := by decide +kernel
theorem i_163_101 : ins 163 101 = some (.ireturn) := by decide +kernel
theorem i_163_102 : ins 163 102 = some (.aload_n 0) := by decide +kernel
theorem i_163_103 : ins 163 103 = some (.getfield 7) := by decide +kernel
theorem i_163_106 : ins 163 106 = some (.bipush 84) := by decide +kernel
theorem i_163_108 : ins 163 108 = some (.iload_n 1) := by decide +kernel
theorem i_163_109 : ins 163 109 = some (.iadd) := by decide +kernel
theorem i_163_110 : ins 163 110 = some (.iaload) := by decide +kernel
theorem i_163_111 : ins 163 111 = some (.ireturn) := by decide +kernel
theorem o_164 : mOwn 164 = 8 := rfl
theorem i_164_0 : ins 164 0 = some (.iload_n 1) := by decide +kernel
theorem i_164_1 : ins 164 1 = some (.ifCond .ge 8) := by decide +kernel
theorem i_164_4 : ins 164 4 = some (.ldc 73) := by decide +kernel
theorem i_164_6 : ins 164 6 = some (.goto 29) := by decide +kernel
theorem i_164_9 : ins 164 9 = some (.iload_n 1) := by decide +kernel
theorem i_164_10 : ins 164 10 = some (.aload_n 0) := by decide +kernel
theorem i_164_11 : ins 164 11 = some (.getfield 7) := by decide +kernel
theorem i_164_14 : ins 164 14 = some (.sipush 140) := by decide +kernel
theorem i_164_17 : ins 164 17 = some (.iaload) := by decide +kernel
theorem i_164_18 : ins 164 18 = some (.if_icmp .ge 15) := by decide +kernel
theorem i_164_21 : ins 164 21 = some (.aload_n 0) := by decide +kernel
theorem i_164_22 : ins 164 22 = some (.getfield 7) := by decide +kernel
theorem i_164_25 : ins 164 25 = some (.bipush 112) := by decide +kernel
theorem i_164_27 : ins 164 27 = some (.iload_n 1) := by decide +kernel
theorem i_164_28 : ins 164 28 = some (.iadd) := by decide +kernel
theorem i_164_29 : ins 164 29 = some (.iaload) := by decide +kernel
theorem i_164_30 : ins 164 30 = some (.goto 5) := by decide +kernel
theorem i_164_33 : ins 164 33 = some (.ldc 183) := by decide +kernel
theorem i_164_35 : ins 164 35 = some (.ireturn) := by decide +kernel
end
section
theorem o_165 : mOwn 165 = 8 := rfl
theorem i_165_0 : ins 165 0 = some (.iconst 0) := by decide +kernel
theorem i_165_1 : ins 165 1 = some (.istore_n 1) := by decide +kernel
theorem i_165_2 : ins 165 2 = some (.iload_n 1) := by decide +kernel
theorem i_165_3 : ins 165 3 = some (.sipush 232) := by decide +kernel
theorem i_165_6 : ins 165 6 = some (.if_icmp .ge 21) := by decide +kernel
theorem i_165_9 : ins 165 9 = some (.aload_n 0) := by decide +kernel
theorem i_165_10 : ins 165 10 = some (.getfield 23) := by decide +kernel
theorem i_165_13 : ins 165 13 = some (.iload_n 1) := by decide +kernel
theorem i_165_14 : ins 165 14 = some (.aload_n 0) := by decide +kernel
theorem i_165_15 : ins 165 15 = some (.getfield 7) := by decide +kernel
theorem i_165_18 : ins 165 18 = some (.iload_n 1) := by decide +kernel
theorem i_165_19 : ins 165 19 = some (.iaload) := by decide +kernel
theorem i_165_20 : ins 165 20 = some (.iastore) := by decide +kernel
theorem i_165_21 : ins 165 21 = some (.iinc 1 1) := by decide +kernel
theorem i_165_24 : ins 165 24 = some (.goto (-22)) := by decide +kernel
theorem i_165_27 : ins 165 27 = some (.return_) := by decide +kernel
theorem o_166 : mOwn 166 = 8 := rfl
theorem i_166_0 : ins 166 0 = some (.iconst 0) := by decide +kernel
theorem i_166_1 : ins 166 1 = some (.istore_n 1) := by decide +kernel
theorem i_166_2 : ins 166 2 = some (.iload_n 1) := by decide +kernel
theorem i_166_3 : ins 166 3 = some (.sipush 232) := by decide +kernel
theorem i_166_6 : ins 166 6 = some (.if_icmp .ge 21) := by decide +kernel
theorem i_166_9 : ins 166 9 = some (.aload_n 0) := by decide +kernel
theorem i_166_10 : ins 166 10 = some (.getfield 7) := by decide +kernel
theorem i_166_13 : ins 166 13 = some (.iload_n 1) := by decide +kernel
theorem i_166_14 : ins 166 14 = some (.aload_n 0) := by decide +kernel
theorem i_166_15 : ins 166 15 = some (.getfield 23) := by decide +kernel
theorem i_166_18 : ins 166 18 = some (.iload_n 1) := by decide +kernel
theorem i_166_19 : ins 166 19 = some (.iaload) := by decide +kernel
theorem i_166_20 : ins 166 20 = some (.iastore) := by decide +kernel
theorem i_166_21 : ins 166 21 = some (.iinc 1 1) := by decide +kernel
theorem i_166_24 : ins 166 24 = some (.goto (-22)) := by decide +kernel
theorem i_166_27 : ins 166 27 = some (.return_) := by decide +kernel
theorem o_167 : mOwn 167 = 8 := rfl
theorem i_167_0 : ins 167 0 = some (.iconst 0) := by decide +kernel
theorem i_167_1 : ins 167 1 = some (.istore_n 2) := by decide +kernel
theorem i_167_2 : ins 167 2 = some (.iload_n 2) := by decide +kernel
theorem i_167_3 : ins 167 3 = some (.iload_n 1) := by decide +kernel
theorem i_167_4 : ins 167 4 = some (.if_icmp .ge 14) := by decide +kernel
theorem i_167_7 : ins 167 7 = some (.aload_n 0) := by decide +kernel
theorem i_167_8 : ins 167 8 = some (.iconst 1) := by decide +kernel
theorem i_167_9 : ins 167 9 = some (.invokevirtual 167) := by decide +kernel
theorem i_167_12 : ins 167 12 = some (.iinc 2 1) := by decide +kernel
theorem i_167_15 : ins 167 15 = some (.goto (-13)) := by decide +kernel
theorem i_167_18 : ins 167 18 = some (.return_) := by decide +kernel
theorem o_168 : mOwn 168 = 8 := rfl
theorem i_168_0 : ins 168 0 = some (.iconst 0) := by decide +kernel
theorem i_168_1 : ins 168 1 = some (.istore_n 2) := by decide +kernel
theorem i_168_2 : ins 168 2 = some (.iconst 0) := by decide +kernel
theorem i_168_3 : ins 168 3 = some (.istore_n 3) := by decide +kernel
theorem i_168_4 : ins 168 4 = some (.iload_n 3) := by decide +kernel
theorem i_168_5 : ins 168 5 = some (.aload_n 0) := by decide +kernel
theorem i_168_6 : ins 168 6 = some (.invokevirtual 132) := by decide +kernel
theorem i_168_9 : ins 168 9 = some (.if_icmp .ge 29) := by decide +kernel
theorem i_168_12 : ins 168 12 = some (.iload_n 2) := by decide +kernel
theorem i_168_13 : ins 168 13 = some (.aload_n 0) := by decide +kernel
theorem i_168_14 : ins 168 14 = some (.getfield 7) := by decide +kernel
theorem i_168_17 : ins 168 17 = some (.iconst 0) := by decide +kernel
theorem i_168_18 : ins 168 18 = some (.iload_n 3) := by decide +kernel
theorem i_168_19 : ins 168 19 = some (.iadd) := by decide +kernel
theorem i_168_20 : ins 168 20 = some (.iaload) := by decide +kernel
theorem i_168_21 : ins 168 21 = some (.iload_n 1) := by decide +kernel
theorem i_168_22 : ins 168 22 = some (.if_icmp .ne 7) := by decide +kernel
theorem i_168_25 : ins 168 25 = some (.iconst 1) := by decide +kernel
theorem i_168_26 : ins 168 26 = some (.goto 4) := by decide +kernel
theorem i_168_29 : ins 168 29 = some (.iconst 0) := by decide +kernel
theorem i_168_30 : ins 168 30 = some (.iadd) := by decide +kernel
theorem i_168_31 : ins 168 31 = some (.istore_n 2) := by decide +kernel
theorem i_168_32 : ins 168 32 = some (.iinc 3 1) := by decide +kernel
theorem i_168_35 : ins 168 35 = some (.goto (-31)) := by decide +kernel
theorem i_168_38 : ins 168 38 = some (.iload_n 2) := by decide +kernel
theorem i_168_39 : ins 168 39 = some (.ireturn) := by decide +kernel
theorem o_169 : mOwn 169 = 8 := rfl
theorem i_169_0 : ins 169 0 = some (.aload_n 0) := by decide +kernel
theorem i_169_1 : ins 169 1 = some (.invokevirtual 157) := by decide +kernel
theorem i_169_4 : ins 169 4 = some (.ifCond .ne 6) := by decide +kernel
theorem i_169_7 : ins 169 7 = some (.ldc 161) := by decide +kernel
theorem i_169_9 : ins 169 9 = some (.ireturn) := by decide +kernel
theorem i_169_10 : ins 169 10 = some (.iload_n 1) := by decide +kernel
theorem i_169_11 : ins 169 11 = some (.i2l) := by decide +kernel
theorem i_169_12 : ins 169 12 = some (.lconst 0) := by decide +kernel
theorem i_169_13 : ins 169 13 = some (.ldc2_w 191) := by decide +kernel
theorem i_169_16 : ins 169 16 = some (.invokestatic 63) := by decide +kernel
theorem i_169_19 : ins 169 19 = some (.ifCond .eq 15) := by decide +kernel
theorem i_169_22 : ins 169 22 = some (.iload_n 2) := by decide +kernel
theorem i_169_23 : ins 169 23 = some (.i2l) := by decide +kernel
theorem i_169_24 : ins 169 24 = some (.lconst 0) := by decide +kernel
theorem i_169_25 : ins 169 25 = some (.ldc2_w 174) := by decide +kernel
theorem i_169_28 : ins 169 28 = some (.invokestatic 63) := by decide +kernel
theorem i_169_31 : ins 169 31 = some (.ifCond .ne 6) := by decide +kernel
theorem i_169_34 : ins 169 34 = some (.ldc 73) := by decide +kernel
theorem i_169_36 : ins 169 36 = some (.ireturn) := by decide +kernel
theorem i_169_37 : ins 169 37 = some (.aload_n 0) := by decide +kernel
theorem i_169_38 : ins 169 38 = some (.invokevirtual 193) := by decide +kernel
theorem i_169_41 : ins 169 41 = some (.aload_n 0) := by decide +kernel
theorem i_169_42 : ins 169 42 = some (.iload_n 1) := by decide +kernel
theorem i_169_43 : ins 169 43 = some (.invokevirtual 196) := by decide +kernel
theorem i_169_46 : ins 169 46 = some (.aload_n 0) := by decide +kernel
theorem i_169_47 : ins 169 47 = some (.iconst 1) := by decide +kernel
theorem i_169_48 : ins 169 48 = some (.iload_n 2) := by decide +kernel
theorem i_169_49 : ins 169 49 = some (.iadd) := by decide +kernel
theorem i_169_50 : ins 169 50 = some (.invokevirtual 199) := by decide +kernel
theorem i_169_53 : ins 169 53 = some (.istore_n 3) := by decide +kernel
theorem i_169_54 : ins 169 54 = some (.aload_n 0) := by decide +kernel
theorem i_169_55 : ins 169 55 = some (.invokevirtual 202) := by decide +kernel
theorem i_169_58 : ins 169 58 = some (.iload_n 3) := by decide +kernel
theorem i_169_59 : ins 169 59 = some (.ireturn) := by decide +kernel
theorem o_170 : mOwn 170 = 8 := rfl
theorem i_170_0 : ins 170 0 = some (.aload_n 0) := by decide +kernel
theorem i_170_1 : ins 170 1 = some (.invokevirtual 157) := by decide +kernel
theorem i_170_4 : ins 170 4 = some (.ifCond .ne 6) := by decide +kernel
theorem i_170_7 : ins 170 7 = some (.ldc 161) := by decide +kernel
theorem i_170_9 : ins 170 9 = some (.ireturn) := by decide +kernel
theorem i_170_10 : ins 170 10 = some (.iload_n 1) := by decide +kernel
theorem i_170_11 : ins 170 11 = some (.i2l) := by decide +kernel
theorem i_170_12 : ins 170 12 = some (.lconst 0) := by decide +kernel
theorem i_170_13 : ins 170 13 = some (.ldc2_w 191) := by decide +kernel
theorem i_170_16 : ins 170 16 = some (.invokestatic 63) := by decide +kernel
theorem i_170_19 : ins 170 19 = some (.ifCond .eq 7) := by decide +kernel
theorem i_170_22 : ins 170 22 = some (.iload_n 2) := by decide +kernel
theorem i_170_23 : ins 170 23 = some (.ifCond .ge 6) := by decide +kernel
theorem i_170_26 : ins 170 26 = some (.ldc 73) := by decide +kernel
theorem i_170_28 : ins 170 28 = some (.ireturn) := by decide +kernel
theorem i_170_29 : ins 170 29 = some (.aload_n 0) := by decide +kernel
theorem i_170_30 : ins 170 30 = some (.invokevirtual 193) := by decide +kernel
theorem i_170_33 : ins 170 33 = some (.aload_n 0) := by decide +kernel
theorem i_170_34 : ins 170 34 = some (.iload_n 1) := by decide +kernel
theorem i_170_35 : ins 170 35 = some (.invokevirtual 196) := by decide +kernel
theorem i_170_38 : ins 170 38 = some (.iload_n 2) := by decide +kernel
theorem i_170_39 : ins 170 39 = some (.aload_n 0) := by decide +kernel
theorem i_170_40 : ins 170 40 = some (.getfield 7) := by decide +kernel
theorem i_170_43 : ins 170 43 = some (.sipush 140) := by decide +kernel
theorem i_170_46 : ins 170 46 = some (.iaload) := by decide +kernel
theorem i_170_47 : ins 170 47 = some (.if_icmp .ge 15) := by decide +kernel
theorem i_170_50 : ins 170 50 = some (.aload_n 0) := by decide +kernel
theorem i_170_51 : ins 170 51 = some (.getfield 7) := by decide +kernel
theorem i_170_54 : ins 170 54 = some (.bipush 112) := by decide +kernel
theorem i_170_56 : ins 170 56 = some (.iload_n 2) := by decide +kernel
theorem i_170_57 : ins 170 57 = some (.iadd) := by decide +kernel
theorem i_170_58 : ins 170 58 = some (.iaload) := by decide +kernel
theorem i_170_59 : ins 170 59 = some (.goto 5) := by decide +kernel
theorem i_170_62 : ins 170 62 = some (.ldc 183) := by decide +kernel
theorem i_170_64 : ins 170 64 = some (.istore_n 3) := by decide +kernel
theorem i_170_65 : ins 170 65 = some (.aload_n 0) := by decide +kernel
theorem i_170_66 : ins 170 66 = some (.invokevirtual 202) := by decide +kernel
theorem i_170_69 : ins 170 69 = some (.iload_n 3) := by decide +kernel
theorem i_170_70 : ins 170 70 = some (.ireturn) := by decide +kernel
theorem o_171 : mOwn 171 = 8 := rfl
theorem i_171_0 : ins 171 0 = some (.iconst 0) := by decide +kernel
theorem i_171_1 : ins 171 1 = some (.istore_n 1) := by decide +kernel
theorem i_171_2 : ins 171 2 = some (.iload_n 1) := by decide +kernel
theorem i_171_3 : ins 171 3 = some (.sipush 200) := by decide +kernel
theorem i_171_6 : ins 171 6 = some (.if_icmp .ge 40) := by decide +kernel
theorem i_171_9 : ins 171 9 = some (.aload_n 0) := by decide +kernel
theorem i_171_10 : ins 171 10 = some (.getfield 7) := by decide +kernel
theorem i_171_13 : ins 171 13 = some (.sipush 140) := by decide +kernel
theorem i_171_16 : ins 171 16 = some (.iaload) := by decide +kernel
theorem i_171_17 : ins 171 17 = some (.ifCond .gt 18) := by decide +kernel
theorem i_171_20 : ins 171 20 = some (.aload_n 0) := by decide +kernel
theorem i_171_21 : ins 171 21 = some (.getfield 7) := by decide +kernel
theorem i_171_24 : ins 171 24 = some (.sipush 141) := by decide +kernel
theorem i_171_27 : ins 171 27 = some (.iaload) := by decide +kernel
theorem i_171_28 : ins 171 28 = some (.aload_n 0) := by decide +kernel
theorem i_171_29 : ins 171 29 = some (.invokevirtual 132) := by decide +kernel
theorem i_171_32 : ins 171 32 = some (.if_icmp .ge 14) := by decide +kernel
theorem i_171_35 : ins 171 35 = some (.aload_n 0) := by decide +kernel
theorem i_171_36 : ins 171 36 = some (.iconst 1) := by decide +kernel
theorem i_171_37 : ins 171 37 = some (.invokevirtual 167) := by decide +kernel
theorem i_171_40 : ins 171 40 = some (.iinc 1 1) := by decide +kernel
theorem i_171_43 : ins 171 43 = some (.goto (-41)) := by decide +kernel
theorem i_171_46 : ins 171 46 = some (.aload_n 0) := by decide +kernel
theorem i_171_47 : ins 171 47 = some (.getfield 7) := by decide +kernel
theorem i_171_50 : ins 171 50 = some (.sipush 140) := by decide +kernel
theorem i_171_53 : ins 171 53 = some (.iaload) := by decide +kernel
theorem i_171_54 : ins 171 54 = some (.ifCond .gt 18) := by decide +kernel
theorem i_171_57 : ins 171 57 = some (.aload_n 0) := by decide +kernel
theorem i_171_58 : ins 171 58 = some (.getfield 7) := by decide +kernel
theorem i_171_61 : ins 171 61 = some (.sipush 141) := by decide +kernel
theorem i_171_64 : ins 171 64 = some (.iaload) := by decide +kernel
theorem i_171_65 : ins 171 65 = some (.aload_n 0) := by decide +kernel
theorem i_171_66 : ins 171 66 = some (.invokevirtual 132) := by decide +kernel
theorem i_171_69 : ins 171 69 = some (.if_icmp .ge 9) := by decide +kernel
theorem i_171_72 : ins 171 72 = some (.sipush 1000) := by decide +kernel
theorem i_171_75 : ins 171 75 = some (.goto 4) := by decide +kernel
theorem i_171_78 : ins 171 78 = some (.iload_n 1) := by decide +kernel
theorem i_171_79 : ins 171 79 = some (.ireturn) := by decide +kernel
theorem o_172 : mOwn 172 = 8 := rfl
theorem i_172_0 : ins 172 0 = some (.aload_n 0) := by decide +kernel
theorem i_172_1 : ins 172 1 = some (.invokevirtual 157) := by decide +kernel
theorem i_172_4 : ins 172 4 = some (.ifCond .ne 6) := by decide +kernel
theorem i_172_7 : ins 172 7 = some (.ldc 161) := by decide +kernel
theorem i_172_9 : ins 172 9 = some (.ireturn) := by decide +kernel
theorem i_172_10 : ins 172 10 = some (.aload_n 0) := by decide +kernel
theorem i_172_11 : ins 172 11 = some (.invokevirtual 193) := by decide +kernel
theorem i_172_14 : ins 172 14 = some (.aload_n 0) := by decide +kernel
theorem i_172_15 : ins 172 15 = some (.invokevirtual 205) := by decide +kernel
theorem i_172_18 : ins 172 18 = some (.istore_n 1) := by decide +kernel
theorem i_172_19 : ins 172 19 = some (.aload_n 0) := by decide +kernel
theorem i_172_20 : ins 172 20 = some (.invokevirtual 202) := by decide +kernel
theorem i_172_23 : ins 172 23 = some (.iload_n 1) := by decide +kernel
theorem i_172_24 : ins 172 24 = some (.sipush 1000) := by decide +kernel
theorem i_172_27 : ins 172 27 = some (.if_icmp .ne 8) := by decide +kernel
theorem i_172_30 : ins 172 30 = some (.ldc 183) := by decide +kernel
theorem i_172_32 : ins 172 32 = some (.goto 4) := by decide +kernel
theorem i_172_35 : ins 172 35 = some (.iload_n 1) := by decide +kernel
theorem i_172_36 : ins 172 36 = some (.ireturn) := by decide +kernel
theorem o_173 : mOwn 173 = 8 := rfl
theorem i_173_0 : ins 173 0 = some (.aload_n 0) := by decide +kernel
theorem i_173_1 : ins 173 1 = some (.invokevirtual 157) := by decide +kernel
theorem i_173_4 : ins 173 4 = some (.ifCond .ne 6) := by decide +kernel
theorem i_173_7 : ins 173 7 = some (.ldc 161) := by decide +kernel
theorem i_173_9 : ins 173 9 = some (.ireturn) := by decide +kernel
theorem i_173_10 : ins 173 10 = some (.iload_n 1) := by decide +kernel
theorem i_173_11 : ins 173 11 = some (.ifCond .lt 13) := by decide +kernel
theorem i_173_14 : ins 173 14 = some (.iload_n 2) := by decide +kernel
theorem i_173_15 : ins 173 15 = some (.i2l) := by decide +kernel
theorem i_173_16 : ins 173 16 = some (.lconst 0) := by decide +kernel
theorem i_173_17 : ins 173 17 = some (.lconst 1) := by decide +kernel
theorem i_173_18 : ins 173 18 = some (.invokestatic 63) := by decide +kernel
theorem i_173_21 : ins 173 21 = some (.ifCond .ne 6) := by decide +kernel
theorem i_173_24 : ins 173 24 = some (.ldc 73) := by decide +kernel
theorem i_173_26 : ins 173 26 = some (.ireturn) := by decide +kernel
theorem i_173_27 : ins 173 27 = some (.iload_n 1) := by decide +kernel
theorem i_173_28 : ins 173 28 = some (.aload_n 0) := by decide +kernel
theorem i_173_29 : ins 173 29 = some (.getfield 7) := by decide +kernel
theorem i_173_32 : ins 173 32 = some (.sipush 140) := by decide +kernel
theorem i_173_35 : ins 173 35 = some (.iaload) := by decide +kernel
theorem i_173_36 : ins 173 36 = some (.if_icmp .lt 6) := by decide +kernel
theorem i_173_39 : ins 173 39 = some (.ldc 183) := by decide +kernel
theorem i_173_41 : ins 173 41 = some (.ireturn) := by decide +kernel
theorem i_173_42 : ins 173 42 = some (.iconst 0) := by decide +kernel
theorem i_173_43 : ins 173 43 = some (.istore_n 3) := by decide +kernel
theorem i_173_44 : ins 173 44 = some (.iload_n 2) := by decide +kernel
theorem i_173_45 : ins 173 45 = some (.ifCond .ne 7) := by decide +kernel
theorem i_173_48 : ins 173 48 = some (.iconst (-1)) := by decide +kernel
theorem i_173_49 : ins 173 49 = some (.goto 6) := by decide +kernel
theorem i_173_52 : ins 173 52 = some (.sipush 2000) := by decide +kernel
theorem i_173_55 : ins 173 55 = some (.istore 4) := by decide +kernel
theorem i_173_57 : ins 173 57 = some (.aload_n 0) := by decide +kernel
theorem i_173_58 : ins 173 58 = some (.invokevirtual 193) := by decide +kernel
theorem i_173_61 : ins 173 61 = some (.iconst 0) := by decide +kernel
theorem i_173_62 : ins 173 62 = some (.istore 5) := by decide +kernel
theorem i_173_64 : ins 173 64 = some (.iload 5) := by decide +kernel
theorem i_173_66 : ins 173 66 = some (.iconst 4) := by decide +kernel
theorem i_173_67 : ins 173 67 = some (.if_icmp .ge 93) := by decide +kernel
theorem i_173_70 : ins 173 70 = some (.aload_n 0) := by decide +kernel
theorem i_173_71 : ins 173 71 = some (.aload_n 0) := by decide +kernel
theorem i_173_72 : ins 173 72 = some (.getfield 7) := by decide +kernel
theorem i_173_75 : ins 173 75 = some (.bipush 112) := by decide +kernel
theorem i_173_77 : ins 173 77 = some (.iload_n 1) := by decide +kernel
theorem i_173_78 : ins 173 78 = some (.iadd) := by decide +kernel
theorem i_173_79 : ins 173 79 = some (.iaload) := by decide +kernel
theorem i_173_80 : ins 173 80 = some (.iload 5) := by decide +kernel
theorem i_173_82 : ins 173 82 = some (.invokevirtual 179) := by decide +kernel
theorem i_173_85 : ins 173 85 = some (.aload_n 0) := by decide +kernel
theorem i_173_86 : ins 173 86 = some (.invokevirtual 205) := by decide +kernel
theorem i_173_89 : ins 173 89 = some (.istore 6) := by decide +kernel
theorem i_173_91 : ins 173 91 = some (.aload_n 0) := by decide +kernel
theorem i_173_92 : ins 173 92 = some (.invokevirtual 202) := by decide +kernel
theorem i_173_95 : ins 173 95 = some (.iload_n 2) := by decide +kernel
theorem i_173_96 : ins 173 96 = some (.ifCond .ne 18) := by decide +kernel
theorem i_173_99 : ins 173 99 = some (.iload 6) := by decide +kernel
theorem i_173_101 : ins 173 101 = some (.iload 4) := by decide +kernel
theorem i_173_103 : ins 173 103 = some (.if_icmp .le 7) := by decide +kernel
theorem i_173_106 : ins 173 106 = some (.iconst 1) := by decide +kernel
theorem i_173_107 : ins 173 107 = some (.goto 19) := by decide +kernel
theorem i_173_110 : ins 173 110 = some (.iconst 0) := by decide +kernel
theorem i_173_111 : ins 173 111 = some (.goto 15) := by decide +kernel
theorem i_173_114 : ins 173 114 = some (.iload 6) := by decide +kernel
theorem i_173_116 : ins 173 116 = some (.iload 4) := by decide +kernel
theorem i_173_118 : ins 173 118 = some (.if_icmp .ge 7) := by decide +kernel
theorem i_173_121 : ins 173 121 = some (.iconst 1) := by decide +kernel
theorem i_173_122 : ins 173 122 = some (.goto 4) := by decide +kernel
theorem i_173_125 : ins 173 125 = some (.iconst 0) := by decide +kernel
theorem i_173_126 : ins 173 126 = some (.istore 7) := by decide +kernel
theorem i_173_128 : ins 173 128 = some (.iload 7) := by decide +kernel
theorem i_173_130 : ins 173 130 = some (.ifCond .eq 8) := by decide +kernel
theorem i_173_133 : ins 173 133 = some (.iload 5) := by decide +kernel
theorem i_173_135 : ins 173 135 = some (.goto 4) := by decide +kernel
theorem i_173_138 : ins 173 138 = some (.iload_n 3) := by decide +kernel
theorem i_173_139 : ins 173 139 = some (.istore_n 3) := by decide +kernel
theorem i_173_140 : ins 173 140 = some (.iload 7) := by decide +kernel
theorem i_173_142 : ins 173 142 = some (.ifCond .eq 8) := by decide +kernel
theorem i_173_145 : ins 173 145 = some (.iload 6) := by decide +kernel
theorem i_173_147 : ins 173 147 = some (.goto 5) := by decide +kernel
theorem i_173_150 : ins 173 150 = some (.iload 4) := by decide +kernel
theorem i_173_152 : ins 173 152 = some (.istore 4) := by decide +kernel
theorem i_173_154 : ins 173 154 = some (.iinc 5 1) := by decide +kernel
theorem i_173_157 : ins 173 157 = some (.goto (-93)) := by decide +kernel
theorem i_173_160 : ins 173 160 = some (.iload_n 3) := by decide +kernel
theorem i_173_161 : ins 173 161 = some (.ireturn) := by decide +kernel
theorem o_174 : mOwn 174 = 8 := rfl
theorem i_174_0 : ins 174 0 = some (.aload_n 0) := by decide +kernel
theorem i_174_1 : ins 174 1 = some (.iload_n 1) := by decide +kernel
theorem i_174_2 : ins 174 2 = some (.invokevirtual 171) := by decide +kernel
theorem i_174_5 : ins 174 5 = some (.ifCond .eq 13) := by decide +kernel
theorem i_174_8 : ins 174 8 = some (.iload_n 2) := by decide +kernel
theorem i_174_9 : ins 174 9 = some (.i2l) := by decide +kernel
theorem i_174_10 : ins 174 10 = some (.lconst 0) := by decide +kernel
theorem i_174_11 : ins 174 11 = some (.lconst 1) := by decide +kernel
theorem i_174_12 : ins 174 12 = some (.invokestatic 63) := by decide +kernel
theorem i_174_15 : ins 174 15 = some (.ifCond .ne 6) := by decide +kernel
theorem i_174_18 : ins 174 18 = some (.ldc 73) := by decide +kernel
theorem i_174_20 : ins 174 20 = some (.ireturn) := by decide +kernel
theorem i_174_21 : ins 174 21 = some (.iload_n 2) := by decide +kernel
theorem i_174_22 : ins 174 22 = some (.ifCond .ne 7) := by decide +kernel
theorem i_174_25 : ins 174 25 = some (.iconst 2) := by decide +kernel
theorem i_174_26 : ins 174 26 = some (.goto 4) := by decide +kernel
theorem i_174_29 : ins 174 29 = some (.iconst 3) := by decide +kernel
theorem i_174_30 : ins 174 30 = some (.istore_n 3) := by decide +kernel
theorem i_174_31 : ins 174 31 = some (.iconst 0) := by decide +kernel
theorem i_174_32 : ins 174 32 = some (.istore 4) := by decide +kernel
theorem i_174_34 : ins 174 34 = some (.aload_n 0) := by decide +kernel
theorem i_174_35 : ins 174 35 = some (.invokevirtual 193) := by decide +kernel
theorem i_174_38 : ins 174 38 = some (.iload 4) := by decide +kernel
theorem i_174_40 : ins 174 40 = some (.sipush 200) := by decide +kernel
theorem i_174_43 : ins 174 43 = some (.if_icmp .ge 26) := by decide +kernel
theorem i_174_46 : ins 174 46 = some (.aload_n 0) := by decide +kernel
theorem i_174_47 : ins 174 47 = some (.getfield 7) := by decide +kernel
theorem i_174_50 : ins 174 50 = some (.iconst 0) := by decide +kernel
theorem i_174_51 : ins 174 51 = some (.iload_n 1) := by decide +kernel
theorem i_174_52 : ins 174 52 = some (.iadd) := by decide +kernel
theorem i_174_53 : ins 174 53 = some (.iaload) := by decide +kernel
theorem i_174_54 : ins 174 54 = some (.iconst 2) := by decide +kernel
theorem i_174_55 : ins 174 55 = some (.if_icmp .ge 14) := by decide +kernel
theorem i_174_58 : ins 174 58 = some (.aload_n 0) := by decide +kernel
theorem i_174_59 : ins 174 59 = some (.iconst 1) := by decide +kernel
theorem i_174_60 : ins 174 60 = some (.invokevirtual 167) := by decide +kernel
theorem i_174_63 : ins 174 63 = some (.iinc 4 1) := by decide +kernel
theorem i_174_66 : ins 174 66 = some (.goto (-28)) := by decide +kernel
theorem i_174_69 : ins 174 69 = some (.aload_n 0) := by decide +kernel
theorem i_174_70 : ins 174 70 = some (.getfield 7) := by decide +kernel
theorem i_174_73 : ins 174 73 = some (.iconst 0) := by decide +kernel
theorem i_174_74 : ins 174 74 = some (.iload_n 1) := by decide +kernel
theorem i_174_75 : ins 174 75 = some (.iadd) := by decide +kernel
theorem i_174_76 : ins 174 76 = some (.iaload) := by decide +kernel
theorem i_174_77 : ins 174 77 = some (.iload_n 3) := by decide +kernel
theorem i_174_78 : ins 174 78 = some (.if_icmp .ne 7) := by decide +kernel
theorem i_174_81 : ins 174 81 = some (.iconst 1) := by decide +kernel
theorem i_174_82 : ins 174 82 = some (.goto 4) := by decide +kernel
theorem i_174_85 : ins 174 85 = some (.iconst 0) := by decide +kernel
theorem i_174_86 : ins 174 86 = some (.istore 5) := by decide +kernel
theorem i_174_88 : ins 174 88 = some (.aload_n 0) := by decide +kernel
theorem i_174_89 : ins 174 89 = some (.invokevirtual 202) := by decide +kernel
theorem i_174_92 : ins 174 92 = some (.iload 5) := by decide +kernel
theorem i_174_94 : ins 174 94 = some (.ifCond .eq 8) := by decide +kernel
theorem i_174_97 : ins 174 97 = some (.iload 4) := by decide +kernel
theorem i_174_99 : ins 174 99 = some (.goto 5) := by decide +kernel
theorem i_174_102 : ins 174 102 = some (.ldc 183) := by decide +kernel
theorem i_174_104 : ins 174 104 = some (.ireturn) := by decide +kernel
theorem o_175 : mOwn 175 = 8 := rfl
theorem i_175_0 : ins 175 0 = some (.aload_n 0) := by decide +kernel
theorem i_175_1 : ins 175 1 = some (.getfield 7) := by decide +kernel
theorem i_175_4 : ins 175 4 = some (.sipush 140) := by decide +kernel
theorem i_175_7 : ins 175 7 = some (.iaload) := by decide +kernel
theorem i_175_8 : ins 175 8 = some (.ifCond .le 7) := by decide +kernel
theorem i_175_11 : ins 175 11 = some (.iconst 1) := by decide +kernel
theorem i_175_12 : ins 175 12 = some (.goto 4) := by decide +kernel
theorem i_175_15 : ins 175 15 = some (.iconst 0) := by decide +kernel
theorem i_175_16 : ins 175 16 = some (.istore_n 2) := by decide +kernel
theorem i_175_17 : ins 175 17 = some (.iconst 0) := by decide +kernel
theorem i_175_18 : ins 175 18 = some (.istore_n 3) := by decide +kernel
theorem i_175_19 : ins 175 19 = some (.iload_n 3) := by decide +kernel
theorem i_175_20 : ins 175 20 = some (.aload_n 0) := by decide +kernel
theorem i_175_21 : ins 175 21 = some (.getfield 7) := by decide +kernel
theorem i_175_24 : ins 175 24 = some (.sipush 140) := by decide +kernel
theorem i_175_27 : ins 175 27 = some (.iaload) := by decide +kernel
theorem i_175_28 : ins 175 28 = some (.if_icmp .ge 36) := by decide +kernel
theorem i_175_31 : ins 175 31 = some (.iload_n 2) := by decide +kernel
theorem i_175_32 : ins 175 32 = some (.ifCond .eq 24) := by decide +kernel
theorem i_175_35 : ins 175 35 = some (.aload_n 0) := by decide +kernel
theorem i_175_36 : ins 175 36 = some (.aload_n 0) := by decide +kernel
theorem i_175_37 : ins 175 37 = some (.getfield 7) := by decide +kernel
theorem i_175_40 : ins 175 40 = some (.bipush 112) := by decide +kernel
theorem i_175_42 : ins 175 42 = some (.iload_n 3) := by decide +kernel
theorem i_175_43 : ins 175 43 = some (.iadd) := by decide +kernel
theorem i_175_44 : ins 175 44 = some (.iaload) := by decide +kernel
theorem i_175_45 : ins 175 45 = some (.invokevirtual 135) := by decide +kernel
theorem i_175_48 : ins 175 48 = some (.iload_n 1) := by decide +kernel
theorem i_175_49 : ins 175 49 = some (.if_icmp .ne 7) := by decide +kernel
theorem i_175_52 : ins 175 52 = some (.iconst 1) := by decide +kernel
theorem i_175_53 : ins 175 53 = some (.goto 4) := by decide +kernel
theorem i_175_56 : ins 175 56 = some (.iconst 0) := by decide +kernel
theorem i_175_57 : ins 175 57 = some (.istore_n 2) := by decide +kernel
theorem i_175_58 : ins 175 58 = some (.iinc 3 1) := by decide +kernel
theorem i_175_61 : ins 175 61 = some (.goto (-42)) := by decide +kernel
theorem i_175_64 : ins 175 64 = some (.iload_n 2) := by decide +kernel
theorem i_175_65 : ins 175 65 = some (.ireturn) := by decide +kernel
theorem o_176 : mOwn 176 = 8 := rfl
theorem i_176_0 : ins 176 0 = some (.aload_n 0) := by decide +kernel
theorem i_176_1 : ins 176 1 = some (.invokevirtual 157) := by decide +kernel
theorem i_176_4 : ins 176 4 = some (.ifCond .ne 6) := by decide +kernel
theorem i_176_7 : ins 176 7 = some (.ldc 161) := by decide +kernel
theorem i_176_9 : ins 176 9 = some (.ireturn) := by decide +kernel
theorem i_176_10 : ins 176 10 = some (.iload_n 1) := by decide +kernel
theorem i_176_11 : ins 176 11 = some (.i2l) := by decide +kernel
theorem i_176_12 : ins 176 12 = some (.lconst 0) := by decide +kernel
theorem i_176_13 : ins 176 13 = some (.ldc2_w 174) := by decide +kernel
theorem i_176_16 : ins 176 16 = some (.invokestatic 63) := by decide +kernel
theorem i_176_19 : ins 176 19 = some (.ifCond .ne 6) := by decide +kernel
theorem i_176_22 : ins 176 22 = some (.ldc 73) := by decide +kernel
theorem i_176_24 : ins 176 24 = some (.ireturn) := by decide +kernel
theorem i_176_25 : ins 176 25 = some (.iconst 0) := by decide +kernel
theorem i_176_26 : ins 176 26 = some (.istore_n 2) := by decide +kernel
theorem i_176_27 : ins 176 27 = some (.aload_n 0) := by decide +kernel
theorem i_176_28 : ins 176 28 = some (.invokevirtual 193) := by decide +kernel
theorem i_176_31 : ins 176 31 = some (.iload_n 2) := by decide +kernel
theorem i_176_32 : ins 176 32 = some (.bipush 60) := by decide +kernel
theorem i_176_34 : ins 176 34 = some (.if_icmp .ge 22) := by decide +kernel
theorem i_176_37 : ins 176 37 = some (.aload_n 0) := by decide +kernel
theorem i_176_38 : ins 176 38 = some (.iload_n 1) := by decide +kernel
theorem i_176_39 : ins 176 39 = some (.invokevirtual 208) := by decide +kernel
theorem i_176_42 : ins 176 42 = some (.ifCond .ne 14) := by decide +kernel
theorem i_176_45 : ins 176 45 = some (.aload_n 0) := by decide +kernel
theorem i_176_46 : ins 176 46 = some (.iconst 1) := by decide +kernel
theorem i_176_47 : ins 176 47 = some (.invokevirtual 167) := by decide +kernel
theorem i_176_50 : ins 176 50 = some (.iinc 2 1) := by decide +kernel
theorem i_176_53 : ins 176 53 = some (.goto (-22)) := by decide +kernel
theorem i_176_56 : ins 176 56 = some (.aload_n 0) := by decide +kernel
theorem i_176_57 : ins 176 57 = some (.iload_n 1) := by decide +kernel
theorem i_176_58 : ins 176 58 = some (.invokevirtual 208) := by decide +kernel
theorem i_176_61 : ins 176 61 = some (.istore_n 3) := by decide +kernel
theorem i_176_62 : ins 176 62 = some (.aload_n 0) := by decide +kernel
theorem i_176_63 : ins 176 63 = some (.invokevirtual 202) := by decide +kernel
theorem i_176_66 : ins 176 66 = some (.iload_n 3) := by decide +kernel
theorem i_176_67 : ins 176 67 = some (.ifCond .eq 7) := by decide +kernel
theorem i_176_70 : ins 176 70 = some (.iload_n 2) := by decide +kernel
theorem i_176_71 : ins 176 71 = some (.goto 5) := by decide +kernel
theorem i_176_74 : ins 176 74 = some (.ldc 183) := by decide +kernel
theorem i_176_76 : ins 176 76 = some (.ireturn) := by decide +kernel
theorem o_177 : mOwn 177 = 8 := rfl
theorem i_177_0 : ins 177 0 = some (.iconst 0) := by decide +kernel
theorem i_177_1 : ins 177 1 = some (.istore_n 2) := by decide +kernel
theorem i_177_2 : ins 177 2 = some (.iload_n 2) := by decide +kernel
theorem i_177_3 : ins 177 3 = some (.iload_n 1) := by decide +kernel
theorem i_177_4 : ins 177 4 = some (.if_icmp .ge 72) := by decide +kernel
theorem i_177_7 : ins 177 7 = some (.bipush 16) := by decide +kernel
theorem i_177_9 : ins 177 9 = some (.iload_n 2) := by decide +kernel
theorem i_177_10 : ins 177 10 = some (.iadd) := by decide +kernel
theorem i_177_11 : ins 177 11 = some (.istore_n 3) := by decide +kernel
theorem i_177_12 : ins 177 12 = some (.aload_n 0) := by decide +kernel
theorem i_177_13 : ins 177 13 = some (.getfield 7) := by decide +kernel
theorem i_177_16 : ins 177 16 = some (.sipush 145) := by decide +kernel
theorem i_177_19 : ins 177 19 = some (.iload_n 3) := by decide +kernel
theorem i_177_20 : ins 177 20 = some (.iadd) := by decide +kernel
theorem i_177_21 : ins 177 21 = some (.iconst 1) := by decide +kernel
theorem i_177_22 : ins 177 22 = some (.iastore) := by decide +kernel
theorem i_177_23 : ins 177 23 = some (.aload_n 0) := by decide +kernel
theorem i_177_24 : ins 177 24 = some (.getfield 7) := by decide +kernel
theorem i_177_27 : ins 177 27 = some (.sipush 173) := by decide +kernel
theorem i_177_30 : ins 177 30 = some (.iload_n 3) := by decide +kernel
theorem i_177_31 : ins 177 31 = some (.iadd) := by decide +kernel
theorem i_177_32 : ins 177 32 = some (.bipush 99) := by decide +kernel
theorem i_177_34 : ins 177 34 = some (.iastore) := by decide +kernel
theorem i_177_35 : ins 177 35 = some (.aload_n 0) := by decide +kernel
theorem i_177_36 : ins 177 36 = some (.getfield 7) := by decide +kernel
theorem i_177_39 : ins 177 39 = some (.bipush 56) := by decide +kernel
theorem i_177_41 : ins 177 41 = some (.iload_n 3) := by decide +kernel
theorem i_177_42 : ins 177 42 = some (.iadd) := by decide +kernel
theorem i_177_43 : ins 177 43 = some (.iconst 0) := by decide +kernel
theorem i_177_44 : ins 177 44 = some (.iastore) := by decide +kernel
theorem i_177_45 : ins 177 45 = some (.aload_n 0) := by decide +kernel
theorem i_177_46 : ins 177 46 = some (.getfield 7) := by decide +kernel
theorem i_177_49 : ins 177 49 = some (.bipush 28) := by decide +kernel
theorem i_177_51 : ins 177 51 = some (.iload_n 3) := by decide +kernel
theorem i_177_52 : ins 177 52 = some (.iadd) := by decide +kernel
theorem i_177_53 : ins 177 53 = some (.iconst 0) := by decide +kernel
theorem i_177_54 : ins 177 54 = some (.iastore) := by decide +kernel
theorem i_177_55 : ins 177 55 = some (.aload_n 0) := by decide +kernel
theorem i_177_56 : ins 177 56 = some (.getfield 7) := by decide +kernel
theorem i_177_59 : ins 177 59 = some (.bipush 84) := by decide +kernel
theorem i_177_61 : ins 177 61 = some (.iload_n 3) := by decide +kernel
theorem i_177_62 : ins 177 62 = some (.iadd) := by decide +kernel
theorem i_177_63 : ins 177 63 = some (.iload_n 3) := by decide +kernel
theorem i_177_64 : ins 177 64 = some (.iastore) := by decide +kernel
theorem i_177_65 : ins 177 65 = some (.aload_n 0) := by decide +kernel
theorem i_177_66 : ins 177 66 = some (.iload_n 3) := by decide +kernel
theorem i_177_67 : ins 177 67 = some (.invokevirtual 154) := by decide +kernel
theorem i_177_70 : ins 177 70 = some (.iinc 2 1) := by decide +kernel
theorem i_177_73 : ins 177 73 = some (.goto (-71)) := by decide +kernel
theorem i_177_76 : ins 177 76 = some (.return_) := by decide +kernel
theorem o_178 : mOwn 178 = 8 := rfl
theorem i_178_0 : ins 178 0 = some (.iconst 0) := by decide +kernel
theorem i_178_1 : ins 178 1 = some (.istore_n 1) := by decide +kernel
theorem i_178_2 : ins 178 2 = some (.aload_n 0) := by decide +kernel
theorem i_178_3 : ins 178 3 = some (.getfield 7) := by decide +kernel
theorem i_178_6 : ins 178 6 = some (.sipush 141) := by decide +kernel
theorem i_178_9 : ins 178 9 = some (.iaload) := by decide +kernel
theorem i_178_10 : ins 178 10 = some (.aload_n 0) := by decide +kernel
theorem i_178_11 : ins 178 11 = some (.invokevirtual 132) := by decide +kernel
theorem i_178_14 : ins 178 14 = some (.if_icmp .ge 40) := by decide +kernel
theorem i_178_17 : ins 178 17 = some (.aload_n 0) := by decide +kernel
theorem i_178_18 : ins 178 18 = some (.getfield 7) := by decide +kernel
theorem i_178_21 : ins 178 21 = some (.sipush 141) := by decide +kernel
theorem i_178_24 : ins 178 24 = some (.iaload) := by decide +kernel
theorem i_178_25 : ins 178 25 = some (.istore_n 2) := by decide +kernel
theorem i_178_26 : ins 178 26 = some (.aload_n 0) := by decide +kernel
theorem i_178_27 : ins 178 27 = some (.iconst 1) := by decide +kernel
theorem i_178_28 : ins 178 28 = some (.invokevirtual 167) := by decide +kernel
theorem i_178_31 : ins 178 31 = some (.iload_n 1) := by decide +kernel
theorem i_178_32 : ins 178 32 = some (.aload_n 0) := by decide +kernel
theorem i_178_33 : ins 178 33 = some (.getfield 7) := by decide +kernel
theorem i_178_36 : ins 178 36 = some (.iconst 0) := by decide +kernel
theorem i_178_37 : ins 178 37 = some (.iload_n 2) := by decide +kernel
theorem i_178_38 : ins 178 38 = some (.iadd) := by decide +kernel
theorem i_178_39 : ins 178 39 = some (.iaload) := by decide +kernel
theorem i_178_40 : ins 178 40 = some (.iconst 4) := by decide +kernel
theorem i_178_41 : ins 178 41 = some (.if_icmp .ne 7) := by decide +kernel
theorem i_178_44 : ins 178 44 = some (.iconst 0) := by decide +kernel
theorem i_178_45 : ins 178 45 = some (.goto 4) := by decide +kernel
theorem i_178_48 : ins 178 48 = some (.iconst 1) := by decide +kernel
theorem i_178_49 : ins 178 49 = some (.iadd) := by decide +kernel
theorem i_178_50 : ins 178 50 = some (.istore_n 1) := by decide +kernel
theorem i_178_51 : ins 178 51 = some (.goto (-49)) := by decide +kernel
theorem i_178_54 : ins 178 54 = some (.iload_n 1) := by decide +kernel
theorem i_178_55 : ins 178 55 = some (.ireturn) := by decide +kernel
theorem o_179 : mOwn 179 = 8 := rfl
theorem i_179_0 : ins 179 0 = some (.aload_n 0) := by decide +kernel
theorem i_179_1 : ins 179 1 = some (.invokevirtual 157) := by decide +kernel
theorem i_179_4 : ins 179 4 = some (.ifCond .ne 6) := by decide +kernel
theorem i_179_7 : ins 179 7 = some (.ldc 161) := by decide +kernel
theorem i_179_9 : ins 179 9 = some (.ireturn) := by decide +kernel
theorem i_179_10 : ins 179 10 = some (.iload_n 1) := by decide +kernel
theorem i_179_11 : ins 179 11 = some (.i2l) := by decide +kernel
theorem i_179_12 : ins 179 12 = some (.lconst 0) := by decide +kernel
theorem i_179_13 : ins 179 13 = some (.ldc2_w 211) := by decide +kernel
theorem i_179_16 : ins 179 16 = some (.invokestatic 63) := by decide +kernel
theorem i_179_19 : ins 179 19 = some (.ifCond .ne 6) := by decide +kernel
theorem i_179_22 : ins 179 22 = some (.ldc 73) := by decide +kernel
theorem i_179_24 : ins 179 24 = some (.ireturn) := by decide +kernel
theorem i_179_25 : ins 179 25 = some (.ldc 183) := by decide +kernel
theorem i_179_27 : ins 179 27 = some (.istore_n 2) := by decide +kernel
theorem i_179_28 : ins 179 28 = some (.aload_n 0) := by decide +kernel
theorem i_179_29 : ins 179 29 = some (.invokevirtual 193) := by decide +kernel
theorem i_179_32 : ins 179 32 = some (.bipush 12) := by decide +kernel
theorem i_179_34 : ins 179 34 = some (.istore_n 3) := by decide +kernel
theorem i_179_35 : ins 179 35 = some (.iload_n 3) := by decide +kernel
theorem i_179_36 : ins 179 36 = some (.ifCond .lt 32) := by decide +kernel
theorem i_179_39 : ins 179 39 = some (.aload_n 0) := by decide +kernel
theorem i_179_40 : ins 179 40 = some (.iload_n 3) := by decide +kernel
theorem i_179_41 : ins 179 41 = some (.invokevirtual 213) := by decide +kernel
theorem i_179_44 : ins 179 44 = some (.aload_n 0) := by decide +kernel
theorem i_179_45 : ins 179 45 = some (.invokevirtual 216) := by decide +kernel
theorem i_179_48 : ins 179 48 = some (.iload_n 1) := by decide +kernel
theorem i_179_49 : ins 179 49 = some (.if_icmp .lt 7) := by decide +kernel
theorem i_179_52 : ins 179 52 = some (.iload_n 3) := by decide +kernel
theorem i_179_53 : ins 179 53 = some (.goto 4) := by decide +kernel
theorem i_179_56 : ins 179 56 = some (.iload_n 2) := by decide +kernel
theorem i_179_57 : ins 179 57 = some (.istore_n 2) := by decide +kernel
theorem i_179_58 : ins 179 58 = some (.aload_n 0) := by decide +kernel
theorem i_179_59 : ins 179 59 = some (.invokevirtual 202) := by decide +kernel
theorem i_179_62 : ins 179 62 = some (.iinc 3 (-1)) := by decide +kernel
theorem i_179_65 : ins 179 65 = some (.goto (-30)) := by decide +kernel
theorem i_179_68 : ins 179 68 = some (.iload_n 2) := by decide +kernel
theorem i_179_69 : ins 179 69 = some (.ireturn) := by decide +kernel
theorem o_180 : mOwn 180 = 8 := rfl
theorem i_180_0 : ins 180 0 = some (.iload_n 0) := by decide +kernel
theorem i_180_1 : ins 180 1 = some (.istore_n 2) := by decide +kernel
theorem i_180_2 : ins 180 2 = some (.iload_n 1) := by decide +kernel
theorem i_180_3 : ins 180 3 = some (.istore_n 3) := by decide +kernel
theorem i_180_4 : ins 180 4 = some (.iload_n 3) := by decide +kernel
theorem i_180_5 : ins 180 5 = some (.ifCond .eq 16) := by decide +kernel
theorem i_180_8 : ins 180 8 = some (.iload_n 2) := by decide +kernel
theorem i_180_9 : ins 180 9 = some (.iload_n 3) := by decide +kernel
theorem i_180_10 : ins 180 10 = some (.irem) := by decide +kernel
theorem i_180_11 : ins 180 11 = some (.istore 4) := by decide +kernel
theorem i_180_13 : ins 180 13 = some (.iload_n 3) := by decide +kernel
theorem i_180_14 : ins 180 14 = some (.istore_n 2) := by decide +kernel
theorem i_180_15 : ins 180 15 = some (.iload 4) := by decide +kernel
theorem i_180_17 : ins 180 17 = some (.istore_n 3) := by decide +kernel
theorem i_180_18 : ins 180 18 = some (.goto (-14)) := by decide +kernel
theorem i_180_21 : ins 180 21 = some (.iload_n 2) := by decide +kernel
theorem i_180_22 : ins 180 22 = some (.ireturn) := by decide +kernel
theorem o_181 : mOwn 181 = 8 := rfl
theorem i_181_0 : ins 181 0 = some (.iconst 1) := by decide +kernel
theorem i_181_1 : ins 181 1 = some (.istore_n 2) := by decide +kernel
theorem i_181_2 : ins 181 2 = some (.iconst 0) := by decide +kernel
theorem i_181_3 : ins 181 3 = some (.istore_n 3) := by decide +kernel
theorem i_181_4 : ins 181 4 = some (.iload_n 3) := by decide +kernel
theorem i_181_5 : ins 181 5 = some (.iload_n 1) := by decide +kernel
theorem i_181_6 : ins 181 6 = some (.if_icmp .ge 13) := by decide +kernel
theorem i_181_9 : ins 181 9 = some (.iload_n 2) := by decide +kernel
theorem i_181_10 : ins 181 10 = some (.iload_n 0) := by decide +kernel
theorem i_181_11 : ins 181 11 = some (.imul) := by decide +kernel
theorem i_181_12 : ins 181 12 = some (.istore_n 2) := by decide +kernel
theorem i_181_13 : ins 181 13 = some (.iinc 3 1) := by decide +kernel
theorem i_181_16 : ins 181 16 = some (.goto (-12)) := by decide +kernel
theorem i_181_19 : ins 181 19 = some (.iload_n 2) := by decide +kernel
theorem i_181_20 : ins 181 20 = some (.ireturn) := by decide +kernel
theorem o_182 : mOwn 182 = 8 := rfl
theorem i_182_0 : ins 182 0 = some (.iconst 0) := by decide +kernel
theorem i_182_1 : ins 182 1 = some (.istore_n 1) := by decide +kernel
theorem i_182_2 : ins 182 2 = some (.iload_n 0) := by decide +kernel
theorem i_182_3 : ins 182 3 = some (.istore_n 2) := by decide +kernel
theorem i_182_4 : ins 182 4 = some (.iload_n 2) := by decide +kernel
theorem i_182_5 : ins 182 5 = some (.ifCond .le 16) := by decide +kernel
theorem i_182_8 : ins 182 8 = some (.iload_n 1) := by decide +kernel
theorem i_182_9 : ins 182 9 = some (.iload_n 2) := by decide +kernel
theorem i_182_10 : ins 182 10 = some (.iconst 1) := by decide +kernel
theorem i_182_11 : ins 182 11 = some (.iand) := by decide +kernel
theorem i_182_12 : ins 182 12 = some (.iadd) := by decide +kernel
theorem i_182_13 : ins 182 13 = some (.istore_n 1) := by decide +kernel
theorem i_182_14 : ins 182 14 = some (.iload_n 2) := by decide +kernel
theorem i_182_15 : ins 182 15 = some (.iconst 1) := by decide +kernel
theorem i_182_16 : ins 182 16 = some (.ishr) := by decide +kernel
theorem i_182_17 : ins 182 17 = some (.istore_n 2) := by decide +kernel
theorem i_182_18 : ins 182 18 = some (.goto (-14)) := by decide +kernel
theorem i_182_21 : ins 182 21 = some (.iload_n 1) := by decide +kernel
theorem i_182_22 : ins 182 22 = some (.ireturn) := by decide +kernel
theorem o_183 : mOwn 183 = 8 := rfl
theorem i_183_0 : ins 183 0 = some (.aload_n 0) := by decide +kernel
theorem i_183_1 : ins 183 1 = some (.invokevirtual 157) := by decide +kernel
theorem i_183_4 : ins 183 4 = some (.ifCond .ne 6) := by decide +kernel
theorem i_183_7 : ins 183 7 = some (.ldc 161) := by decide +kernel
theorem i_183_9 : ins 183 9 = some (.ireturn) := by decide +kernel
theorem i_183_10 : ins 183 10 = some (.iload_n 1) := by decide +kernel
theorem i_183_11 : ins 183 11 = some (.i2l) := by decide +kernel
theorem i_183_12 : ins 183 12 = some (.lconst 0) := by decide +kernel
theorem i_183_13 : ins 183 13 = some (.ldc2_w 219) := by decide +kernel
theorem i_183_16 : ins 183 16 = some (.invokestatic 63) := by decide +kernel
theorem i_183_19 : ins 183 19 = some (.ifCond .eq 38) := by decide +kernel
theorem i_183_22 : ins 183 22 = some (.iload_n 2) := by decide +kernel
theorem i_183_23 : ins 183 23 = some (.i2l) := by decide +kernel
theorem i_183_24 : ins 183 24 = some (.lconst 0) := by decide +kernel
theorem i_183_25 : ins 183 25 = some (.ldc2_w 211) := by decide +kernel
theorem i_183_28 : ins 183 28 = some (.invokestatic 63) := by decide +kernel
theorem i_183_31 : ins 183 31 = some (.ifCond .eq 26) := by decide +kernel
theorem i_183_34 : ins 183 34 = some (.iload_n 3) := by decide +kernel
theorem i_183_35 : ins 183 35 = some (.i2l) := by decide +kernel
theorem i_183_36 : ins 183 36 = some (.lconst 0) := by decide +kernel
theorem i_183_37 : ins 183 37 = some (.ldc2_w 221) := by decide +kernel
theorem i_183_40 : ins 183 40 = some (.invokestatic 63) := by decide +kernel
theorem i_183_43 : ins 183 43 = some (.ifCond .eq 14) := by decide +kernel
theorem i_183_46 : ins 183 46 = some (.iload 4) := by decide +kernel
theorem i_183_48 : ins 183 48 = some (.i2l) := by decide +kernel
theorem i_183_49 : ins 183 49 = some (.lconst 0) := by decide +kernel
theorem i_183_50 : ins 183 50 = some (.lconst 1) := by decide +kernel
theorem i_183_51 : ins 183 51 = some (.invokestatic 63) := by decide +kernel
theorem i_183_54 : ins 183 54 = some (.ifCond .ne 6) := by decide +kernel
theorem i_183_57 : ins 183 57 = some (.ldc 73) := by decide +kernel
theorem i_183_59 : ins 183 59 = some (.ireturn) := by decide +kernel
theorem i_183_60 : ins 183 60 = some (.aload_n 0) := by decide +kernel
theorem i_183_61 : ins 183 61 = some (.invokevirtual 132) := by decide +kernel
theorem i_183_64 : ins 183 64 = some (.aload_n 0) := by decide +kernel
theorem i_183_65 : ins 183 65 = some (.getfield 7) := by decide +kernel
theorem i_183_68 : ins 183 68 = some (.sipush 141) := by decide +kernel
theorem i_183_71 : ins 183 71 = some (.iaload) := by decide +kernel
theorem i_183_72 : ins 183 72 = some (.isub) := by decide +kernel
theorem i_183_73 : ins 183 73 = some (.istore 5) := by decide +kernel
theorem i_183_75 : ins 183 75 = some (.iload 5) := by decide +kernel
theorem i_183_77 : ins 183 77 = some (.iload_n 2) := by decide +kernel
theorem i_183_78 : ins 183 78 = some (.if_icmp .ge 8) := by decide +kernel
theorem i_183_81 : ins 183 81 = some (.iload 5) := by decide +kernel
theorem i_183_83 : ins 183 83 = some (.goto 4) := by decide +kernel
theorem i_183_86 : ins 183 86 = some (.iload_n 2) := by decide +kernel
theorem i_183_87 : ins 183 87 = some (.istore 6) := by decide +kernel
theorem i_183_89 : ins 183 89 = some (.iconst 0) := by decide +kernel
theorem i_183_90 : ins 183 90 = some (.istore 7) := by decide +kernel
theorem i_183_92 : ins 183 92 = some (.aload_n 0) := by decide +kernel
theorem i_183_93 : ins 183 93 = some (.invokevirtual 193) := by decide +kernel
theorem i_183_96 : ins 183 96 = some (.iconst 0) := by decide +kernel
theorem i_183_97 : ins 183 97 = some (.istore 8) := by decide +kernel
theorem i_183_99 : ins 183 99 = some (.iload 8) := by decide +kernel
theorem i_183_101 : ins 183 101 = some (.iconst 1) := by decide +kernel
theorem i_183_102 : ins 183 102 = some (.iload 6) := by decide +kernel
theorem i_183_104 : ins 183 104 = some (.ishl) := by decide +kernel
theorem i_183_105 : ins 183 105 = some (.if_icmp .ge 95) := by decide +kernel
theorem i_183_108 : ins 183 108 = some (.iconst 0) := by decide +kernel
theorem i_183_109 : ins 183 109 = some (.istore 9) := by decide +kernel
theorem i_183_111 : ins 183 111 = some (.iload 9) := by decide +kernel
theorem i_183_113 : ins 183 113 = some (.iload_n 2) := by decide +kernel
theorem i_183_114 : ins 183 114 = some (.if_icmp .ge 29) := by decide +kernel
theorem i_183_117 : ins 183 117 = some (.aload_n 0) := by decide +kernel
theorem i_183_118 : ins 183 118 = some (.iload 8) := by decide +kernel
theorem i_183_120 : ins 183 120 = some (.iload 9) := by decide +kernel
theorem i_183_122 : ins 183 122 = some (.ishr) := by decide +kernel
theorem i_183_123 : ins 183 123 = some (.iconst 1) := by decide +kernel
theorem i_183_124 : ins 183 124 = some (.iand) := by decide +kernel
theorem i_183_125 : ins 183 125 = some (.iconst 1) := by decide +kernel
theorem i_183_126 : ins 183 126 = some (.if_icmp .ne 7) := by decide +kernel
theorem i_183_129 : ins 183 129 = some (.iconst 1) := by decide +kernel
theorem i_183_130 : ins 183 130 = some (.goto 4) := by decide +kernel
theorem i_183_133 : ins 183 133 = some (.iconst 0) := by decide +kernel
theorem i_183_134 : ins 183 134 = some (.invokevirtual 167) := by decide +kernel
theorem i_183_137 : ins 183 137 = some (.iinc 9 1) := by decide +kernel
theorem i_183_140 : ins 183 140 = some (.goto (-29)) := by decide +kernel
theorem i_183_143 : ins 183 143 = some (.iload 8) := by decide +kernel
theorem i_183_145 : ins 183 145 = some (.invokestatic 223) := by decide +kernel
theorem i_183_148 : ins 183 148 = some (.istore 9) := by decide +kernel
theorem i_183_150 : ins 183 150 = some (.iload 7) := by decide +kernel
theorem i_183_152 : ins 183 152 = some (.aload_n 0) := by decide +kernel
theorem i_183_153 : ins 183 153 = some (.getfield 7) := by decide +kernel
theorem i_183_156 : ins 183 156 = some (.sipush 140) := by decide +kernel
theorem i_183_159 : ins 183 159 = some (.iaload) := by decide +kernel
theorem i_183_160 : ins 183 160 = some (.iload_n 1) := by decide +kernel
theorem i_183_161 : ins 183 161 = some (.if_icmp .lt 25) := by decide +kernel
theorem i_183_164 : ins 183 164 = some (.iload_n 3) := by decide +kernel
theorem i_183_165 : ins 183 165 = some (.iload 9) := by decide +kernel
theorem i_183_167 : ins 183 167 = some (.invokestatic 226) := by decide +kernel
theorem i_183_170 : ins 183 170 = some (.bipush 10) := by decide +kernel
theorem i_183_172 : ins 183 172 = some (.iload_n 3) := by decide +kernel
theorem i_183_173 : ins 183 173 = some (.isub) := by decide +kernel
theorem i_183_174 : ins 183 174 = some (.iload 6) := by decide +kernel
theorem i_183_176 : ins 183 176 = some (.iload 9) := by decide +kernel
theorem i_183_178 : ins 183 178 = some (.isub) := by decide +kernel
theorem i_183_179 : ins 183 179 = some (.invokestatic 226) := by decide +kernel
theorem i_183_182 : ins 183 182 = some (.imul) := by decide +kernel
theorem i_183_183 : ins 183 183 = some (.goto 4) := by decide +kernel
theorem i_183_186 : ins 183 186 = some (.iconst 0) := by decide +kernel
theorem i_183_187 : ins 183 187 = some (.iadd) := by decide +kernel
theorem i_183_188 : ins 183 188 = some (.istore 7) := by decide +kernel
theorem i_183_190 : ins 183 190 = some (.aload_n 0) := by decide +kernel
theorem i_183_191 : ins 183 191 = some (.invokevirtual 202) := by decide +kernel
theorem i_183_194 : ins 183 194 = some (.iinc 8 1) := by decide +kernel
theorem i_183_197 : ins 183 197 = some (.goto (-98)) := by decide +kernel
theorem i_183_200 : ins 183 200 = some (.bipush 10) := by decide +kernel
theorem i_183_202 : ins 183 202 = some (.iload 6) := by decide +kernel
theorem i_183_204 : ins 183 204 = some (.invokestatic 226) := by decide +kernel
theorem i_183_207 : ins 183 207 = some (.istore 8) := by decide +kernel
theorem i_183_209 : ins 183 209 = some (.iload 7) := by decide +kernel
theorem i_183_211 : ins 183 211 = some (.iload 8) := by decide +kernel
theorem i_183_213 : ins 183 213 = some (.invokestatic 230) := by decide +kernel
theorem i_183_216 : ins 183 216 = some (.istore 9) := by decide +kernel
theorem i_183_218 : ins 183 218 = some (.iload 4) := by decide +kernel
theorem i_183_220 : ins 183 220 = some (.ifCond .ne 11) := by decide +kernel
theorem i_183_223 : ins 183 223 = some (.iload 7) := by decide +kernel
theorem i_183_225 : ins 183 225 = some (.iload 9) := by decide +kernel
theorem i_183_227 : ins 183 227 = some (.idiv) := by decide +kernel
theorem i_183_228 : ins 183 228 = some (.goto 8) := by decide +kernel
theorem i_183_231 : ins 183 231 = some (.iload 8) := by decide +kernel
theorem i_183_233 : ins 183 233 = some (.iload 9) := by decide +kernel
theorem i_183_235 : ins 183 235 = some (.idiv) := by decide +kernel
theorem i_183_236 : ins 183 236 = some (.ireturn) := by decide +kernel
theorem o_184 : mOwn 184 = 8 := rfl
theorem i_184_0 : ins 184 0 = some (.aload_n 0) := by decide +kernel
theorem i_184_1 : ins 184 1 = some (.invokevirtual 157) := by decide +kernel
theorem i_184_4 : ins 184 4 = some (.ifCond .ne 6) := by decide +kernel
theorem i_184_7 : ins 184 7 = some (.ldc 161) := by decide +kernel
theorem i_184_9 : ins 184 9 = some (.ireturn) := by decide +kernel
theorem i_184_10 : ins 184 10 = some (.iload_n 1) := by decide +kernel
theorem i_184_11 : ins 184 11 = some (.i2l) := by decide +kernel
theorem i_184_12 : ins 184 12 = some (.lconst 1) := by decide +kernel
theorem i_184_13 : ins 184 13 = some (.ldc2_w 187) := by decide +kernel
theorem i_184_16 : ins 184 16 = some (.invokestatic 63) := by decide +kernel
theorem i_184_19 : ins 184 19 = some (.ifCond .eq 13) := by decide +kernel
theorem i_184_22 : ins 184 22 = some (.iload_n 2) := by decide +kernel
theorem i_184_23 : ins 184 23 = some (.i2l) := by decide +kernel
theorem i_184_24 : ins 184 24 = some (.lconst 0) := by decide +kernel
theorem i_184_25 : ins 184 25 = some (.lconst 1) := by decide +kernel
theorem i_184_26 : ins 184 26 = some (.invokestatic 63) := by decide +kernel
theorem i_184_29 : ins 184 29 = some (.ifCond .ne 6) := by decide +kernel
theorem i_184_32 : ins 184 32 = some (.ldc 73) := by decide +kernel
theorem i_184_34 : ins 184 34 = some (.ireturn) := by decide +kernel
theorem i_184_35 : ins 184 35 = some (.iconst 0) := by decide +kernel
theorem i_184_36 : ins 184 36 = some (.istore_n 3) := by decide +kernel
theorem i_184_37 : ins 184 37 = some (.iconst (-1)) := by decide +kernel
theorem i_184_38 : ins 184 38 = some (.istore 4) := by decide +kernel
theorem i_184_40 : ins 184 40 = some (.aload_n 0) := by decide +kernel
theorem i_184_41 : ins 184 41 = some (.iconst 2) := by decide +kernel
theorem i_184_42 : ins 184 42 = some (.invokevirtual 199) := by decide +kernel
theorem i_184_45 : ins 184 45 = some (.istore 5) := by decide +kernel
theorem i_184_47 : ins 184 47 = some (.aload_n 0) := by decide +kernel
theorem i_184_48 : ins 184 48 = some (.invokevirtual 193) := by decide +kernel
theorem i_184_51 : ins 184 51 = some (.iconst 0) := by decide +kernel
theorem i_184_52 : ins 184 52 = some (.istore 6) := by decide +kernel
theorem i_184_54 : ins 184 54 = some (.iload 6) := by decide +kernel
theorem i_184_56 : ins 184 56 = some (.bipush 30) := by decide +kernel
theorem i_184_58 : ins 184 58 = some (.if_icmp .gt 77) := by decide +kernel
theorem i_184_61 : ins 184 61 = some (.aload_n 0) := by decide +kernel
theorem i_184_62 : ins 184 62 = some (.iload 6) := by decide +kernel
theorem i_184_64 : ins 184 64 = some (.invokevirtual 196) := by decide +kernel
theorem i_184_67 : ins 184 67 = some (.aload_n 0) := by decide +kernel
theorem i_184_68 : ins 184 68 = some (.getfield 7) := by decide +kernel
theorem i_184_71 : ins 184 71 = some (.sipush 144) := by decide +kernel
theorem i_184_74 : ins 184 74 = some (.iload_n 1) := by decide +kernel
theorem i_184_75 : ins 184 75 = some (.iastore) := by decide +kernel
theorem i_184_76 : ins 184 76 = some (.aload_n 0) := by decide +kernel
theorem i_184_77 : ins 184 77 = some (.bipush 60) := by decide +kernel
theorem i_184_79 : ins 184 79 = some (.iload 6) := by decide +kernel
theorem i_184_81 : ins 184 81 = some (.isub) := by decide +kernel
theorem i_184_82 : ins 184 82 = some (.invokevirtual 196) := by decide +kernel
theorem i_184_85 : ins 184 85 = some (.aload_n 0) := by decide +kernel
theorem i_184_86 : ins 184 86 = some (.iconst 2) := by decide +kernel
theorem i_184_87 : ins 184 87 = some (.invokevirtual 199) := by decide +kernel
theorem i_184_90 : ins 184 90 = some (.iload 5) := by decide +kernel
theorem i_184_92 : ins 184 92 = some (.isub) := by decide +kernel
theorem i_184_93 : ins 184 93 = some (.istore 7) := by decide +kernel
theorem i_184_95 : ins 184 95 = some (.aload_n 0) := by decide +kernel
theorem i_184_96 : ins 184 96 = some (.invokevirtual 202) := by decide +kernel
theorem i_184_99 : ins 184 99 = some (.iload 7) := by decide +kernel
theorem i_184_101 : ins 184 101 = some (.iload 4) := by decide +kernel
theorem i_184_103 : ins 184 103 = some (.if_icmp .lt 8) := by decide +kernel
theorem i_184_106 : ins 184 106 = some (.iload 6) := by decide +kernel
theorem i_184_108 : ins 184 108 = some (.goto 4) := by decide +kernel
theorem i_184_111 : ins 184 111 = some (.iload_n 3) := by decide +kernel
theorem i_184_112 : ins 184 112 = some (.istore_n 3) := by decide +kernel
theorem i_184_113 : ins 184 113 = some (.iload 7) := by decide +kernel
theorem i_184_115 : ins 184 115 = some (.iload 4) := by decide +kernel
theorem i_184_117 : ins 184 117 = some (.if_icmp .lt 8) := by decide +kernel
theorem i_184_120 : ins 184 120 = some (.iload 7) := by decide +kernel
theorem i_184_122 : ins 184 122 = some (.goto 5) := by decide +kernel
theorem i_184_125 : ins 184 125 = some (.iload 4) := by decide +kernel
theorem i_184_127 : ins 184 127 = some (.istore 4) := by decide +kernel
theorem i_184_129 : ins 184 129 = some (.iinc 6 1) := by decide +kernel
theorem i_184_132 : ins 184 132 = some (.goto (-78)) := by decide +kernel
theorem i_184_135 : ins 184 135 = some (.iload_n 2) := by decide +kernel
theorem i_184_136 : ins 184 136 = some (.ifCond .ne 7) := by decide +kernel
theorem i_184_139 : ins 184 139 = some (.iload_n 3) := by decide +kernel
theorem i_184_140 : ins 184 140 = some (.goto 5) := by decide +kernel
theorem i_184_143 : ins 184 143 = some (.iload 4) := by decide +kernel
theorem i_184_145 : ins 184 145 = some (.ireturn) := by decide +kernel
theorem o_185 : mOwn 185 = 8 := rfl
theorem i_185_0 : ins 185 0 = some (.aload_n 0) := by decide +kernel
theorem i_185_1 : ins 185 1 = some (.getfield 7) := by decide +kernel
theorem i_185_4 : ins 185 4 = some (.sipush 140) := by decide +kernel
theorem i_185_7 : ins 185 7 = some (.iaload) := by decide +kernel
theorem i_185_8 : ins 185 8 = some (.iload_n 3) := by decide +kernel
theorem i_185_9 : ins 185 9 = some (.if_icmp .ne 7) := by decide +kernel
theorem i_185_12 : ins 185 12 = some (.iconst 1) := by decide +kernel
theorem i_185_13 : ins 185 13 = some (.goto 4) := by decide +kernel
theorem i_185_16 : ins 185 16 = some (.iconst 0) := by decide +kernel
theorem i_185_17 : ins 185 17 = some (.istore 4) := by decide +kernel
theorem i_185_19 : ins 185 19 = some (.iconst 0) := by decide +kernel
theorem i_185_20 : ins 185 20 = some (.istore 5) := by decide +kernel
theorem i_185_22 : ins 185 22 = some (.iload 5) := by decide +kernel
theorem i_185_24 : ins 185 24 = some (.iload_n 3) := by decide +kernel
theorem i_185_25 : ins 185 25 = some (.if_icmp .ge 48) := by decide +kernel
theorem i_185_28 : ins 185 28 = some (.iload 4) := by decide +kernel
theorem i_185_30 : ins 185 30 = some (.ifCond .eq 43) := by decide +kernel
theorem i_185_33 : ins 185 33 = some (.aload_n 0) := by decide +kernel
theorem i_185_34 : ins 185 34 = some (.getfield 7) := by decide +kernel
theorem i_185_37 : ins 185 37 = some (.bipush 112) := by decide +kernel
theorem i_185_39 : ins 185 39 = some (.iload 5) := by decide +kernel
theorem i_185_41 : ins 185 41 = some (.iadd) := by decide +kernel
theorem i_185_42 : ins 185 42 = some (.iaload) := by decide +kernel
theorem i_185_43 : ins 185 43 = some (.aload_n 0) := by decide +kernel
theorem i_185_44 : ins 185 44 = some (.getfield 35) := by decide +kernel
theorem i_185_47 : ins 185 47 = some (.bipush 40) := by decide +kernel
theorem i_185_49 : ins 185 49 = some (.iload_n 1) := by decide +kernel
theorem i_185_50 : ins 185 50 = some (.imul) := by decide +kernel
theorem i_185_51 : ins 185 51 = some (.iload_n 2) := by decide +kernel
theorem i_185_52 : ins 185 52 = some (.iadd) := by decide +kernel
theorem i_185_53 : ins 185 53 = some (.iload 5) := by decide +kernel
theorem i_185_55 : ins 185 55 = some (.iadd) := by decide +kernel
theorem i_185_56 : ins 185 56 = some (.iaload) := by decide +kernel
theorem i_185_57 : ins 185 57 = some (.if_icmp .ne 7) := by decide +kernel
theorem i_185_60 : ins 185 60 = some (.iconst 1) := by decide +kernel
theorem i_185_61 : ins 185 61 = some (.goto 4) := by decide +kernel
theorem i_185_64 : ins 185 64 = some (.iconst 0) := by decide +kernel
theorem i_185_65 : ins 185 65 = some (.istore 4) := by decide +kernel
theorem i_185_67 : ins 185 67 = some (.iinc 5 1) := by decide +kernel
theorem i_185_70 : ins 185 70 = some (.goto (-48)) := by decide +kernel
theorem i_185_73 : ins 185 73 = some (.iload 4) := by decide +kernel
theorem i_185_75 : ins 185 75 = some (.ireturn) := by decide +kernel
theorem o_186 : mOwn 186 = 8 := rfl
theorem i_186_0 : ins 186 0 = some (.aload_n 0) := by decide +kernel
theorem i_186_1 : ins 186 1 = some (.invokevirtual 157) := by decide +kernel
theorem i_186_4 : ins 186 4 = some (.ifCond .ne 6) := by decide +kernel
theorem i_186_7 : ins 186 7 = some (.ldc 161) := by decide +kernel
theorem i_186_9 : ins 186 9 = some (.ireturn) := by decide +kernel
theorem i_186_10 : ins 186 10 = some (.iload_n 1) := by decide +kernel
theorem i_186_11 : ins 186 11 = some (.invokestatic 67) := by decide +kernel
theorem i_186_14 : ins 186 14 = some (.ifCond .eq 15) := by decide +kernel
theorem i_186_17 : ins 186 17 = some (.iload_n 3) := by decide +kernel
theorem i_186_18 : ins 186 18 = some (.i2l) := by decide +kernel
theorem i_186_19 : ins 186 19 = some (.lconst 0) := by decide +kernel
theorem i_186_20 : ins 186 20 = some (.ldc2_w 219) := by decide +kernel
theorem i_186_23 : ins 186 23 = some (.invokestatic 63) := by decide +kernel
theorem i_186_26 : ins 186 26 = some (.ifCond .ne 6) := by decide +kernel
theorem i_186_29 : ins 186 29 = some (.ldc 73) := by decide +kernel
theorem i_186_31 : ins 186 31 = some (.ireturn) := by decide +kernel
theorem i_186_32 : ins 186 32 = some (.aload_n 0) := by decide +kernel
theorem i_186_33 : ins 186 33 = some (.getfield 32) := by decide +kernel
theorem i_186_36 : ins 186 36 = some (.iload_n 1) := by decide +kernel
theorem i_186_37 : ins 186 37 = some (.baload) := by decide +kernel
theorem i_186_38 : ins 186 38 = some (.ifCond .ne 9) := by decide +kernel
theorem i_186_41 : ins 186 41 = some (.aload_n 0) := by decide +kernel
theorem i_186_42 : ins 186 42 = some (.iconst 1) := by decide +kernel
theorem i_186_43 : ins 186 43 = some (.invokevirtual 74) := by decide +kernel
theorem i_186_46 : ins 186 46 = some (.ireturn) := by decide +kernel
theorem i_186_47 : ins 186 47 = some (.iload_n 2) := by decide +kernel
theorem i_186_48 : ins 186 48 = some (.ifCond .lt 19) := by decide +kernel
theorem i_186_51 : ins 186 51 = some (.iload_n 2) := by decide +kernel
theorem i_186_52 : ins 186 52 = some (.i2l) := by decide +kernel
theorem i_186_53 : ins 186 53 = some (.iload_n 3) := by decide +kernel
theorem i_186_54 : ins 186 54 = some (.i2l) := by decide +kernel
theorem i_186_55 : ins 186 55 = some (.ladd) := by decide +kernel
theorem i_186_56 : ins 186 56 = some (.aload_n 0) := by decide +kernel
theorem i_186_57 : ins 186 57 = some (.getfield 29) := by decide +kernel
theorem i_186_60 : ins 186 60 = some (.iload_n 1) := by decide +kernel
theorem i_186_61 : ins 186 61 = some (.iaload) := by decide +kernel
theorem i_186_62 : ins 186 62 = some (.i2l) := by decide +kernel
theorem i_186_63 : ins 186 63 = some (.lcmp) := by decide +kernel
theorem i_186_64 : ins 186 64 = some (.ifCond .le 9) := by decide +kernel
theorem i_186_67 : ins 186 67 = some (.aload_n 0) := by decide +kernel
theorem i_186_68 : ins 186 68 = some (.iconst 2) := by decide +kernel
theorem i_186_69 : ins 186 69 = some (.invokevirtual 74) := by decide +kernel
theorem i_186_72 : ins 186 72 = some (.ireturn) := by decide +kernel
theorem i_186_73 : ins 186 73 = some (.iconst 1) := by decide +kernel
theorem i_186_74 : ins 186 74 = some (.istore 4) := by decide +kernel
theorem i_186_76 : ins 186 76 = some (.iconst 0) := by decide +kernel
theorem i_186_77 : ins 186 77 = some (.istore 5) := by decide +kernel
theorem i_186_79 : ins 186 79 = some (.iload 5) := by decide +kernel
theorem i_186_81 : ins 186 81 = some (.iload_n 3) := by decide +kernel
theorem i_186_82 : ins 186 82 = some (.if_icmp .ge 42) := by decide +kernel
theorem i_186_85 : ins 186 85 = some (.iload 4) := by decide +kernel
theorem i_186_87 : ins 186 87 = some (.ifCond .eq 28) := by decide +kernel
theorem i_186_90 : ins 186 90 = some (.aload_n 0) := by decide +kernel
theorem i_186_91 : ins 186 91 = some (.aload_n 0) := by decide +kernel
theorem i_186_92 : ins 186 92 = some (.getfield 35) := by decide +kernel
theorem i_186_95 : ins 186 95 = some (.bipush 40) := by decide +kernel
theorem i_186_97 : ins 186 97 = some (.iload_n 1) := by decide +kernel
theorem i_186_98 : ins 186 98 = some (.imul) := by decide +kernel
theorem i_186_99 : ins 186 99 = some (.iload_n 2) := by decide +kernel
theorem i_186_100 : ins 186 100 = some (.iadd) := by decide +kernel
theorem i_186_101 : ins 186 101 = some (.iload 5) := by decide +kernel
theorem i_186_103 : ins 186 103 = some (.iadd) := by decide +kernel
theorem i_186_104 : ins 186 104 = some (.iaload) := by decide +kernel
theorem i_186_105 : ins 186 105 = some (.invokevirtual 171) := by decide +kernel
theorem i_186_108 : ins 186 108 = some (.ifCond .eq 7) := by decide +kernel
theorem i_186_111 : ins 186 111 = some (.iconst 1) := by decide +kernel
theorem i_186_112 : ins 186 112 = some (.goto 4) := by decide +kernel
theorem i_186_115 : ins 186 115 = some (.iconst 0) := by decide +kernel
theorem i_186_116 : ins 186 116 = some (.istore 4) := by decide +kernel
theorem i_186_118 : ins 186 118 = some (.iinc 5 1) := by decide +kernel
theorem i_186_121 : ins 186 121 = some (.goto (-42)) := by decide +kernel
theorem i_186_124 : ins 186 124 = some (.iload 4) := by decide +kernel
theorem i_186_126 : ins 186 126 = some (.ifCond .ne 6) := by decide +kernel
theorem i_186_129 : ins 186 129 = some (.ldc 73) := by decide +kernel
theorem i_186_131 : ins 186 131 = some (.ireturn) := by decide +kernel
theorem i_186_132 : ins 186 132 = some (.iconst 0) := by decide +kernel
theorem i_186_133 : ins 186 133 = some (.istore 5) := by decide +kernel
theorem i_186_135 : ins 186 135 = some (.aload_n 0) := by decide +kernel
theorem i_186_136 : ins 186 136 = some (.invokevirtual 193) := by decide +kernel
theorem i_186_139 : ins 186 139 = some (.iload 5) := by decide +kernel
theorem i_186_141 : ins 186 141 = some (.sipush 200) := by decide +kernel
theorem i_186_144 : ins 186 144 = some (.if_icmp .ge 24) := by decide +kernel
theorem i_186_147 : ins 186 147 = some (.aload_n 0) := by decide +kernel
theorem i_186_148 : ins 186 148 = some (.iload_n 1) := by decide +kernel
theorem i_186_149 : ins 186 149 = some (.iload_n 2) := by decide +kernel
theorem i_186_150 : ins 186 150 = some (.iload_n 3) := by decide +kernel
theorem i_186_151 : ins 186 151 = some (.invokevirtual 233) := by decide +kernel
theorem i_186_154 : ins 186 154 = some (.ifCond .ne 14) := by decide +kernel
theorem i_186_157 : ins 186 157 = some (.aload_n 0) := by decide +kernel
theorem i_186_158 : ins 186 158 = some (.iconst 1) := by decide +kernel
theorem i_186_159 : ins 186 159 = some (.invokevirtual 167) := by decide +kernel
theorem i_186_162 : ins 186 162 = some (.iinc 5 1) := by decide +kernel
theorem i_186_165 : ins 186 165 = some (.goto (-26)) := by decide +kernel
theorem i_186_168 : ins 186 168 = some (.aload_n 0) := by decide +kernel
theorem i_186_169 : ins 186 169 = some (.iload_n 1) := by decide +kernel
theorem i_186_170 : ins 186 170 = some (.iload_n 2) := by decide +kernel
theorem i_186_171 : ins 186 171 = some (.iload_n 3) := by decide +kernel
theorem i_186_172 : ins 186 172 = some (.invokevirtual 233) := by decide +kernel
theorem i_186_175 : ins 186 175 = some (.istore 6) := by decide +kernel
theorem i_186_177 : ins 186 177 = some (.aload_n 0) := by decide +kernel
theorem i_186_178 : ins 186 178 = some (.invokevirtual 202) := by decide +kernel
theorem i_186_181 : ins 186 181 = some (.aload_n 0) := by decide +kernel
theorem i_186_182 : ins 186 182 = some (.iload 6) := by decide +kernel
theorem i_186_184 : ins 186 184 = some (.ifCond .eq 8) := by decide +kernel
theorem i_186_187 : ins 186 187 = some (.iload 5) := by decide +kernel
theorem i_186_189 : ins 186 189 = some (.goto 5) := by decide +kernel
theorem i_186_192 : ins 186 192 = some (.ldc 183) := by decide +kernel
theorem i_186_194 : ins 186 194 = some (.invokevirtual 78) := by decide +kernel
theorem i_186_197 : ins 186 197 = some (.ireturn) := by decide +kernel
theorem o_187 : mOwn 187 = 8 := rfl
theorem i_187_0 : ins 187 0 = some (.iload_n 1) := by decide +kernel
theorem i_187_1 : ins 187 1 = some (.i2l) := by decide +kernel
theorem i_187_2 : ins 187 2 = some (.lconst 0) := by decide +kernel
theorem i_187_3 : ins 187 3 = some (.lconst 1) := by decide +kernel
theorem i_187_4 : ins 187 4 = some (.invokestatic 63) := by decide +kernel
theorem i_187_7 : ins 187 7 = some (.ifCond .ne 6) := by decide +kernel
theorem i_187_10 : ins 187 10 = some (.ldc 73) := by decide +kernel
theorem i_187_12 : ins 187 12 = some (.ireturn) := by decide +kernel
theorem i_187_13 : ins 187 13 = some (.aload_n 0) := by decide +kernel
theorem i_187_14 : ins 187 14 = some (.invokevirtual 157) := by decide +kernel
theorem i_187_17 : ins 187 17 = some (.ifCond .ne 6) := by decide +kernel
theorem i_187_20 : ins 187 20 = some (.ldc 161) := by decide +kernel
theorem i_187_22 : ins 187 22 = some (.ireturn) := by decide +kernel
theorem i_187_23 : ins 187 23 = some (.iconst 0) := by decide +kernel
theorem i_187_24 : ins 187 24 = some (.istore_n 2) := by decide +kernel
theorem i_187_25 : ins 187 25 = some (.iload_n 2) := by decide +kernel
theorem i_187_26 : ins 187 26 = some (.sipush 232) := by decide +kernel
theorem i_187_29 : ins 187 29 = some (.if_icmp .ge 27) := by decide +kernel
theorem i_187_32 : ins 187 32 = some (.aload_n 0) := by decide +kernel
theorem i_187_33 : ins 187 33 = some (.getfield 13) := by decide +kernel
theorem i_187_36 : ins 187 36 = some (.sipush 232) := by decide +kernel
theorem i_187_39 : ins 187 39 = some (.iload_n 1) := by decide +kernel
theorem i_187_40 : ins 187 40 = some (.imul) := by decide +kernel
theorem i_187_41 : ins 187 41 = some (.iload_n 2) := by decide +kernel
theorem i_187_42 : ins 187 42 = some (.iadd) := by decide +kernel
theorem i_187_43 : ins 187 43 = some (.aload_n 0) := by decide +kernel
theorem i_187_44 : ins 187 44 = some (.getfield 7) := by decide +kernel
theorem i_187_47 : ins 187 47 = some (.iload_n 2) := by decide +kernel
theorem i_187_48 : ins 187 48 = some (.iaload) := by decide +kernel
theorem i_187_49 : ins 187 49 = some (.iastore) := by decide +kernel
theorem i_187_50 : ins 187 50 = some (.iinc 2 1) := by decide +kernel
theorem i_187_53 : ins 187 53 = some (.goto (-28)) := by decide +kernel
theorem i_187_56 : ins 187 56 = some (.aload_n 0) := by decide +kernel
theorem i_187_57 : ins 187 57 = some (.getfield 16) := by decide +kernel
theorem i_187_60 : ins 187 60 = some (.iload_n 1) := by decide +kernel
theorem i_187_61 : ins 187 61 = some (.iconst 1) := by decide +kernel
theorem i_187_62 : ins 187 62 = some (.bastore) := by decide +kernel
theorem i_187_63 : ins 187 63 = some (.iconst 1) := by decide +kernel
theorem i_187_64 : ins 187 64 = some (.ireturn) := by decide +kernel
theorem o_188 : mOwn 188 = 8 := rfl
theorem i_188_0 : ins 188 0 = some (.iload_n 1) := by decide +kernel
theorem i_188_1 : ins 188 1 = some (.i2l) := by decide +kernel
theorem i_188_2 : ins 188 2 = some (.lconst 0) := by decide +kernel
theorem i_188_3 : ins 188 3 = some (.lconst 1) := by decide +kernel
theorem i_188_4 : ins 188 4 = some (.invokestatic 63) := by decide +kernel
theorem i_188_7 : ins 188 7 = some (.ifCond .ne 6) := by decide +kernel
theorem i_188_10 : ins 188 10 = some (.ldc 73) := by decide +kernel
theorem i_188_12 : ins 188 12 = some (.ireturn) := by decide +kernel
theorem i_188_13 : ins 188 13 = some (.aload_n 0) := by decide +kernel
theorem i_188_14 : ins 188 14 = some (.getfield 16) := by decide +kernel
theorem i_188_17 : ins 188 17 = some (.iload_n 1) := by decide +kernel
theorem i_188_18 : ins 188 18 = some (.baload) := by decide +kernel
theorem i_188_19 : ins 188 19 = some (.ifCond .ne 6) := by decide +kernel
theorem i_188_22 : ins 188 22 = some (.ldc 161) := by decide +kernel
theorem i_188_24 : ins 188 24 = some (.ireturn) := by decide +kernel
theorem i_188_25 : ins 188 25 = some (.iconst 0) := by decide +kernel
theorem i_188_26 : ins 188 26 = some (.istore_n 2) := by decide +kernel
theorem i_188_27 : ins 188 27 = some (.iload_n 2) := by decide +kernel
theorem i_188_28 : ins 188 28 = some (.sipush 232) := by decide +kernel
theorem i_188_31 : ins 188 31 = some (.if_icmp .ge 27) := by decide +kernel
theorem i_188_34 : ins 188 34 = some (.aload_n 0) := by decide +kernel
theorem i_188_35 : ins 188 35 = some (.getfield 7) := by decide +kernel
theorem i_188_38 : ins 188 38 = some (.iload_n 2) := by decide +kernel
theorem i_188_39 : ins 188 39 = some (.aload_n 0) := by decide +kernel
theorem i_188_40 : ins 188 40 = some (.getfield 13) := by decide +kernel
theorem i_188_43 : ins 188 43 = some (.sipush 232) := by decide +kernel
theorem i_188_46 : ins 188 46 = some (.iload_n 1) := by decide +kernel
theorem i_188_47 : ins 188 47 = some (.imul) := by decide +kernel
theorem i_188_48 : ins 188 48 = some (.iload_n 2) := by decide +kernel
theorem i_188_49 : ins 188 49 = some (.iadd) := by decide +kernel
theorem i_188_50 : ins 188 50 = some (.iaload) := by decide +kernel
theorem i_188_51 : ins 188 51 = some (.iastore) := by decide +kernel
theorem i_188_52 : ins 188 52 = some (.iinc 2 1) := by decide +kernel
theorem i_188_55 : ins 188 55 = some (.goto (-28)) := by decide +kernel
theorem i_188_58 : ins 188 58 = some (.aload_n 0) := by decide +kernel
theorem i_188_59 : ins 188 59 = some (.iconst 0) := by decide +kernel
theorem i_188_60 : ins 188 60 = some (.putfield 129) := by decide +kernel
theorem i_188_63 : ins 188 63 = some (.iconst 1) := by decide +kernel
theorem i_188_64 : ins 188 64 = some (.ireturn) := by decide +kernel
theorem o_189 : mOwn 189 = 8 := rfl
theorem i_189_0 : ins 189 0 = some (.aload_n 0) := by decide +kernel
theorem i_189_1 : ins 189 1 = some (.iload_n 1) := by decide +kernel
theorem i_189_2 : ins 189 2 = some (.invokevirtual 171) := by decide +kernel
theorem i_189_5 : ins 189 5 = some (.ifCond .eq 16) := by decide +kernel
theorem i_189_8 : ins 189 8 = some (.aload_n 0) := by decide +kernel
theorem i_189_9 : ins 189 9 = some (.getfield 7) := by decide +kernel
theorem i_189_12 : ins 189 12 = some (.sipush 145) := by decide +kernel
theorem i_189_15 : ins 189 15 = some (.iload_n 1) := by decide +kernel
theorem i_189_16 : ins 189 16 = some (.iadd) := by decide +kernel
theorem i_189_17 : ins 189 17 = some (.iaload) := by decide +kernel
theorem i_189_18 : ins 189 18 = some (.goto 5) := by decide +kernel
theorem i_189_21 : ins 189 21 = some (.ldc 73) := by decide +kernel
theorem i_189_23 : ins 189 23 = some (.ireturn) := by decide +kernel
theorem o_190 : mOwn 190 = 8 := rfl
theorem i_190_0 : ins 190 0 = some (.iload_n 0) := by decide +kernel
theorem i_190_1 : ins 190 1 = some (.iconst 5) := by decide +kernel
theorem i_190_2 : ins 190 2 = some (.if_icmp .ne 7) := by decide +kernel
theorem i_190_5 : ins 190 5 = some (.iconst 4) := by decide +kernel
theorem i_190_6 : ins 190 6 = some (.goto 18) := by decide +kernel
theorem i_190_9 : ins 190 9 = some (.iload_n 0) := by decide +kernel
theorem i_190_10 : ins 190 10 = some (.iconst 2) := by decide +kernel
theorem i_190_11 : ins 190 11 = some (.if_icmp .eq 8) := by decide +kernel
theorem i_190_14 : ins 190 14 = some (.iload_n 0) := by decide +kernel
theorem i_190_15 : ins 190 15 = some (.iconst 3) := by decide +kernel
theorem i_190_16 : ins 190 16 = some (.if_icmp .ne 7) := by decide +kernel
theorem i_190_19 : ins 190 19 = some (.iconst 1) := by decide +kernel
theorem i_190_20 : ins 190 20 = some (.goto 4) := by decide +kernel
theorem i_190_23 : ins 190 23 = some (.iconst 0) := by decide +kernel
theorem i_190_24 : ins 190 24 = some (.ireturn) := by decide +kernel
theorem o_191 : mOwn 191 = 8 := rfl
theorem i_191_0 : ins 191 0 = some (.aload_n 0) := by decide +kernel
theorem i_191_1 : ins 191 1 = some (.iload_n 1) := by decide +kernel
theorem i_191_2 : ins 191 2 = some (.invokevirtual 171) := by decide +kernel
theorem i_191_5 : ins 191 5 = some (.ifCond .eq 15) := by decide +kernel
theorem i_191_8 : ins 191 8 = some (.iload_n 2) := by decide +kernel
theorem i_191_9 : ins 191 9 = some (.i2l) := by decide +kernel
theorem i_191_10 : ins 191 10 = some (.lconst 0) := by decide +kernel
theorem i_191_11 : ins 191 11 = some (.ldc2_w 189) := by decide +kernel
theorem i_191_14 : ins 191 14 = some (.invokestatic 63) := by decide +kernel
theorem i_191_17 : ins 191 17 = some (.ifCond .ne 6) := by decide +kernel
theorem i_191_20 : ins 191 20 = some (.ldc 73) := by decide +kernel
theorem i_191_22 : ins 191 22 = some (.ireturn) := by decide +kernel
theorem i_191_23 : ins 191 23 = some (.aload_n 0) := by decide +kernel
theorem i_191_24 : ins 191 24 = some (.getfield 7) := by decide +kernel
theorem i_191_27 : ins 191 27 = some (.sipush 145) := by decide +kernel
theorem i_191_30 : ins 191 30 = some (.iload_n 1) := by decide +kernel
theorem i_191_31 : ins 191 31 = some (.iadd) := by decide +kernel
theorem i_191_32 : ins 191 32 = some (.iaload) := by decide +kernel
theorem i_191_33 : ins 191 33 = some (.istore_n 3) := by decide +kernel
theorem i_191_34 : ins 191 34 = some (.iload_n 3) := by decide +kernel
theorem i_191_35 : ins 191 35 = some (.iload_n 2) := by decide +kernel
theorem i_191_36 : ins 191 36 = some (.if_icmp .eq 15) := by decide +kernel
theorem i_191_39 : ins 191 39 = some (.iload_n 3) := by decide +kernel
theorem i_191_40 : ins 191 40 = some (.ifCond .eq 11) := by decide +kernel
theorem i_191_43 : ins 191 43 = some (.iload_n 3) := by decide +kernel
theorem i_191_44 : ins 191 44 = some (.invokestatic 237) := by decide +kernel
theorem i_191_47 : ins 191 47 = some (.istore_n 3) := by decide +kernel
theorem i_191_48 : ins 191 48 = some (.goto (-14)) := by decide +kernel
theorem i_191_51 : ins 191 51 = some (.iload_n 3) := by decide +kernel
theorem i_191_52 : ins 191 52 = some (.iload_n 2) := by decide +kernel
theorem i_191_53 : ins 191 53 = some (.if_icmp .ne 11) := by decide +kernel
theorem i_191_56 : ins 191 56 = some (.aload_n 0) := by decide +kernel
theorem i_191_57 : ins 191 57 = some (.iload_n 1) := by decide +kernel
theorem i_191_58 : ins 191 58 = some (.invokevirtual 78) := by decide +kernel
theorem i_191_61 : ins 191 61 = some (.goto 8) := by decide +kernel
theorem i_191_64 : ins 191 64 = some (.aload_n 0) := by decide +kernel
theorem i_191_65 : ins 191 65 = some (.iconst 3) := by decide +kernel
theorem i_191_66 : ins 191 66 = some (.invokevirtual 74) := by decide +kernel
theorem i_191_69 : ins 191 69 = some (.ireturn) := by decide +kernel
theorem o_192 : mOwn 192 = 8 := rfl
theorem i_192_0 : ins 192 0 = some (.aload_n 0) := by decide +kernel
theorem i_192_1 : ins 192 1 = some (.getfield 240) := by decide +kernel
theorem i_192_4 : ins 192 4 = some (.bipush 16) := by decide +kernel
theorem i_192_6 : ins 192 6 = some (.if_icmp .ge 23) := by decide +kernel
theorem i_192_9 : ins 192 9 = some (.aload_n 0) := by decide +kernel
theorem i_192_10 : ins 192 10 = some (.getfield 53) := by decide +kernel
theorem i_192_13 : ins 192 13 = some (.aload_n 0) := by decide +kernel
theorem i_192_14 : ins 192 14 = some (.getfield 240) := by decide +kernel
theorem i_192_17 : ins 192 17 = some (.iload_n 1) := by decide +kernel
theorem i_192_18 : ins 192 18 = some (.iastore) := by decide +kernel
theorem i_192_19 : ins 192 19 = some (.aload_n 0) := by decide +kernel
theorem i_192_20 : ins 192 20 = some (.dup) := by decide +kernel
theorem i_192_21 : ins 192 21 = some (.getfield 240) := by decide +kernel
theorem i_192_24 : ins 192 24 = some (.iconst 1) := by decide +kernel
theorem i_192_25 : ins 192 25 = some (.iadd) := by decide +kernel
theorem i_192_26 : ins 192 26 = some (.putfield 240) := by decide +kernel
theorem i_192_29 : ins 192 29 = some (.return_) := by decide +kernel
theorem o_193 : mOwn 193 = 8 := rfl
theorem i_193_0 : ins 193 0 = some (.aload_n 0) := by decide +kernel
theorem i_193_1 : ins 193 1 = some (.bipush 10) := by decide +kernel
theorem i_193_3 : ins 193 3 = some (.invokevirtual 243) := by decide +kernel
theorem i_193_6 : ins 193 6 = some (.aload_n 0) := by decide +kernel
theorem i_193_7 : ins 193 7 = some (.getfield 7) := by decide +kernel
theorem i_193_10 : ins 193 10 = some (.bipush 28) := by decide +kernel
theorem i_193_12 : ins 193 12 = some (.iload_n 1) := by decide +kernel
theorem i_193_13 : ins 193 13 = some (.iadd) := by decide +kernel
theorem i_193_14 : ins 193 14 = some (.iaload) := by decide +kernel
theorem i_193_15 : ins 193 15 = some (.ireturn) := by decide +kernel
theorem o_194 : mOwn 194 = 8 := rfl
theorem i_194_0 : ins 194 0 = some (.aload_n 0) := by decide +kernel
theorem i_194_1 : ins 194 1 = some (.bipush 13) := by decide +kernel
theorem i_194_3 : ins 194 3 = some (.invokevirtual 243) := by decide +kernel
theorem i_194_6 : ins 194 6 = some (.aload_n 0) := by decide +kernel
theorem i_194_7 : ins 194 7 = some (.iload_n 1) := by decide +kernel
theorem i_194_8 : ins 194 8 = some (.invokevirtual 246) := by decide +kernel
theorem i_194_11 : ins 194 11 = some (.bipush 100) := by decide +kernel
theorem i_194_13 : ins 194 13 = some (.isub) := by decide +kernel
theorem i_194_14 : ins 194 14 = some (.ireturn) := by decide +kernel
theorem o_195 : mOwn 195 = 8 := rfl
theorem i_195_0 : ins 195 0 = some (.aload_n 0) := by decide +kernel
theorem i_195_1 : ins 195 1 = some (.getfield 7) := by decide +kernel
theorem i_195_4 : ins 195 4 = some (.sipush 145) := by decide +kernel
theorem i_195_7 : ins 195 7 = some (.iload_n 1) := by decide +kernel
theorem i_195_8 : ins 195 8 = some (.iadd) := by decide +kernel
theorem i_195_9 : ins 195 9 = some (.iaload) := by decide +kernel
theorem i_195_10 : ins 195 10 = some (.iconst 5) := by decide +kernel
theorem i_195_11 : ins 195 11 = some (.if_icmp .ne 17) := by decide +kernel
theorem i_195_14 : ins 195 14 = some (.aload_n 0) := by decide +kernel
theorem i_195_15 : ins 195 15 = some (.bipush 14) := by decide +kernel
theorem i_195_17 : ins 195 17 = some (.invokevirtual 243) := by decide +kernel
theorem i_195_20 : ins 195 20 = some (.iconst 2) := by decide +kernel
theorem i_195_21 : ins 195 21 = some (.aload_n 0) := by decide +kernel
theorem i_195_22 : ins 195 22 = some (.iload_n 1) := by decide +kernel
theorem i_195_23 : ins 195 23 = some (.invokevirtual 249) := by decide +kernel
theorem i_195_26 : ins 195 26 = some (.imul) := by decide +kernel
theorem i_195_27 : ins 195 27 = some (.ireturn) := by decide +kernel
theorem i_195_28 : ins 195 28 = some (.aload_n 0) := by decide +kernel
theorem i_195_29 : ins 195 29 = some (.iload_n 1) := by decide +kernel
theorem i_195_30 : ins 195 30 = some (.invokevirtual 249) := by decide +kernel
theorem i_195_33 : ins 195 33 = some (.ireturn) := by decide +kernel
theorem o_196 : mOwn 196 = 8 := rfl
theorem i_196_0 : ins 196 0 = some (.aload_n 0) := by decide +kernel
theorem i_196_1 : ins 196 1 = some (.bipush 11) := by decide +kernel
theorem i_196_3 : ins 196 3 = some (.invokevirtual 243) := by decide +kernel
theorem i_196_6 : ins 196 6 = some (.aload_n 0) := by decide +kernel
theorem i_196_7 : ins 196 7 = some (.iload_n 1) := by decide +kernel
theorem i_196_8 : ins 196 8 = some (.invokevirtual 246) := by decide +kernel
theorem i_196_11 : ins 196 11 = some (.istore_n 2) := by decide +kernel
theorem i_196_12 : ins 196 12 = some (.iload_n 2) := by decide +kernel
theorem i_196_13 : ins 196 13 = some (.aload_n 0) := by decide +kernel
theorem i_196_14 : ins 196 14 = some (.iload_n 1) := by decide +kernel
theorem i_196_15 : ins 196 15 = some (.invokevirtual 252) := by decide +kernel
theorem i_196_18 : ins 196 18 = some (.iadd) := by decide +kernel
theorem i_196_19 : ins 196 19 = some (.ireturn) := by decide +kernel
theorem o_197 : mOwn 197 = 8 := rfl
theorem i_197_0 : ins 197 0 = some (.aload_n 0) := by decide +kernel
theorem i_197_1 : ins 197 1 = some (.iload_n 1) := by decide +kernel
theorem i_197_2 : ins 197 2 = some (.invokevirtual 255) := by decide +kernel
theorem i_197_5 : ins 197 5 = some (.ifCond .eq 9) := by decide +kernel
theorem i_197_8 : ins 197 8 = some (.aload_n 0) := by decide +kernel
theorem i_197_9 : ins 197 9 = some (.iload_n 1) := by decide +kernel
theorem i_197_10 : ins 197 10 = some (.invokevirtual 258) := by decide +kernel
theorem i_197_13 : ins 197 13 = some (.ireturn) := by decide +kernel
theorem i_197_14 : ins 197 14 = some (.aload_n 0) := by decide +kernel
theorem i_197_15 : ins 197 15 = some (.getfield 7) := by decide +kernel
theorem i_197_18 : ins 197 18 = some (.sipush 145) := by decide +kernel
theorem i_197_21 : ins 197 21 = some (.iload_n 1) := by decide +kernel
theorem i_197_22 : ins 197 22 = some (.iadd) := by decide +kernel
theorem i_197_23 : ins 197 23 = some (.iaload) := by decide +kernel
theorem i_197_24 : ins 197 24 = some (.iconst 2) := by decide +kernel
theorem i_197_25 : ins 197 25 = some (.if_icmp .ne 16) := by decide +kernel
theorem i_197_28 : ins 197 28 = some (.aload_n 0) := by decide +kernel
theorem i_197_29 : ins 197 29 = some (.bipush 12) := by decide +kernel
theorem i_197_31 : ins 197 31 = some (.invokevirtual 243) := by decide +kernel
theorem i_197_34 : ins 197 34 = some (.aload_n 0) := by decide +kernel
theorem i_197_35 : ins 197 35 = some (.iload_n 1) := by decide +kernel
theorem i_197_36 : ins 197 36 = some (.invokevirtual 261) := by decide +kernel
theorem i_197_39 : ins 197 39 = some (.ineg) := by decide +kernel
theorem i_197_40 : ins 197 40 = some (.ireturn) := by decide +kernel
theorem i_197_41 : ins 197 41 = some (.aload_n 0) := by decide +kernel
theorem i_197_42 : ins 197 42 = some (.iload_n 1) := by decide +kernel
theorem i_197_43 : ins 197 43 = some (.invokevirtual 261) := by decide +kernel
theorem i_197_46 : ins 197 46 = some (.ireturn) := by decide +kernel
theorem o_198 : mOwn 198 = 8 := rfl
theorem i_198_0 : ins 198 0 = some (.aload_n 0) := by decide +kernel
theorem i_198_1 : ins 198 1 = some (.bipush 20) := by decide +kernel
theorem i_198_3 : ins 198 3 = some (.invokevirtual 243) := by decide +kernel
theorem i_198_6 : ins 198 6 = some (.iload_n 1) := by decide +kernel
theorem i_198_7 : ins 198 7 = some (.ireturn) := by decide +kernel
theorem o_199 : mOwn 199 = 8 := rfl
theorem i_199_0 : ins 199 0 = some (.aload_n 0) := by decide +kernel
theorem i_199_1 : ins 199 1 = some (.bipush 21) := by decide +kernel
theorem i_199_3 : ins 199 3 = some (.invokevirtual 243) := by decide +kernel
theorem i_199_6 : ins 199 6 = some (.aload_n 0) := by decide +kernel
theorem i_199_7 : ins 199 7 = some (.iload_n 1) := by decide +kernel
theorem i_199_8 : ins 199 8 = some (.invokevirtual 264) := by decide +kernel
theorem i_199_11 : ins 199 11 = some (.aload_n 0) := by decide +kernel
theorem i_199_12 : ins 199 12 = some (.iload_n 1) := by decide +kernel
theorem i_199_13 : ins 199 13 = some (.invokevirtual 135) := by decide +kernel
theorem i_199_16 : ins 199 16 = some (.iadd) := by decide +kernel
theorem i_199_17 : ins 199 17 = some (.ireturn) := by decide +kernel
theorem o_200 : mOwn 200 = 8 := rfl
theorem i_200_0 : ins 200 0 = some (.aload_n 0) := by decide +kernel
theorem i_200_1 : ins 200 1 = some (.getfield 7) := by decide +kernel
theorem i_200_4 : ins 200 4 = some (.sipush 145) := by decide +kernel
theorem i_200_7 : ins 200 7 = some (.iload_n 1) := by decide +kernel
theorem i_200_8 : ins 200 8 = some (.iadd) := by decide +kernel
theorem i_200_9 : ins 200 9 = some (.iaload) := by decide +kernel
theorem i_200_10 : ins 200 10 = some (.tableswitch 62 1 3 #[56, 26, 40]) := by decide +kernel
theorem i_200_36 : ins 200 36 = some (.aload_n 0) := by decide +kernel
theorem i_200_37 : ins 200 37 = some (.bipush 24) := by decide +kernel
theorem i_200_39 : ins 200 39 = some (.invokevirtual 243) := by decide +kernel
theorem i_200_42 : ins 200 42 = some (.iconst 2) := by decide +kernel
theorem i_200_43 : ins 200 43 = some (.aload_n 0) := by decide +kernel
theorem i_200_44 : ins 200 44 = some (.iload_n 1) := by decide +kernel
theorem i_200_45 : ins 200 45 = some (.invokevirtual 267) := by decide +kernel
theorem i_200_48 : ins 200 48 = some (.imul) := by decide +kernel
theorem i_200_49 : ins 200 49 = some (.ireturn) := by decide +kernel
theorem i_200_50 : ins 200 50 = some (.aload_n 0) := by decide +kernel
theorem i_200_51 : ins 200 51 = some (.bipush 22) := by decide +kernel
theorem i_200_53 : ins 200 53 = some (.invokevirtual 243) := by decide +kernel
theorem i_200_56 : ins 200 56 = some (.aload_n 0) := by decide +kernel
theorem i_200_57 : ins 200 57 = some (.iload_n 1) := by decide +kernel
theorem i_200_58 : ins 200 58 = some (.invokevirtual 267) := by decide +kernel
theorem i_200_61 : ins 200 61 = some (.sipush 1000) := by decide +kernel
theorem i_200_64 : ins 200 64 = some (.isub) := by decide +kernel
theorem i_200_65 : ins 200 65 = some (.ireturn) := by decide +kernel
theorem i_200_66 : ins 200 66 = some (.aload_n 0) := by decide +kernel
theorem i_200_67 : ins 200 67 = some (.iload_n 1) := by decide +kernel
theorem i_200_68 : ins 200 68 = some (.invokevirtual 267) := by decide +kernel
theorem i_200_71 : ins 200 71 = some (.ireturn) := by decide +kernel
theorem i_200_72 : ins 200 72 = some (.aload_n 0) := by decide +kernel
theorem i_200_73 : ins 200 73 = some (.bipush 23) := by decide +kernel
theorem i_200_75 : ins 200 75 = some (.invokevirtual 243) := by decide +kernel
theorem i_200_78 : ins 200 78 = some (.aload_n 0) := by decide +kernel
theorem i_200_79 : ins 200 79 = some (.iload_n 1) := by decide +kernel
theorem i_200_80 : ins 200 80 = some (.invokevirtual 264) := by decide +kernel
theorem i_200_83 : ins 200 83 = some (.istore_n 2) := by decide +kernel
theorem i_200_84 : ins 200 84 = some (.iload_n 2) := by decide +kernel
theorem i_200_85 : ins 200 85 = some (.aload_n 0) := by decide +kernel
theorem i_200_86 : ins 200 86 = some (.iload_n 1) := by decide +kernel
theorem i_200_87 : ins 200 87 = some (.invokevirtual 258) := by decide +kernel
theorem i_200_90 : ins 200 90 = some (.isub) := by decide +kernel
theorem i_200_91 : ins 200 91 = some (.ireturn) := by decide +kernel
theorem o_201 : mOwn 201 = 8 := rfl
theorem i_201_0 : ins 201 0 = some (.aload_n 0) := by decide +kernel
theorem i_201_1 : ins 201 1 = some (.iload_n 1) := by decide +kernel
theorem i_201_2 : ins 201 2 = some (.invokevirtual 171) := by decide +kernel
theorem i_201_5 : ins 201 5 = some (.ifCond .eq 13) := by decide +kernel
theorem i_201_8 : ins 201 8 = some (.iload_n 2) := by decide +kernel
theorem i_201_9 : ins 201 9 = some (.i2l) := by decide +kernel
theorem i_201_10 : ins 201 10 = some (.lconst 0) := by decide +kernel
theorem i_201_11 : ins 201 11 = some (.lconst 1) := by decide +kernel
theorem i_201_12 : ins 201 12 = some (.invokestatic 63) := by decide +kernel
theorem i_201_15 : ins 201 15 = some (.ifCond .ne 6) := by decide +kernel
theorem i_201_18 : ins 201 18 = some (.ldc 73) := by decide +kernel
theorem i_201_20 : ins 201 20 = some (.ireturn) := by decide +kernel
theorem i_201_21 : ins 201 21 = some (.aload_n 0) := by decide +kernel
theorem i_201_22 : ins 201 22 = some (.iconst 0) := by decide +kernel
theorem i_201_23 : ins 201 23 = some (.putfield 240) := by decide +kernel
theorem i_201_26 : ins 201 26 = some (.iload_n 2) := by decide +kernel
theorem i_201_27 : ins 201 27 = some (.ifCond .ne 11) := by decide +kernel
theorem i_201_30 : ins 201 30 = some (.aload_n 0) := by decide +kernel
theorem i_201_31 : ins 201 31 = some (.iload_n 1) := by decide +kernel
theorem i_201_32 : ins 201 32 = some (.invokevirtual 270) := by decide +kernel
theorem i_201_35 : ins 201 35 = some (.goto 8) := by decide +kernel
theorem i_201_38 : ins 201 38 = some (.aload_n 0) := by decide +kernel
theorem i_201_39 : ins 201 39 = some (.iload_n 1) := by decide +kernel
theorem i_201_40 : ins 201 40 = some (.invokevirtual 252) := by decide +kernel
theorem i_201_43 : ins 201 43 = some (.ireturn) := by decide +kernel
theorem o_202 : mOwn 202 = 8 := rfl
theorem i_202_0 : ins 202 0 = some (.iload_n 1) := by decide +kernel
theorem i_202_1 : ins 202 1 = some (.i2l) := by decide +kernel
theorem i_202_2 : ins 202 2 = some (.lconst 0) := by decide +kernel
theorem i_202_3 : ins 202 3 = some (.aload_n 0) := by decide +kernel
theorem i_202_4 : ins 202 4 = some (.getfield 240) := by decide +kernel
theorem i_202_7 : ins 202 7 = some (.iconst 1) := by decide +kernel
theorem i_202_8 : ins 202 8 = some (.isub) := by decide +kernel
theorem i_202_9 : ins 202 9 = some (.i2l) := by decide +kernel
theorem i_202_10 : ins 202 10 = some (.invokestatic 63) := by decide +kernel
theorem i_202_13 : ins 202 13 = some (.ifCond .eq 12) := by decide +kernel
theorem i_202_16 : ins 202 16 = some (.aload_n 0) := by decide +kernel
theorem i_202_17 : ins 202 17 = some (.getfield 53) := by decide +kernel
theorem i_202_20 : ins 202 20 = some (.iload_n 1) := by decide +kernel
theorem i_202_21 : ins 202 21 = some (.iaload) := by decide +kernel
theorem i_202_22 : ins 202 22 = some (.goto 5) := by decide +kernel
theorem i_202_25 : ins 202 25 = some (.ldc 183) := by decide +kernel
theorem i_202_27 : ins 202 27 = some (.ireturn) := by decide +kernel
theorem o_203 : mOwn 203 = 8 := rfl
theorem i_203_0 : ins 203 0 = some (.iconst 0) := by decide +kernel
theorem i_203_1 : ins 203 1 = some (.istore_n 1) := by decide +kernel
theorem i_203_2 : ins 203 2 = some (.iconst 0) := by decide +kernel
theorem i_203_3 : ins 203 3 = some (.istore_n 2) := by decide +kernel
theorem i_203_4 : ins 203 4 = some (.iload_n 2) := by decide +kernel
theorem i_203_5 : ins 203 5 = some (.bipush 8) := by decide +kernel
theorem i_203_7 : ins 203 7 = some (.if_icmp .ge 26) := by decide +kernel
theorem i_203_10 : ins 203 10 = some (.iload_n 1) := by decide +kernel
theorem i_203_11 : ins 203 11 = some (.aload_n 0) := by decide +kernel
theorem i_203_12 : ins 203 12 = some (.getfield 32) := by decide +kernel
theorem i_203_15 : ins 203 15 = some (.iload_n 2) := by decide +kernel
theorem i_203_16 : ins 203 16 = some (.baload) := by decide +kernel
theorem i_203_17 : ins 203 17 = some (.ifCond .eq 7) := by decide +kernel
theorem i_203_20 : ins 203 20 = some (.iconst 1) := by decide +kernel
theorem i_203_21 : ins 203 21 = some (.goto 4) := by decide +kernel
theorem i_203_24 : ins 203 24 = some (.iconst 0) := by decide +kernel
theorem i_203_25 : ins 203 25 = some (.iadd) := by decide +kernel
theorem i_203_26 : ins 203 26 = some (.istore_n 1) := by decide +kernel
theorem i_203_27 : ins 203 27 = some (.iinc 2 1) := by decide +kernel
theorem i_203_30 : ins 203 30 = some (.goto (-26)) := by decide +kernel
theorem i_203_33 : ins 203 33 = some (.iload_n 1) := by decide +kernel
theorem i_203_34 : ins 203 34 = some (.ireturn) := by decide +kernel
theorem o_204 : mOwn 204 = 8 := rfl
theorem i_204_0 : ins 204 0 = some (.iload_n 1) := by decide +kernel
theorem i_204_1 : ins 204 1 = some (.tableswitch 116 0 8 #[51, 56, 61, 70, 79, 88, 97, 106, 111]) := by decide +kernel
theorem i_204_52 : ins 204 52 = some (.aload_n 0) := by decide +kernel
theorem i_204_53 : ins 204 53 = some (.invokevirtual 273) := by decide +kernel
theorem i_204_56 : ins 204 56 = some (.ireturn) := by decide +kernel
theorem i_204_57 : ins 204 57 = some (.aload_n 0) := by decide +kernel
theorem i_204_58 : ins 204 58 = some (.invokevirtual 132) := by decide +kernel
theorem i_204_61 : ins 204 61 = some (.ireturn) := by decide +kernel
theorem i_204_62 : ins 204 62 = some (.aload_n 0) := by decide +kernel
theorem i_204_63 : ins 204 63 = some (.getfield 7) := by decide +kernel
theorem i_204_66 : ins 204 66 = some (.sipush 230) := by decide +kernel
theorem i_204_69 : ins 204 69 = some (.iaload) := by decide +kernel
theorem i_204_70 : ins 204 70 = some (.ireturn) := by decide +kernel
theorem i_204_71 : ins 204 71 = some (.aload_n 0) := by decide +kernel
theorem i_204_72 : ins 204 72 = some (.getfield 7) := by decide +kernel
theorem i_204_75 : ins 204 75 = some (.sipush 142) := by decide +kernel
theorem i_204_78 : ins 204 78 = some (.iaload) := by decide +kernel
theorem i_204_79 : ins 204 79 = some (.ireturn) := by decide +kernel
theorem i_204_80 : ins 204 80 = some (.aload_n 0) := by decide +kernel
theorem i_204_81 : ins 204 81 = some (.getfield 7) := by decide +kernel
theorem i_204_84 : ins 204 84 = some (.sipush 140) := by decide +kernel
theorem i_204_87 : ins 204 87 = some (.iaload) := by decide +kernel
theorem i_204_88 : ins 204 88 = some (.ireturn) := by decide +kernel
theorem i_204_89 : ins 204 89 = some (.aload_n 0) := by decide +kernel
theorem i_204_90 : ins 204 90 = some (.getfield 7) := by decide +kernel
theorem i_204_93 : ins 204 93 = some (.sipush 143) := by decide +kernel
theorem i_204_96 : ins 204 96 = some (.iaload) := by decide +kernel
theorem i_204_97 : ins 204 97 = some (.ireturn) := by decide +kernel
theorem i_204_98 : ins 204 98 = some (.aload_n 0) := by decide +kernel
theorem i_204_99 : ins 204 99 = some (.getfield 7) := by decide +kernel
theorem i_204_102 : ins 204 102 = some (.sipush 144) := by decide +kernel
theorem i_204_105 : ins 204 105 = some (.iaload) := by decide +kernel
theorem i_204_106 : ins 204 106 = some (.ireturn) := by decide +kernel
theorem i_204_107 : ins 204 107 = some (.aload_n 0) := by decide +kernel
theorem i_204_108 : ins 204 108 = some (.getfield 129) := by decide +kernel
theorem i_204_111 : ins 204 111 = some (.ireturn) := by decide +kernel
theorem i_204_112 : ins 204 112 = some (.aload_n 0) := by decide +kernel
theorem i_204_113 : ins 204 113 = some (.getfield 83) := by decide +kernel
theorem i_204_116 : ins 204 116 = some (.ireturn) := by decide +kernel
theorem i_204_117 : ins 204 117 = some (.ldc 73) := by decide +kernel
theorem i_204_119 : ins 204 119 = some (.ireturn) := by decide +kernel
theorem o_205 : mOwn 205 = 8 := rfl
theorem i_205_0 : ins 205 0 = some (.aload_n 0) := by decide +kernel
theorem i_205_1 : ins 205 1 = some (.getfield 56) := by decide +kernel
theorem i_205_4 : ins 205 4 = some (.ireturn) := by decide +kernel
end
section
theorem run_mono : ∀ (n d mid pc : Nat) (ls : Lv) (st : List Vv) (S : List Sh) (M : Mem) (x : Option Vv × List Sh × Mem), run n d mid pc ls st S M = some x → ∀ k, run (n + k) d mid pc ls st S M = some x := by
  intro n
  induction n with
  | zero => intro d mid pc ls st S M x h; cases h
  | succ n ih =>
    intro d mid pc ls st S M x h k
    rw [show n + 1 + k = (n + k) + 1 by omega]
    unfold run at h ⊢
    rcases hact : act mid pc ls st S M with _ | ⟨pc', ls', st', S', M'⟩ | ⟨mid', args, rest⟩ | r
    · rw [hact] at h; cases h
    · rw [hact] at h
      exact ih _ _ _ _ _ _ _ _ h k
    · rw [hact] at h
      simp only at h ⊢
      cases d with
      | zero => cases h
      | succ d =>
        simp only at h ⊢
        split at h
        · next hl =>
          rw [if_pos hl]
          rcases hr : run n d mid' 0 (entryL mid' args) [] S M with _ | ⟨r, S', M'⟩
          · rw [hr] at h; cases h
          · rw [hr] at h
            rw [ih _ _ _ _ _ _ _ _ hr k]
            exact ih _ _ _ _ _ _ _ _ h k
        · cases h
    · rw [hact] at h
      exact h
/-- the little machine comes from here to an end with Q -/
def Ok (d mid pc : Nat) (ls : Lv) (st : List Vv) (M : Mem) (Q : Option Vv → Mem → Prop) : Prop := ∃ n r M', run n d mid pc ls st SS M = some (r, SS, M') ∧ Q r M'
section OKS
variable {d mid pc pc' : Nat} {ls ls' : Lv} {st st' : List Vv} {M M' : Mem} {Q : Option Vv → Mem → Prop}
theorem ok_step (ha : act mid pc ls st SS M = some (.inl (pc', ls', st', SS, M'))) (k : Ok d mid pc' ls' st' M' Q) : Ok d mid pc ls st M Q := by
  obtain ⟨n, r, M2, h1, h2⟩ := k
  refine ⟨n + 1, r, M2, ?_, h2⟩
  unfold run
  rw [ha]
  exact h1
theorem ok_ret {r : Option Vv} (ha : act mid pc ls st SS M = some (.inr (.inr r))) (k : Q r M) : Ok d mid pc ls st M Q := by
  refine ⟨1, r, M, ?_, k⟩
  unfold run
  rw [ha]
theorem ok_call {mid' : Nat} {av rest : List Vv} {el : Lv} (ha : act mid pc ls st SS M = some (.inr (.inl (mid', av, rest)))) (he : entryL mid' av = el) (hl : Nat.ble (eLoc av).length (mL mid') = true) (k : Ok d mid' 0 el [] M (fun r M' => Ok (d + 1) mid (pc + 3) ls (r.toList ++ rest) M' Q)) : Ok (d + 1) mid pc ls st M Q := by
  obtain ⟨n1, r1, M1, h1, n2, r2, M2, h3, h4⟩ := k
  refine ⟨n1 + n2 + 1, r2, M2, ?_, h4⟩
  unfold run
  rw [ha]
  simp only
  rw [if_pos (Nat.le_of_ble_eq_true hl), he, run_mono _ _ _ _ _ _ _ _ _ h1 n2]
  simp only
  rw [Nat.add_comm n1 n2]
  exact run_mono _ _ _ _ _ _ _ _ _ h3 n1
theorem Ok.imp {Q' : Option Vv → Mem → Prop} (h : Ok d mid pc ls st M Q) (hq : ∀ r M', Q r M' → Q' r M') : Ok d mid pc ls st M Q' := by
  obtain ⟨n, r, M', h1, h2⟩ := h
  exact ⟨n, r, M', h1, hq _ _ h2⟩
theorem act_ins {i : Instr} (hi : ins mid pc = some i) : act mid pc ls st SS M = actI (mOwn mid) (decide ((mY mid).name = "<init>")) (mR mid) i pc ls st SS M := by
  unfold act
  rw [hi]
theorem k_iconst {n : Int} (hi : ins mid pc = some (.iconst n)) (h : inR n) (k : Ok d mid (pc + 1) ls (vI n :: st) M Q) : Ok d mid pc ls st M Q := ok_step (by rw [act_ins hi]; show pI _ _ _ _ _ _ = _; unfold pI; rw [if_pos h]; rfl) k
theorem k_bipush {n : Int} (hi : ins mid pc = some (.bipush n)) (h : -128 ≤ n ∧ n ≤ 127) (k : Ok d mid (pc + 2) ls (vI n :: st) M Q) : Ok d mid pc ls st M Q := ok_step (by rw [act_ins hi]; show (if _ then _ else _) = _; rw [if_pos h]; rfl) k
theorem k_sipush {n : Int} (hi : ins mid pc = some (.sipush n)) (h : -32768 ≤ n ∧ n ≤ 32767) (k : Ok d mid (pc + 3) ls (vI n :: st) M Q) : Ok d mid pc ls st M Q := ok_step (by rw [act_ins hi]; show (if _ then _ else _) = _; rw [if_pos h]; rfl) k
theorem k_lconst {n : Fin 2} {z : Int} (hi : ins mid pc = some (.lconst n)) (hz : (n.val : Int) = z) (k : Ok d mid (pc + 1) ls (vL z :: st) M Q) : Ok d mid pc ls st M Q := by
  subst hz
  exact ok_step (by rw [act_ins hi]; rfl) k
theorem k_ldc {o idx : Nat} {z : Int} (hi : ins mid pc = some (.ldc idx)) (ho : mOwn mid = o) (hk : lk poolC (o * 1000 + idx) = some z) (h : inR z) (k : Ok d mid (pc + 2) ls (vI z :: st) M Q) : Ok d mid pc ls st M Q := ok_step (by rw [act_ins hi]; show aLdc _ _ _ _ _ _ _ = _; unfold aLdc; rw [ho, hk]; show pI _ _ _ _ _ _ = _; unfold pI; rw [if_pos h]; rfl) k
theorem k_ldc_w {o idx : Nat} {z : Int} (hi : ins mid pc = some (.ldc_w idx)) (ho : mOwn mid = o) (hk : lk poolC (o * 1000 + idx) = some z) (h : inR z) (k : Ok d mid (pc + 3) ls (vI z :: st) M Q) : Ok d mid pc ls st M Q := ok_step (by rw [act_ins hi]; show aLdc _ _ _ _ _ _ _ = _; unfold aLdc; rw [ho, hk]; show pI _ _ _ _ _ _ = _; unfold pI; rw [if_pos h]; rfl) k
theorem k_ldc2 {o idx : Nat} {z : Int} (hi : ins mid pc = some (.ldc2_w idx)) (ho : mOwn mid = o) (hk : lk poolL (o * 1000 + idx) = some z) (h : inL z) (k : Ok d mid (pc + 3) ls (vL z :: st) M Q) : Ok d mid pc ls st M Q := ok_step (by rw [act_ins hi]; show aLdc2 _ _ _ _ _ _ = _; unfold aLdc2; rw [ho, hk]; show pL _ _ _ _ _ _ = _; unfold pL; rw [if_pos h]; rfl) k
theorem k_iload_n {j : Fin 4} {x : Int} (hi : ins mid pc = some (.iload_n j)) (h : ls[j.val]? = some (some (vI x))) (k : Ok d mid (pc + 1) ls (vI x :: st) M Q) : Ok d mid pc ls st M Q := ok_step (by rw [act_ins hi]; show ldI _ _ _ _ _ _ = _; unfold ldI; rw [h]; rfl) k
theorem k_iload {j : Nat} {x : Int} (hi : ins mid pc = some (.iload j)) (h : ls[j]? = some (some (vI x))) (k : Ok d mid (pc + 2) ls (vI x :: st) M Q) : Ok d mid pc ls st M Q := ok_step (by rw [act_ins hi]; show ldI _ _ _ _ _ _ = _; unfold ldI; rw [h]; rfl) k
theorem k_lload_n {j : Fin 4} {x : Int} (hi : ins mid pc = some (.lload_n j)) (h : ls[j.val]? = some (some (vL x))) (k : Ok d mid (pc + 1) ls (vL x :: st) M Q) : Ok d mid pc ls st M Q := ok_step (by rw [act_ins hi]; show ldL _ _ _ _ _ _ = _; unfold ldL; rw [h]; rfl) k
theorem k_lload {j : Nat} {x : Int} (hi : ins mid pc = some (.lload j)) (h : ls[j]? = some (some (vL x))) (k : Ok d mid (pc + 2) ls (vL x :: st) M Q) : Ok d mid pc ls st M Q := ok_step (by rw [act_ins hi]; show ldL _ _ _ _ _ _ = _; unfold ldL; rw [h]; rfl) k
theorem k_aload_n {j : Fin 4} {x : Nat} (hi : ins mid pc = some (.aload_n j)) (h : ls[j.val]? = some (some (vR (some x)))) (k : Ok d mid (pc + 1) ls (vR (some x) :: st) M Q) : Ok d mid pc ls st M Q := ok_step (by rw [act_ins hi]; show ldA _ _ _ _ _ _ = _; unfold ldA; rw [h]; rfl) k
theorem k_aload {j : Nat} {x : Nat} (hi : ins mid pc = some (.aload j)) (h : ls[j]? = some (some (vR (some x)))) (k : Ok d mid (pc + 2) ls (vR (some x) :: st) M Q) : Ok d mid pc ls st M Q := ok_step (by rw [act_ins hi]; show ldA _ _ _ _ _ _ = _; unfold ldA; rw [h]; rfl) k
theorem k_istore_n {j : Fin 4} {x : Int} (hi : ins mid pc = some (.istore_n j)) (h : st1 ls j.val (vI x) = some ls') (k : Ok d mid (pc + 1) ls' st M Q) : Ok d mid pc ls (vI x :: st) M Q := ok_step (by rw [act_ins hi]; simp only [actI, stI, h]; rfl) k
theorem k_istore {j : Nat} {x : Int} (hi : ins mid pc = some (.istore j)) (h : st1 ls j (vI x) = some ls') (k : Ok d mid (pc + 2) ls' st M Q) : Ok d mid pc ls (vI x :: st) M Q := ok_step (by rw [act_ins hi]; simp only [actI, stI, h]; rfl) k
theorem k_lstore_n {j : Fin 4} {x : Int} (hi : ins mid pc = some (.lstore_n j)) (h : st2 ls j.val (vL x) = some ls') (k : Ok d mid (pc + 1) ls' st M Q) : Ok d mid pc ls (vL x :: st) M Q := ok_step (by rw [act_ins hi]; simp only [actI, stL, h]; rfl) k
theorem k_lstore {j : Nat} {x : Int} (hi : ins mid pc = some (.lstore j)) (h : st2 ls j (vL x) = some ls') (k : Ok d mid (pc + 2) ls' st M Q) : Ok d mid pc ls (vL x :: st) M Q := ok_step (by rw [act_ins hi]; simp only [actI, stL, h]; rfl) k
theorem k_astore_n {j : Fin 4} {x : Nat} (hi : ins mid pc = some (.astore_n j)) (h : st1 ls j.val (vR (some x)) = some ls') (k : Ok d mid (pc + 1) ls' st M Q) : Ok d mid pc ls (vR (some x) :: st) M Q := ok_step (by rw [act_ins hi]; simp only [actI, stA, h]; rfl) k
theorem k_astore {j : Nat} {x : Nat} (hi : ins mid pc = some (.astore j)) (h : st1 ls j (vR (some x)) = some ls') (k : Ok d mid (pc + 2) ls' st M Q) : Ok d mid pc ls (vR (some x) :: st) M Q := ok_step (by rw [act_ins hi]; simp only [actI, stA, h]; rfl) k
theorem k_iinc {j : Nat} {x n : Int} (hi : ins mid pc = some (.iinc j n)) (hx : ls[j]? = some (some (vI x))) (hr : -2147483648 ≤ n ∧ n ≤ 2147483647 ∧ -2147483648 ≤ x + n ∧ x + n ≤ 2147483647) (h : st1 ls j (vI (x + n)) = some ls') (k : Ok d mid (pc + 3) ls' st M Q) : Ok d mid pc ls st M Q := ok_step (by rw [act_ins hi]; simp only [actI, aInc, hx, h]; rw [if_pos ⟨⟨hr.1, hr.2.1⟩, hr.2.2⟩]; rfl) k
theorem k_iadd {x y : Int} (hi : ins mid pc = some .iadd) (h : -2147483648 ≤ x + y ∧ x + y ≤ 2147483647) (k : Ok d mid (pc + 1) ls (vI (x + y) :: st) M Q) : Ok d mid pc ls (vI y :: vI x :: st) M Q := ok_step (by rw [act_ins hi]; show pI _ _ _ _ _ _ = _; unfold pI; rw [if_pos h]; rfl) k
theorem k_isub {x y : Int} (hi : ins mid pc = some .isub) (h : -2147483648 ≤ x - y ∧ x - y ≤ 2147483647) (k : Ok d mid (pc + 1) ls (vI (x - y) :: st) M Q) : Ok d mid pc ls (vI y :: vI x :: st) M Q := ok_step (by rw [act_ins hi]; show pI _ _ _ _ _ _ = _; unfold pI; rw [if_pos h]; rfl) k
theorem k_imul {x y : Int} (hi : ins mid pc = some .imul) (h : -2147483648 ≤ x * y ∧ x * y ≤ 2147483647) (k : Ok d mid (pc + 1) ls (vI (x * y) :: st) M Q) : Ok d mid pc ls (vI y :: vI x :: st) M Q := ok_step (by rw [act_ins hi]; show pI _ _ _ _ _ _ = _; unfold pI; rw [if_pos h]; rfl) k
theorem k_ineg {x : Int} (hi : ins mid pc = some .ineg) (h : -2147483648 ≤ -x ∧ -x ≤ 2147483647) (k : Ok d mid (pc + 1) ls (vI (-x) :: st) M Q) : Ok d mid pc ls (vI x :: st) M Q := ok_step (by rw [act_ins hi]; show pI _ _ _ _ _ _ = _; unfold pI; rw [if_pos h]; rfl) k
theorem k_idiv {x y : Int} (hi : ins mid pc = some .idiv) (hy : ¬ y = 0) (h : inR (x.tdiv y)) (k : Ok d mid (pc + 1) ls (vI (x.tdiv y) :: st) M Q) : Ok d mid pc ls (vI y :: vI x :: st) M Q := ok_step (by rw [act_ins hi]; simp only [actI, bI, if_neg hy, pI]; rw [if_pos h]; rfl) k
theorem k_irem {x y : Int} (hi : ins mid pc = some .irem) (hy : ¬ y = 0) (h : inR (x.tmod y)) (k : Ok d mid (pc + 1) ls (vI (x.tmod y) :: st) M Q) : Ok d mid pc ls (vI y :: vI x :: st) M Q := ok_step (by rw [act_ins hi]; simp only [actI, bI, if_neg hy, pI]; rw [if_pos h]; rfl) k
theorem k_iand {x y z : Int} (hi : ins mid pc = some .iand) (hz : (Int32.ofInt x &&& Int32.ofInt y).toInt = z) (k : Ok d mid (pc + 1) ls (vI z :: st) M Q) : Ok d mid pc ls (vI y :: vI x :: st) M Q := ok_step (by rw [act_ins hi]; show pI _ _ _ _ _ _ = _; unfold pI; rw [if_pos (inR_toInt _), hz]; rfl) k
theorem k_ishl {x y z : Int} (hi : ins mid pc = some .ishl) (hz : (Int32.ofInt x <<< (Int32.ofInt y &&& 31)).toInt = z) (k : Ok d mid (pc + 1) ls (vI z :: st) M Q) : Ok d mid pc ls (vI y :: vI x :: st) M Q := ok_step (by rw [act_ins hi]; show pI _ _ _ _ _ _ = _; unfold pI; rw [if_pos (inR_toInt _), hz]; rfl) k
theorem k_ishr {x y z : Int} (hi : ins mid pc = some .ishr) (hz : (Int32.ofInt x >>> (Int32.ofInt y &&& 31)).toInt = z) (k : Ok d mid (pc + 1) ls (vI z :: st) M Q) : Ok d mid pc ls (vI y :: vI x :: st) M Q := ok_step (by rw [act_ins hi]; show pI _ _ _ _ _ _ = _; unfold pI; rw [if_pos (inR_toInt _), hz]; rfl) k
theorem k_i2b {x z : Int} (hi : ins mid pc = some .i2b) (hz : (Int32.ofInt x).toInt8.toInt32.toInt = z) (k : Ok d mid (pc + 1) ls (vI z :: st) M Q) : Ok d mid pc ls (vI x :: st) M Q := ok_step (by rw [act_ins hi]; simp only [actI, uI, pI]; rw [if_pos (inR_toInt _), hz]; rfl) k
theorem k_i2s {x z : Int} (hi : ins mid pc = some .i2s) (hz : (Int32.ofInt x).toInt16.toInt32.toInt = z) (k : Ok d mid (pc + 1) ls (vI z :: st) M Q) : Ok d mid pc ls (vI x :: st) M Q := ok_step (by rw [act_ins hi]; simp only [actI, uI, pI]; rw [if_pos (inR_toInt _), hz]; rfl) k
theorem k_i2l {x : Int} (hi : ins mid pc = some .i2l) (k : Ok d mid (pc + 1) ls (vL x :: st) M Q) : Ok d mid pc ls (vI x :: st) M Q := ok_step (by rw [act_ins hi]; rfl) k
theorem k_l2i {x : Int} (hi : ins mid pc = some .l2i) (h : inR x) (k : Ok d mid (pc + 1) ls (vI x :: st) M Q) : Ok d mid pc ls (vL x :: st) M Q := ok_step (by rw [act_ins hi]; show pI _ _ _ _ _ _ = _; unfold pI; rw [if_pos h]; rfl) k
theorem k_ladd {x y : Int} (hi : ins mid pc = some .ladd) (h : inL (x + y)) (k : Ok d mid (pc + 1) ls (vL (x + y) :: st) M Q) : Ok d mid pc ls (vL y :: vL x :: st) M Q := ok_step (by rw [act_ins hi]; show pL _ _ _ _ _ _ = _; unfold pL; rw [if_pos h]; rfl) k
theorem k_lmul {x y : Int} (hi : ins mid pc = some .lmul) (h : inL (x * y)) (k : Ok d mid (pc + 1) ls (vL (x * y) :: st) M Q) : Ok d mid pc ls (vL y :: vL x :: st) M Q := ok_step (by rw [act_ins hi]; show pL _ _ _ _ _ _ = _; unfold pL; rw [if_pos h]; rfl) k
theorem k_ldiv {x y : Int} (hi : ins mid pc = some .ldiv) (hy : ¬ y = 0) (h : inL (x.tdiv y)) (k : Ok d mid (pc + 1) ls (vL (x.tdiv y) :: st) M Q) : Ok d mid pc ls (vL y :: vL x :: st) M Q := ok_step (by rw [act_ins hi]; simp only [actI, bL, if_neg hy, pL]; rw [if_pos h]; rfl) k
theorem k_lrem {x y : Int} (hi : ins mid pc = some .lrem) (hy : ¬ y = 0) (h : inL (x.tmod y)) (k : Ok d mid (pc + 1) ls (vL (x.tmod y) :: st) M Q) : Ok d mid pc ls (vL y :: vL x :: st) M Q := ok_step (by rw [act_ins hi]; simp only [actI, bL, if_neg hy, pL]; rw [if_pos h]; rfl) k
theorem k_lcmp {x y : Int} (hi : ins mid pc = some .lcmp) (k : Ok d mid (pc + 1) ls (vI (if x < y then -1 else if x = y then 0 else 1) :: st) M Q) : Ok d mid pc ls (vL y :: vL x :: st) M Q := ok_step (by rw [act_ins hi]; rfl) k
theorem k_dupI {x : Int} (hi : ins mid pc = some .dup) (k : Ok d mid (pc + 1) ls (vI x :: vI x :: st) M Q) : Ok d mid pc ls (vI x :: st) M Q := ok_step (by rw [act_ins hi]; rfl) k
theorem k_dupR {x : Option Nat} (hi : ins mid pc = some .dup) (k : Ok d mid (pc + 1) ls (vR x :: vR x :: st) M Q) : Ok d mid pc ls (vR x :: st) M Q := ok_step (by rw [act_ins hi]; rfl) k
theorem k_dup2 {x : Int} {y : Option Nat} (hi : ins mid pc = some .dup2) (k : Ok d mid (pc + 1) ls (vI x :: vR y :: vI x :: vR y :: st) M Q) : Ok d mid pc ls (vI x :: vR y :: st) M Q := ok_step (by rw [act_ins hi]; rfl) k
theorem k_goto {off : Int} {t : Nat} (hi : ins mid pc = some (.goto off)) (ht : (pc : Int) + off = (t : Int)) (k : Ok d mid t ls st M Q) : Ok d mid pc ls st M Q := ok_step (by rw [act_ins hi]; show jmp _ _ _ _ _ _ = _; unfold jmp; rw [if_pos (by omega), show ((pc : Int) + off).toNat = t by omega]; rfl) k
theorem br_t' {b : Bool} {off : Int} {t : Nat} {S : List Sh} (ht : (pc : Int) + off = (t : Int)) (hb : b = true) : br b pc off ls st S M = some (.inl (t, ls, st, S, M)) := by
  unfold br
  rw [if_pos (by omega), if_pos hb, show ((pc : Int) + off).toNat = t by omega]
  rfl
theorem br_f' {b : Bool} {off : Int} {t : Nat} {S : List Sh} (ht : (pc : Int) + off = (t : Int)) (hb : b = false) : br b pc off ls st S M = some (.inl (pc + 3, ls, st, S, M)) := by
  unfold br
  rw [if_pos (by omega), hb]
  rfl
theorem k_if {x : Int} {off : Int} {t : Nat} {f : Int → Bool} {i : Instr} (hi : ins mid pc = some i) (hf : actI (mOwn mid) (decide ((mY mid).name = "<init>")) (mR mid) i pc ls (vI x :: st) SS M = br (f x) pc off ls st SS M) (ht : (pc : Int) + off = (t : Int)) (kt : f x = true → Ok d mid t ls st M Q) (kf : f x = false → Ok d mid (pc + 3) ls st M Q) : Ok d mid pc ls (vI x :: st) M Q := by
  by_cases h : f x = true
  · exact ok_step (by rw [act_ins hi, hf, br_t' ht h]) (kt h)
  · have h2 : f x = false := by simpa using h
    exact ok_step (by rw [act_ins hi, hf, br_f' ht h2]) (kf h2)
theorem k_icmp {x y : Int} {off : Int} {t : Nat} {f : Int → Int → Bool} {i : Instr} (hi : ins mid pc = some i) (hf : actI (mOwn mid) (decide ((mY mid).name = "<init>")) (mR mid) i pc ls (vI y :: vI x :: st) SS M = br (f x y) pc off ls st SS M) (ht : (pc : Int) + off = (t : Int)) (kt : f x y = true → Ok d mid t ls st M Q) (kf : f x y = false → Ok d mid (pc + 3) ls st M Q) : Ok d mid pc ls (vI y :: vI x :: st) M Q := by
  by_cases h : f x y = true
  · exact ok_step (by rw [act_ins hi, hf, br_t' ht h]) (kt h)
  · have h2 : f x y = false := by simpa using h
    exact ok_step (by rw [act_ins hi, hf, br_f' ht h2]) (kf h2)
theorem k_if_eq {x off : Int} {t : Nat} (hi : ins mid pc = some (.ifCond .eq off)) (ht : (pc : Int) + off = (t : Int)) (kt : x = 0 → Ok d mid t ls st M Q) (kf : ¬ x = 0 → Ok d mid (pc + 3) ls st M Q) : Ok d mid pc ls (vI x :: st) M Q := k_if (f := fun x => decide (x = 0)) hi rfl ht (fun h => kt (of_decide_eq_true h)) (fun h => kf (of_decide_eq_false h))
theorem k_if_ne {x off : Int} {t : Nat} (hi : ins mid pc = some (.ifCond .ne off)) (ht : (pc : Int) + off = (t : Int)) (kt : ¬ x = 0 → Ok d mid t ls st M Q) (kf : x = 0 → Ok d mid (pc + 3) ls st M Q) : Ok d mid pc ls (vI x :: st) M Q := k_if (f := fun x => decide (¬ x = 0)) hi rfl ht (fun h => kt (of_decide_eq_true h)) (fun h => kf (Decidable.not_not.mp (of_decide_eq_false h)))
theorem k_if_lt {x off : Int} {t : Nat} (hi : ins mid pc = some (.ifCond .lt off)) (ht : (pc : Int) + off = (t : Int)) (kt : x < 0 → Ok d mid t ls st M Q) (kf : ¬ x < 0 → Ok d mid (pc + 3) ls st M Q) : Ok d mid pc ls (vI x :: st) M Q := k_if (f := fun x => decide (x < 0)) hi rfl ht (fun h => kt (of_decide_eq_true h)) (fun h => kf (of_decide_eq_false h))
theorem k_if_ge {x off : Int} {t : Nat} (hi : ins mid pc = some (.ifCond .ge off)) (ht : (pc : Int) + off = (t : Int)) (kt : 0 ≤ x → Ok d mid t ls st M Q) (kf : ¬ 0 ≤ x → Ok d mid (pc + 3) ls st M Q) : Ok d mid pc ls (vI x :: st) M Q := k_if (f := fun x => decide (0 ≤ x)) hi rfl ht (fun h => kt (of_decide_eq_true h)) (fun h => kf (of_decide_eq_false h))
theorem k_if_gt {x off : Int} {t : Nat} (hi : ins mid pc = some (.ifCond .gt off)) (ht : (pc : Int) + off = (t : Int)) (kt : 0 < x → Ok d mid t ls st M Q) (kf : ¬ 0 < x → Ok d mid (pc + 3) ls st M Q) : Ok d mid pc ls (vI x :: st) M Q := k_if (f := fun x => decide (0 < x)) hi rfl ht (fun h => kt (of_decide_eq_true h)) (fun h => kf (of_decide_eq_false h))
theorem k_if_le {x off : Int} {t : Nat} (hi : ins mid pc = some (.ifCond .le off)) (ht : (pc : Int) + off = (t : Int)) (kt : x ≤ 0 → Ok d mid t ls st M Q) (kf : ¬ x ≤ 0 → Ok d mid (pc + 3) ls st M Q) : Ok d mid pc ls (vI x :: st) M Q := k_if (f := fun x => decide (x ≤ 0)) hi rfl ht (fun h => kt (of_decide_eq_true h)) (fun h => kf (of_decide_eq_false h))
theorem k_icmp_eq {x y off : Int} {t : Nat} (hi : ins mid pc = some (.if_icmp .eq off)) (ht : (pc : Int) + off = (t : Int)) (kt : x = y → Ok d mid t ls st M Q) (kf : ¬ x = y → Ok d mid (pc + 3) ls st M Q) : Ok d mid pc ls (vI y :: vI x :: st) M Q := k_icmp (f := fun x y => decide (x = y)) hi rfl ht (fun h => kt (of_decide_eq_true h)) (fun h => kf (of_decide_eq_false h))
theorem k_icmp_ne {x y off : Int} {t : Nat} (hi : ins mid pc = some (.if_icmp .ne off)) (ht : (pc : Int) + off = (t : Int)) (kt : ¬ x = y → Ok d mid t ls st M Q) (kf : x = y → Ok d mid (pc + 3) ls st M Q) : Ok d mid pc ls (vI y :: vI x :: st) M Q := k_icmp (f := fun x y => decide (¬ x = y)) hi rfl ht (fun h => kt (of_decide_eq_true h)) (fun h => kf (Decidable.not_not.mp (of_decide_eq_false h)))
theorem k_icmp_lt {x y off : Int} {t : Nat} (hi : ins mid pc = some (.if_icmp .lt off)) (ht : (pc : Int) + off = (t : Int)) (kt : x < y → Ok d mid t ls st M Q) (kf : ¬ x < y → Ok d mid (pc + 3) ls st M Q) : Ok d mid pc ls (vI y :: vI x :: st) M Q := k_icmp (f := fun x y => decide (x < y)) hi rfl ht (fun h => kt (of_decide_eq_true h)) (fun h => kf (of_decide_eq_false h))
theorem k_icmp_ge {x y off : Int} {t : Nat} (hi : ins mid pc = some (.if_icmp .ge off)) (ht : (pc : Int) + off = (t : Int)) (kt : y ≤ x → Ok d mid t ls st M Q) (kf : ¬ y ≤ x → Ok d mid (pc + 3) ls st M Q) : Ok d mid pc ls (vI y :: vI x :: st) M Q := k_icmp (f := fun x y => decide (y ≤ x)) hi rfl ht (fun h => kt (of_decide_eq_true h)) (fun h => kf (of_decide_eq_false h))
theorem k_icmp_gt {x y off : Int} {t : Nat} (hi : ins mid pc = some (.if_icmp .gt off)) (ht : (pc : Int) + off = (t : Int)) (kt : y < x → Ok d mid t ls st M Q) (kf : ¬ y < x → Ok d mid (pc + 3) ls st M Q) : Ok d mid pc ls (vI y :: vI x :: st) M Q := k_icmp (f := fun x y => decide (y < x)) hi rfl ht (fun h => kt (of_decide_eq_true h)) (fun h => kf (of_decide_eq_false h))
theorem k_icmp_le {x y off : Int} {t : Nat} (hi : ins mid pc = some (.if_icmp .le off)) (ht : (pc : Int) + off = (t : Int)) (kt : x ≤ y → Ok d mid t ls st M Q) (kf : ¬ x ≤ y → Ok d mid (pc + 3) ls st M Q) : Ok d mid pc ls (vI y :: vI x :: st) M Q := k_icmp (f := fun x y => decide (x ≤ y)) hi rfl ht (fun h => kt (of_decide_eq_true h)) (fun h => kf (of_decide_eq_false h))
theorem k_tab {x dflt lo hi' off : Int} {offs : Array Int} {t : Nat} (hi : ins mid pc = some (.tableswitch dflt lo hi' offs)) (ho : (if x < lo ∨ hi' < x then some dflt else offs[(x - lo).toNat]?) = some off) (ht : (pc : Int) + off = (t : Int)) (k : Ok d mid t ls st M Q) : Ok d mid pc ls (vI x :: st) M Q := ok_step (by
  rw [act_ins hi]
  simp only [actI, aTab]
  split at ho
  · next h =>
    have e := Option.some.inj ho
    rw [if_pos h, e]
    unfold jmp
    rw [if_pos (by omega), show ((pc : Int) + off).toNat = t by omega]
    rfl
  · next h =>
    rw [if_neg h, ho]
    simp only
    unfold jmp
    rw [if_pos (by omega), show ((pc : Int) + off).toNat = t by omega]
    rfl) k
theorem k_look {x dflt off : Int} {ps : Array (Int × Int)} {t : Nat} (hi : ins mid pc = some (.lookupswitch dflt ps)) (hs : (ps.toList.zip (ps.toList.drop 1)).all (fun (a, next) => a.1 < next.1) = true) (ho : Op.lookupswitch.offset ps.toList dflt x = off) (ht : (pc : Int) + off = (t : Int)) (k : Ok d mid t ls st M Q) : Ok d mid pc ls (vI x :: st) M Q := ok_step (by
  rw [act_ins hi]
  simp only [actI, aLook]
  rw [if_pos hs, ho]
  unfold jmp
  rw [if_pos (by omega), show ((pc : Int) + off).toNat = t by omega]
  rfl) k
theorem k_getI {o idx a ci kf n : Nat} {kz : Int} {rf : List (Option Nat)} (hi : ins mid pc = some (.getfield idx)) (ho : mOwn mid = o) (hk : lk poolF (o * 1000 + idx) = some (ci, kf)) (hc : kf < fnum ci ∧ ¬ fty ci kf = 1) (hs : SS[a]? = some (ci, n, rf)) (hz : ((kf : Nat) : Int) = kz) (k : Ok d mid (pc + 3) ls (vI (M a kz) :: st) M Q) : Ok d mid pc ls (vR (some a) :: st) M Q := ok_step (by
  rw [act_ins hi, ho]
  simp only [actI, aGetf, hk, hs]
  rw [if_pos ⟨trivial, hc.1⟩, if_neg hc.2, hz]
  rfl) k
theorem k_getR {o idx a ci kf n r : Nat} {rf : List (Option Nat)} (hi : ins mid pc = some (.getfield idx)) (ho : mOwn mid = o) (hk : lk poolF (o * 1000 + idx) = some (ci, kf)) (hc : kf < fnum ci ∧ fty ci kf = 1) (hs : SS[a]? = some (ci, n, rf)) (hz : rf.getD kf none = some r) (k : Ok d mid (pc + 3) ls (vR (some r) :: st) M Q) : Ok d mid pc ls (vR (some a) :: st) M Q := ok_step (by
  rw [act_ins hi, ho]
  simp only [actI, aGetf, hk, hs]
  rw [if_pos ⟨trivial, hc.1⟩, if_pos hc.2, hz]
  rfl) k
theorem k_putI {o idx a ci kf n : Nat} {kz x : Int} {rf : List (Option Nat)} (hi : ins mid pc = some (.putfield idx)) (ho : mOwn mid = o) (hk : lk poolF (o * 1000 + idx) = some (ci, kf)) (hc : kf < fnum ci ∧ ffi ci kf = false ∧ fty ci kf = 0) (hs : SS[a]? = some (ci, n, rf)) (hz : ((kf : Nat) : Int) = kz) (k : Ok d mid (pc + 3) ls st (mu M a kz x) Q) : Ok d mid pc ls (vI x :: vR (some a) :: st) M Q := ok_step (by
  rw [act_ins hi, ho]
  simp only [actI, aPutf, hk, hs]
  rw [if_pos ⟨trivial, hc.1, Or.inl hc.2.1⟩, if_pos (Or.inl hc.2.2), hz]
  rfl) k
theorem k_putZ {o idx a ci kf n : Nat} {kz x : Int} {rf : List (Option Nat)} (hi : ins mid pc = some (.putfield idx)) (ho : mOwn mid = o) (hk : lk poolF (o * 1000 + idx) = some (ci, kf)) (hc : kf < fnum ci ∧ ffi ci kf = false ∧ fty ci kf = 2) (hs : SS[a]? = some (ci, n, rf)) (hz : ((kf : Nat) : Int) = kz) (hx : x = 0 ∨ x = 1) (k : Ok d mid (pc + 3) ls st (mu M a kz x) Q) : Ok d mid pc ls (vI x :: vR (some a) :: st) M Q := ok_step (by
  rw [act_ins hi, ho]
  simp only [actI, aPutf, hk, hs]
  rw [if_pos ⟨trivial, hc.1, Or.inl hc.2.1⟩, if_pos (Or.inr ⟨hc.2.2, hx⟩), hz]
  rfl) k
theorem k_gets {o idx j : Nat} (hi : ins mid pc = some (.getstatic idx)) (ho : mOwn mid = o) (hk : lk poolS (o * 1000 + idx) = some j) (hj : j < 3) (k : Ok d mid (pc + 3) ls (vR (some (1000000 + j)) :: st) M Q) : Ok d mid pc ls st M Q := ok_step (by
  rw [act_ins hi, ho]
  simp only [actI, aGets, hk]
  rw [if_pos hj]
  rfl) k
theorem SS_len : SS.length = 289 := by decide +kernel
theorem S_small {a : Nat} {h : Sh} (hs : SS[a]? = some h) : ¬ 1000000 ≤ a := by
  have h1 := (List.getElem?_eq_some_iff.mp hs).1
  rw [SS_len] at h1
  omega
theorem k_iald {a n : Nat} {i : Int} {rf : List (Option Nat)} (hi : ins mid pc = some .iaload) (hs : SS[a]? = some (20, n, rf)) (hb : 0 ≤ i ∧ i < (n : Int)) (k : Ok d mid (pc + 1) ls (vI (M a i) :: st) M Q) : Ok d mid pc ls (vI i :: vR (some a) :: st) M Q := ok_step (by
  rw [act_ins hi]
  simp only [actI, aIald, hs]
  rw [if_pos hb.1, if_neg (S_small hs), if_pos ⟨trivial, hb.2⟩]
  rfl) k
theorem k_ialdS {j : Nat} {i x : Int} (hi : ins mid pc = some .iaload) (hj : j < 3) (h0 : 0 ≤ i) (hx : (sT j)[i.toNat]? = some x) (k : Ok d mid (pc + 1) ls (vI x :: st) M Q) : Ok d mid pc ls (vI i :: vR (some (1000000 + j)) :: st) M Q := ok_step (by
  rw [act_ins hi]
  simp only [actI, aIald]
  rw [if_pos h0, if_pos (by omega), if_pos (by omega), Nat.add_sub_cancel_left, hx]
  rfl) k
theorem k_iast {a n : Nat} {i x : Int} {rf : List (Option Nat)} (hi : ins mid pc = some .iastore) (hs : SS[a]? = some (20, n, rf)) (hb : 0 ≤ i ∧ i < (n : Int)) (k : Ok d mid (pc + 1) ls st (mu M a i x) Q) : Ok d mid pc ls (vI x :: vI i :: vR (some a) :: st) M Q := ok_step (by
  rw [act_ins hi]
  simp only [actI, aIast, hs]
  rw [if_pos ⟨trivial, hb.1, hb.2⟩]
  rfl) k
theorem k_bald {a n : Nat} {i : Int} {rf : List (Option Nat)} (hi : ins mid pc = some .baload) (hs : SS[a]? = some (21, n, rf)) (hb : 0 ≤ i ∧ i < (n : Int)) (k : Ok d mid (pc + 1) ls (vI (M a i) :: st) M Q) : Ok d mid pc ls (vI i :: vR (some a) :: st) M Q := ok_step (by
  rw [act_ins hi]
  simp only [actI, aBald, hs]
  rw [if_pos ⟨trivial, hb.1, hb.2⟩]
  rfl) k
theorem k_bast {a n : Nat} {i x : Int} {rf : List (Option Nat)} (hi : ins mid pc = some .bastore) (hs : SS[a]? = some (21, n, rf)) (hb : 0 ≤ i ∧ i < (n : Int)) (hx : x = 0 ∨ x = 1) (k : Ok d mid (pc + 1) ls st (mu M a i x) Q) : Ok d mid pc ls (vI x :: vI i :: vR (some a) :: st) M Q := ok_step (by
  rw [act_ins hi]
  simp only [actI, aBast, hs]
  rw [if_pos ⟨trivial, hb.1, hb.2, hx⟩]
  rfl) k
theorem k_aald {a n kd r : Nat} {i : Int} {rf : List (Option Nat)} (hi : ins mid pc = some .aaload) (hs : SS[a]? = some (kd, n, rf)) (hk : kd = 22 ∨ kd = 23 ∨ kd = 24) (hb : 0 ≤ i ∧ i < (n : Int)) (hr : rf.getD i.toNat none = some r) (k : Ok d mid (pc + 1) ls (vR (some r) :: st) M Q) : Ok d mid pc ls (vI i :: vR (some a) :: st) M Q := ok_step (by
  rw [act_ins hi]
  simp only [actI, aAald, hs]
  rw [if_pos ⟨hk, hb.1, hb.2⟩, hr]
  rfl) k
theorem k_alen {a n kd : Nat} {z : Int} {rf : List (Option Nat)} (hi : ins mid pc = some .arraylength) (hs : SS[a]? = some (kd, n, rf)) (hk : 20 ≤ kd ∧ kd ≤ 24 ∧ n < 2147483648) (hz : (n : Int) = z) (k : Ok d mid (pc + 1) ls (vI z :: st) M Q) : Ok d mid pc ls (vR (some a) :: st) M Q := ok_step (by
  rw [act_ins hi]
  simp only [actI, aAlen, hs]
  rw [if_pos hk, hz]
  rfl) k
def vFacts (mid n o : Nat) : Prop := mid < 1000 ∧ mS mid = false ∧ (mY mid).name ≠ "<init>" ∧ mP mid = n ∧ mOwn mid = o
def sFacts (mid n : Nat) : Prop := mid < 1000 ∧ mS mid = true ∧ mP mid = n
theorem k_invV {o idx mid' n o' a nn : Nat} {av rest : List Vv} {el : Lv} {rf : List (Option Nat)} (hi : ins mid pc = some (.invokevirtual idx)) (ho : mOwn mid = o) (hk : lk poolM (o * 1000 + idx) = some mid') (hv : vFacts mid' n o') (hd : st.drop n = vR (some a) :: rest) (hs : SS[a]? = some (o', nn, rf)) (hc : Nat.ble (catS rest) 8 = true) (hn : Nat.ble n st.length = true) (ht : vR (some a) :: (st.take n).reverse = av) (he : entryL mid' av = el) (hl : Nat.ble (eLoc av).length (mL mid') = true)
    (k : Ok d mid' 0 el [] M (fun r M' => Ok (d + 1) mid (pc + 3) ls (r.toList ++ rest) M' Q)) : Ok (d + 1) mid pc ls st M Q := by
  obtain ⟨v1, v2, v3, v4, v5⟩ := hv
  refine ok_call (mid' := mid') (av := av) (rest := rest) ?_ he hl k
  rw [act_ins hi, ho]
  simp only [actI, aInvV, hk]
  rw [if_pos ⟨v1, v2, v3⟩, v4, hd]
  simp only [hs]
  rw [if_pos ⟨v5.symm, Nat.le_of_ble_eq_true hc, Nat.le_of_ble_eq_true hn⟩, ht]
theorem k_invS {o idx mid' n : Nat} {av rest : List Vv} {el : Lv} (hi : ins mid pc = some (.invokestatic idx)) (ho : mOwn mid = o) (hk : lk poolM (o * 1000 + idx) = some mid') (hv : sFacts mid' n) (hd : st.drop n = rest) (hc : Nat.ble (catS rest) 8 = true) (hn : Nat.ble n st.length = true) (ht : (st.take n).reverse = av) (he : entryL mid' av = el) (hl : Nat.ble (eLoc av).length (mL mid') = true)
    (k : Ok d mid' 0 el [] M (fun r M' => Ok (d + 1) mid (pc + 3) ls (r.toList ++ rest) M' Q)) : Ok (d + 1) mid pc ls st M Q := by
  obtain ⟨v1, v2, v4⟩ := hv
  refine ok_call (mid' := mid') (av := av) (rest := rest) ?_ he hl k
  rw [act_ins hi, ho]
  simp only [actI, aInvS, hk]
  rw [if_neg (by omega), if_neg (by omega), if_neg (by omega), v4, hd]
  rw [if_pos ⟨v1, v2, Nat.le_of_ble_eq_true hc, Nat.le_of_ble_eq_true hn⟩, ht]
theorem k_max {o idx : Nat} {x y : Int} (hi : ins mid pc = some (.invokestatic idx)) (ho : mOwn mid = o) (hk : lk poolM (o * 1000 + idx) = some 1002) (hc : Nat.ble (catS st) 8 = true) (k : Ok d mid (pc + 3) ls (vI (if x < y then y else x) :: st) M Q) : Ok d mid pc ls (vI y :: vI x :: st) M Q := ok_step (by
  rw [act_ins hi, ho]
  simp only [actI, aInvS, hk]
  rw [if_neg (by decide), if_pos trivial, if_pos (Nat.le_of_ble_eq_true hc)]
  rfl) k
theorem k_min {o idx : Nat} {x y : Int} (hi : ins mid pc = some (.invokestatic idx)) (ho : mOwn mid = o) (hk : lk poolM (o * 1000 + idx) = some 1003) (hc : Nat.ble (catS st) 8 = true) (k : Ok d mid (pc + 3) ls (vI (if y < x then y else x) :: st) M Q) : Ok d mid pc ls (vI y :: vI x :: st) M Q := ok_step (by
  rw [act_ins hi, ho]
  simp only [actI, aInvS, hk]
  rw [if_neg (by decide), if_neg (by decide), if_pos trivial, if_pos (Nat.le_of_ble_eq_true hc)]
  rfl) k
theorem k_copy {o idx a b na nb : Nat} {n dp sp : Int} {ra rb : List (Option Nat)} (hi : ins mid pc = some (.invokestatic idx)) (ho : mOwn mid = o) (hk : lk poolM (o * 1000 + idx) = some 1000) (hsa : SS[a]? = some (20, na, ra)) (hsb : SS[b]? = some (20, nb, rb)) (hn : 0 ≤ n ∧ 0 ≤ sp ∧ 0 ≤ dp ∧ sp + n ≤ na ∧ dp + n ≤ nb) (hc : Nat.ble (catS st) 8 = true) (k : Ok d mid (pc + 3) ls st (mcp M a sp b dp n) Q) : Ok d mid pc ls (vI n :: vI dp :: vR (some b) :: vI sp :: vR (some a) :: st) M Q := ok_step (by
  rw [act_ins hi, ho]
  simp only [actI, aInvS, hk, hsa, hsb]
  rw [if_pos trivial, if_pos ⟨trivial, trivial, hn.1, hn.2.1, hn.2.2.1, hn.2.2.2.1, hn.2.2.2.2, Nat.le_of_ble_eq_true hc⟩]
  rfl) k
theorem k_iret {x : Int} (hi : ins mid pc = some .ireturn) (hr : mR mid = some .int) (k : Q (some (vI x)) M) : Ok d mid pc ls [vI x] M Q := ok_ret (by rw [act_ins hi, hr]; rfl) k
theorem k_zret {x : Int} (hi : ins mid pc = some .ireturn) (hr : mR mid = some .boolean) (hx : x = 0 ∨ x = 1) (k : Q (some (vI x)) M) : Ok d mid pc ls [vI x] M Q := ok_ret (by rw [act_ins hi, hr]; show (if _ then _ else _) = _; rw [if_pos hx]) k
theorem k_lret {x : Int} (hi : ins mid pc = some .lreturn) (hr : mR mid = some .long) (k : Q (some (vL x)) M) : Ok d mid pc ls [vL x] M Q := ok_ret (by rw [act_ins hi, hr]; rfl) k
theorem k_aret {x : Nat} {C : String} (hi : ins mid pc = some .areturn) (hr : mR mid = some (.object C)) (k : Q (some (vR (some x))) M) : Ok d mid pc ls [vR (some x)] M Q := ok_ret (by rw [act_ins hi, hr]; rfl) k
theorem k_vret (hi : ins mid pc = some .return_) (hr : mR mid = none) (k : Q none M) : Ok d mid pc ls [] M Q := ok_ret (by rw [act_ins hi, hr]; rfl) k
end OKS
end
section
theorem v_1 : vFacts 1 0 0 := by unfold vFacts; decide +kernel
theorem v_2 : vFacts 2 0 0 := by unfold vFacts; decide +kernel
theorem v_3 : vFacts 3 1 0 := by unfold vFacts; decide +kernel
theorem v_4 : vFacts 4 1 0 := by unfold vFacts; decide +kernel
theorem v_6 : sFacts 6 2 := by unfold sFacts; decide +kernel
theorem v_7 : vFacts 7 1 1 := by unfold vFacts; decide +kernel
theorem v_8 : vFacts 8 2 1 := by unfold vFacts; decide +kernel
theorem v_9 : vFacts 9 3 1 := by unfold vFacts; decide +kernel
theorem v_10 : sFacts 10 2 := by unfold sFacts; decide +kernel
theorem v_11 : vFacts 11 3 1 := by unfold vFacts; decide +kernel
theorem v_12 : vFacts 12 1 1 := by unfold vFacts; decide +kernel
theorem v_14 : sFacts 14 2 := by unfold sFacts; decide +kernel
theorem v_15 : vFacts 15 1 2 := by unfold vFacts; decide +kernel
theorem v_16 : vFacts 16 4 2 := by unfold vFacts; decide +kernel
theorem v_17 : vFacts 17 3 2 := by unfold vFacts; decide +kernel
theorem v_18 : vFacts 18 0 2 := by unfold vFacts; decide +kernel
theorem v_19 : vFacts 19 2 2 := by unfold vFacts; decide +kernel
theorem v_20 : vFacts 20 1 2 := by unfold vFacts; decide +kernel
theorem v_21 : vFacts 21 1 2 := by unfold vFacts; decide +kernel
theorem v_22 : vFacts 22 2 2 := by unfold vFacts; decide +kernel
theorem v_23 : vFacts 23 1 2 := by unfold vFacts; decide +kernel
theorem v_24 : vFacts 24 4 2 := by unfold vFacts; decide +kernel
theorem v_25 : vFacts 25 4 2 := by unfold vFacts; decide +kernel
theorem v_26 : vFacts 26 2 2 := by unfold vFacts; decide +kernel
theorem v_27 : sFacts 27 2 := by unfold sFacts; decide +kernel
theorem v_28 : vFacts 28 2 2 := by unfold vFacts; decide +kernel
theorem v_30 : vFacts 30 0 3 := by unfold vFacts; decide +kernel
theorem v_31 : vFacts 31 1 3 := by unfold vFacts; decide +kernel
theorem v_32 : vFacts 32 0 3 := by unfold vFacts; decide +kernel
theorem v_33 : vFacts 33 0 3 := by unfold vFacts; decide +kernel
theorem v_34 : vFacts 34 1 3 := by unfold vFacts; decide +kernel
theorem v_35 : vFacts 35 1 3 := by unfold vFacts; decide +kernel
theorem v_36 : vFacts 36 1 3 := by unfold vFacts; decide +kernel
theorem v_37 : vFacts 37 1 3 := by unfold vFacts; decide +kernel
theorem v_38 : vFacts 38 1 3 := by unfold vFacts; decide +kernel
theorem v_39 : vFacts 39 1 3 := by unfold vFacts; decide +kernel
theorem v_40 : vFacts 40 0 3 := by unfold vFacts; decide +kernel
theorem v_41 : vFacts 41 1 3 := by unfold vFacts; decide +kernel
theorem v_42 : sFacts 42 1 := by unfold sFacts; decide +kernel
theorem v_43 : sFacts 43 1 := by unfold sFacts; decide +kernel
theorem v_45 : sFacts 45 1 := by unfold sFacts; decide +kernel
theorem v_46 : sFacts 46 1 := by unfold sFacts; decide +kernel
theorem v_47 : vFacts 47 1 4 := by unfold vFacts; decide +kernel
theorem v_48 : vFacts 48 1 4 := by unfold vFacts; decide +kernel
theorem v_49 : vFacts 49 2 4 := by unfold vFacts; decide +kernel
theorem v_50 : vFacts 50 3 4 := by unfold vFacts; decide +kernel
theorem v_51 : vFacts 51 3 4 := by unfold vFacts; decide +kernel
theorem v_52 : vFacts 52 3 4 := by unfold vFacts; decide +kernel
theorem v_53 : vFacts 53 5 4 := by unfold vFacts; decide +kernel
theorem v_54 : vFacts 54 1 4 := by unfold vFacts; decide +kernel
theorem v_55 : vFacts 55 0 4 := by unfold vFacts; decide +kernel
theorem v_57 : vFacts 57 0 5 := by unfold vFacts; decide +kernel
theorem v_58 : vFacts 58 4 5 := by unfold vFacts; decide +kernel
theorem v_59 : vFacts 59 1 5 := by unfold vFacts; decide +kernel
theorem v_61 : vFacts 61 0 6 := by unfold vFacts; decide +kernel
theorem v_62 : vFacts 62 1 6 := by unfold vFacts; decide +kernel
theorem v_63 : vFacts 63 1 6 := by unfold vFacts; decide +kernel
theorem v_64 : vFacts 64 2 6 := by unfold vFacts; decide +kernel
theorem v_65 : vFacts 65 1 6 := by unfold vFacts; decide +kernel
theorem v_66 : vFacts 66 1 6 := by unfold vFacts; decide +kernel
theorem v_67 : vFacts 67 1 6 := by unfold vFacts; decide +kernel
theorem v_68 : vFacts 68 0 6 := by unfold vFacts; decide +kernel
theorem v_69 : vFacts 69 0 6 := by unfold vFacts; decide +kernel
theorem v_70 : vFacts 70 1 6 := by unfold vFacts; decide +kernel
theorem v_71 : vFacts 71 2 6 := by unfold vFacts; decide +kernel
theorem v_72 : vFacts 72 1 6 := by unfold vFacts; decide +kernel
theorem v_73 : vFacts 73 0 6 := by unfold vFacts; decide +kernel
theorem v_74 : vFacts 74 1 6 := by unfold vFacts; decide +kernel
theorem v_75 : vFacts 75 2 6 := by unfold vFacts; decide +kernel
theorem v_76 : vFacts 76 0 6 := by unfold vFacts; decide +kernel
theorem v_77 : vFacts 77 1 6 := by unfold vFacts; decide +kernel
theorem v_78 : vFacts 78 2 6 := by unfold vFacts; decide +kernel
theorem v_79 : vFacts 79 1 6 := by unfold vFacts; decide +kernel
theorem v_80 : vFacts 80 1 6 := by unfold vFacts; decide +kernel
theorem v_81 : vFacts 81 1 6 := by unfold vFacts; decide +kernel
theorem v_82 : vFacts 82 1 6 := by unfold vFacts; decide +kernel
theorem v_83 : vFacts 83 0 6 := by unfold vFacts; decide +kernel
theorem v_117 : sFacts 117 2 := by unfold sFacts; decide +kernel
theorem v_118 : vFacts 118 1 7 := by unfold vFacts; decide +kernel
theorem v_119 : vFacts 119 1 7 := by unfold vFacts; decide +kernel
theorem v_120 : vFacts 120 1 7 := by unfold vFacts; decide +kernel
theorem v_122 : sFacts 122 3 := by unfold sFacts; decide +kernel
theorem v_123 : vFacts 123 1 8 := by unfold vFacts; decide +kernel
theorem v_124 : vFacts 124 1 8 := by unfold vFacts; decide +kernel
theorem v_125 : sFacts 125 1 := by unfold sFacts; decide +kernel
theorem v_131 : vFacts 131 1 8 := by unfold vFacts; decide +kernel
theorem v_132 : sFacts 132 1 := by unfold sFacts; decide +kernel
theorem v_133 : vFacts 133 1 8 := by unfold vFacts; decide +kernel
theorem v_134 : vFacts 134 1 8 := by unfold vFacts; decide +kernel
theorem v_135 : sFacts 135 1 := by unfold sFacts; decide +kernel
theorem v_136 : vFacts 136 1 8 := by unfold vFacts; decide +kernel
theorem v_137 : vFacts 137 0 8 := by unfold vFacts; decide +kernel
theorem v_138 : vFacts 138 0 8 := by unfold vFacts; decide +kernel
theorem v_139 : vFacts 139 0 8 := by unfold vFacts; decide +kernel
theorem v_142 : vFacts 142 0 8 := by unfold vFacts; decide +kernel
theorem v_143 : vFacts 143 1 8 := by unfold vFacts; decide +kernel
theorem v_144 : vFacts 144 0 8 := by unfold vFacts; decide +kernel
theorem v_145 : vFacts 145 1 8 := by unfold vFacts; decide +kernel
theorem v_146 : vFacts 146 1 8 := by unfold vFacts; decide +kernel
theorem v_147 : vFacts 147 1 8 := by unfold vFacts; decide +kernel
theorem v_148 : vFacts 148 0 8 := by unfold vFacts; decide +kernel
theorem v_149 : vFacts 149 1 8 := by unfold vFacts; decide +kernel
theorem v_150 : vFacts 150 1 8 := by unfold vFacts; decide +kernel
theorem v_151 : vFacts 151 0 8 := by unfold vFacts; decide +kernel
theorem v_152 : vFacts 152 1 8 := by unfold vFacts; decide +kernel
theorem v_153 : vFacts 153 1 8 := by unfold vFacts; decide +kernel
theorem v_154 : vFacts 154 0 8 := by unfold vFacts; decide +kernel
theorem v_156 : vFacts 156 1 8 := by unfold vFacts; decide +kernel
theorem v_157 : vFacts 157 2 8 := by unfold vFacts; decide +kernel
theorem v_159 : vFacts 159 1 8 := by unfold vFacts; decide +kernel
theorem v_165 : vFacts 165 0 8 := by unfold vFacts; decide +kernel
theorem v_166 : vFacts 166 0 8 := by unfold vFacts; decide +kernel
theorem v_167 : vFacts 167 1 8 := by unfold vFacts; decide +kernel
theorem v_168 : vFacts 168 1 8 := by unfold vFacts; decide +kernel
theorem v_171 : vFacts 171 0 8 := by unfold vFacts; decide +kernel
theorem v_175 : vFacts 175 1 8 := by unfold vFacts; decide +kernel
theorem v_177 : vFacts 177 1 8 := by unfold vFacts; decide +kernel
theorem v_178 : vFacts 178 0 8 := by unfold vFacts; decide +kernel
theorem v_180 : sFacts 180 2 := by unfold sFacts; decide +kernel
theorem v_181 : sFacts 181 2 := by unfold sFacts; decide +kernel
theorem v_182 : sFacts 182 1 := by unfold sFacts; decide +kernel
theorem v_185 : vFacts 185 3 8 := by unfold vFacts; decide +kernel
theorem v_190 : sFacts 190 1 := by unfold sFacts; decide +kernel
theorem v_192 : vFacts 192 1 8 := by unfold vFacts; decide +kernel
theorem v_193 : vFacts 193 1 8 := by unfold vFacts; decide +kernel
theorem v_194 : vFacts 194 1 8 := by unfold vFacts; decide +kernel
theorem v_195 : vFacts 195 1 8 := by unfold vFacts; decide +kernel
theorem v_196 : vFacts 196 1 8 := by unfold vFacts; decide +kernel
theorem v_197 : vFacts 197 1 8 := by unfold vFacts; decide +kernel
theorem v_198 : vFacts 198 1 8 := by unfold vFacts; decide +kernel
theorem v_199 : vFacts 199 1 8 := by unfold vFacts; decide +kernel
theorem v_200 : vFacts 200 1 8 := by unfold vFacts; decide +kernel
theorem v_203 : vFacts 203 0 8 := by unfold vFacts; decide +kernel
end
section
def mfill (M : Mem) (a : Nat) (lo hi v : Int) : Mem := fun b j => if b = a ∧ lo ≤ j ∧ j < hi then v else M b j
theorem mfill_0 (M : Mem) (a : Nat) (lo v : Int) : mfill M a lo lo v = M := by
  funext b j
  unfold mfill
  rw [if_neg (by omega)]
theorem mfill_s {M : Mem} {a : Nat} {lo hi v : Int} (h : lo ≤ hi) : mu (mfill M a lo hi v) a hi v = mfill M a lo (hi + 1) v := by
  funext b j
  unfold mu mfill
  by_cases e : b = a ∧ j = hi
  · rw [if_pos e, if_pos (by omega)]
  · rw [if_neg e]
    by_cases e2 : b = a ∧ lo ≤ j ∧ j < hi
    · rw [if_pos e2, if_pos (by omega)]
    · rw [if_neg e2, if_neg (by omega)]
/-- a row's cell -/
theorem rw_sh {r : Int} (h : 0 ≤ r ∧ r < 8) : SS[3 + r.toNat]? = some (20, 40, []) := by
  obtain ⟨n, rfl⟩ : ∃ n : Nat, r = n := ⟨r.toNat, by omega⟩
  rw [Int.toNat_natCast]
  rcases (show n = 0 ∨ n = 1 ∨ n = 2 ∨ n = 3 ∨ n = 4 ∨ n = 5 ∨ n = 6 ∨ n = 7 by omega) with rfl | rfl | rfl | rfl | rfl | rfl | rfl | rfl
  · exact s_3
  · exact s_4
  · exact s_5
  · exact s_6
  · exact s_7
  · exact s_8
  · exact s_9
  · exact s_10
theorem rw_rf {r : Int} (h : 0 ≤ r ∧ r < 8) : [some 3, some 4, some 5, some 6, some 7, some 8, some 9, some 10].getD r.toNat none = some (3 + r.toNat) := by
  obtain ⟨n, rfl⟩ : ∃ n : Nat, r = n := ⟨r.toNat, by omega⟩
  rw [Int.toNat_natCast]
  rcases (show n = 0 ∨ n = 1 ∨ n = 2 ∨ n = 3 ∨ n = 4 ∨ n = 5 ∨ n = 6 ∨ n = 7 by omega) with rfl | rfl | rfl | rfl | rfl | rfl | rfl | rfl <;> rfl
/-- an item cut to its lane -/
def cutF (lane v : Int) : Int := if lane = 0 then (Int32.ofInt v).toInt8.toInt32.toInt else if lane = 1 then (Int32.ofInt v).toInt16.toInt32.toInt else v

/-- ElbowQueue.within -/
theorem c_117 {d : Nat} {M : Mem} {Q : Option Vv → Mem → Prop} {x y : Int}  (k : ∀ v : Int, (v = 1 ∧ (0 ≤ x ∧ x ≤ y)) ∨ (v = 0 ∧ ¬ (0 ≤ x ∧ x ≤ y)) → Q (some (vI v)) M) : Ok d 117 0 [some (vI x), some (vI y)] [] M Q := by
  refine k_iload_n i_117_0 rfl ?_
  refine k_if_lt (t := 13) i_117_1 rfl (fun h1 => ?_) (fun h1 => ?_)
  · refine k_iconst i_117_13 (by decide) ?_
    refine k_zret i_117_14 rfl (by omega) ?_
    exact k _ (by omega)
  · refine k_iload_n i_117_4 rfl ?_
    refine k_iload_n i_117_5 rfl ?_
    refine k_icmp_gt (t := 13) i_117_6 rfl (fun h6 => ?_) (fun h6 => ?_)
    · refine k_iconst i_117_13 (by decide) ?_
      refine k_zret i_117_14 rfl (by omega) ?_
      exact k _ (by omega)
    · refine k_iconst i_117_9 (by decide) ?_
      refine k_goto (t := 14) i_117_10 rfl ?_
      refine k_zret i_117_14 rfl (by omega) ?_
      exact k _ (by omega)

/-- ElbowQueue$Rows.isNumber -/
theorem c_45 {d : Nat} {M : Mem} {Q : Option Vv → Mem → Prop} {x : Int}  (k : ∀ v : Int, (v = 1 ∧ (0 ≤ x ∧ x < 8)) ∨ (v = 0 ∧ ¬ (0 ≤ x ∧ x < 8)) → Q (some (vI v)) M) : Ok d 45 0 [some (vI x)] [] M Q := by
  refine k_iload_n i_45_0 rfl ?_
  refine k_if_lt (t := 14) i_45_1 rfl (fun h1 => ?_) (fun h1 => ?_)
  · refine k_iconst i_45_14 (by decide) ?_
    refine k_zret i_45_15 rfl (by omega) ?_
    exact k _ (by omega)
  · refine k_iload_n i_45_4 rfl ?_
    refine k_bipush i_45_5 (by decide) ?_
    refine k_icmp_ge (t := 14) i_45_7 rfl (fun h7 => ?_) (fun h7 => ?_)
    · refine k_iconst i_45_14 (by decide) ?_
      refine k_zret i_45_15 rfl (by omega) ?_
      exact k _ (by omega)
    · refine k_iconst i_45_10 (by decide) ?_
      refine k_goto (t := 15) i_45_11 rfl ?_
      refine k_zret i_45_15 rfl (by omega) ?_
      exact k _ (by omega)

/-- ElbowQueue$Rows.isLane -/
theorem c_46 {d : Nat} {M : Mem} {Q : Option Vv → Mem → Prop} {x : Int}  (k : ∀ v : Int, (v = 1 ∧ (0 ≤ x ∧ x ≤ 2)) ∨ (v = 0 ∧ ¬ (0 ≤ x ∧ x ≤ 2)) → Q (some (vI v)) M) : Ok d 46 0 [some (vI x)] [] M Q := by
  refine k_iload_n i_46_0 rfl ?_
  refine k_if_lt (t := 13) i_46_1 rfl (fun h1 => ?_) (fun h1 => ?_)
  · refine k_iconst i_46_13 (by decide) ?_
    refine k_zret i_46_14 rfl (by omega) ?_
    exact k _ (by omega)
  · refine k_iload_n i_46_4 rfl ?_
    refine k_iconst i_46_5 (by decide) ?_
    refine k_icmp_gt (t := 13) i_46_6 rfl (fun h6 => ?_) (fun h6 => ?_)
    · refine k_iconst i_46_13 (by decide) ?_
      refine k_zret i_46_14 rfl (by omega) ?_
      exact k _ (by omega)
    · refine k_iconst i_46_9 (by decide) ?_
      refine k_goto (t := 14) i_46_10 rfl ?_
      refine k_zret i_46_14 rfl (by omega) ?_
      exact k _ (by omega)

/-- ElbowQueue$Rows.isMissing -/
theorem c_47 {d : Nat} {M : Mem} {Q : Option Vv → Mem → Prop} {r : Int} (hr : 0 ≤ r ∧ r < 8) (k : ∀ v : Int, (v = 1 ∧ (M 12 r = -1)) ∨ (v = 0 ∧ ¬ (M 12 r = -1)) → Q (some (vI v)) M) : Ok d 47 0 [some (vR (some 1)), some (vI r)] [] M Q := by
  refine k_aload_n i_47_0 rfl ?_
  refine k_getR (r := 12) i_47_1 o_47 rfl (by decide) (s_1) rfl ?_
  refine k_iload_n i_47_4 rfl ?_
  refine k_iald i_47_5 (s_12) (by omega) ?_
  refine k_iconst i_47_6 (by decide) ?_
  refine k_icmp_ne (t := 14) i_47_7 rfl (fun h7 => ?_) (fun h7 => ?_)
  · refine k_iconst i_47_14 (by decide) ?_
    refine k_zret i_47_15 rfl (by omega) ?_
    exact k _ (by omega)
  · refine k_iconst i_47_10 (by decide) ?_
    refine k_goto (t := 15) i_47_11 rfl ?_
    refine k_zret i_47_15 rfl (by omega) ?_
    exact k _ (by omega)

/-- ElbowQueue$Rows.laneOf -/
theorem c_48 {d : Nat} {M : Mem} {Q : Option Vv → Mem → Prop} {r : Int} (hr : 0 ≤ r ∧ r < 8) (k : Q (some (vI (M 11 r))) M) : Ok d 48 0 [some (vR (some 1)), some (vI r)] [] M Q := by
  refine k_aload_n i_48_0 rfl ?_
  refine k_getR (r := 11) i_48_1 o_48 rfl (by decide) (s_1) rfl ?_
  refine k_iload_n i_48_4 rfl ?_
  refine k_iald i_48_5 (s_11) (by omega) ?_
  refine k_iret i_48_6 rfl ?_
  exact k

/-- ElbowQueue$Rows.item -/
theorem c_49 {d : Nat} {M : Mem} {Q : Option Vv → Mem → Prop} {r i : Int} (hr : 0 ≤ r ∧ r < 8) (hi : 0 ≤ i ∧ i < 40) (k : Q (some (vI (M (3 + r.toNat) i))) M) : Ok d 49 0 [some (vR (some 1)), some (vI r), some (vI i)] [] M Q := by
  refine k_aload_n i_49_0 rfl ?_
  refine k_getR (r := 2) i_49_1 o_49 rfl (by decide) (s_1) rfl ?_
  refine k_iload_n i_49_4 rfl ?_
  refine k_aald (r := (3 + (r).toNat)) i_49_5 (s_2) (by decide) (by omega) (rw_rf (by omega)) ?_
  refine k_iload_n i_49_6 rfl ?_
  refine k_iald i_49_7 (rw_sh (r := r) (by omega)) (by omega) ?_
  refine k_iret i_49_8 rfl ?_
  exact k

/-- ElbowQueue$Rows.spans -/
theorem c_50 {d : Nat} {M : Mem} {Q : Option Vv → Mem → Prop} {r i n : Int} (hr : 0 ≤ r ∧ r < 8) (hz : -1 ≤ M 12 r ∧ M 12 r ≤ 40) (k : ∀ v : Int, (v = 1 ∧ (0 ≤ i ∧ 0 ≤ n ∧ i ≤ M 12 r ∧ n ≤ M 12 r - i)) ∨ (v = 0 ∧ ¬ (0 ≤ i ∧ 0 ≤ n ∧ i ≤ M 12 r ∧ n ≤ M 12 r - i)) → Q (some (vI v)) M) : Ok d 50 0 [some (vR (some 1)), some (vI r), some (vI i), some (vI n)] [] M Q := by
  refine k_iload_n i_50_0 rfl ?_
  refine k_if_lt (t := 34) i_50_1 rfl (fun h1 => ?_) (fun h1 => ?_)
  · refine k_iconst i_50_34 (by decide) ?_
    refine k_zret i_50_35 rfl (by omega) ?_
    exact k _ (by omega)
  · refine k_iload_n i_50_4 rfl ?_
    refine k_if_lt (t := 34) i_50_5 rfl (fun h5 => ?_) (fun h5 => ?_)
    · refine k_iconst i_50_34 (by decide) ?_
      refine k_zret i_50_35 rfl (by omega) ?_
      exact k _ (by omega)
    · refine k_iload_n i_50_8 rfl ?_
      refine k_aload_n i_50_9 rfl ?_
      refine k_getR (r := 12) i_50_10 o_50 rfl (by decide) (s_1) rfl ?_
      refine k_iload_n i_50_13 rfl ?_
      refine k_iald i_50_14 (s_12) (by omega) ?_
      refine k_icmp_gt (t := 34) i_50_15 rfl (fun h15 => ?_) (fun h15 => ?_)
      · refine k_iconst i_50_34 (by decide) ?_
        refine k_zret i_50_35 rfl (by omega) ?_
        exact k _ (by omega)
      · refine k_iload_n i_50_18 rfl ?_
        refine k_aload_n i_50_19 rfl ?_
        refine k_getR (r := 12) i_50_20 o_50 rfl (by decide) (s_1) rfl ?_
        refine k_iload_n i_50_23 rfl ?_
        refine k_iald i_50_24 (s_12) (by omega) ?_
        refine k_iload_n i_50_25 rfl ?_
        refine k_isub i_50_26 (by omega) ?_
        refine k_icmp_gt (t := 34) i_50_27 rfl (fun h27 => ?_) (fun h27 => ?_)
        · refine k_iconst i_50_34 (by decide) ?_
          refine k_zret i_50_35 rfl (by omega) ?_
          exact k _ (by omega)
        · refine k_iconst i_50_30 (by decide) ?_
          refine k_goto (t := 35) i_50_31 rfl ?_
          refine k_zret i_50_35 rfl (by omega) ?_
          exact k _ (by omega)

theorem l_51 {d : Nat} {M : Mem} {Q : Option Vv → Mem → Prop} {r lane n : Int} (hr : 0 ≤ r ∧ r < 8) (hn : 0 ≤ n ∧ n ≤ 40) (k : Q none (mfill (mu (mu M 11 r lane) 12 r n) (3 + r.toNat) 0 n 0)) : ∀ (f : Nat) (i : Int), (0 ≤ i ∧ i ≤ n) → (n - i).toNat < f → Ok d 51 17 [some (vR (some 1)), some (vI r), some (vI lane), some (vI n), some (vI i)] [] (mfill (mu (mu M 11 r lane) 12 r n) (3 + r.toNat) 0 i 0) Q := by
  intro f
  induction f with
  | zero => intro i hi hf; exact absurd hf (Nat.not_lt_zero _)
  | succ f ih =>
    intro i hi hf
    refine k_iload i_51_17 rfl ?_
    refine k_iload_n i_51_19 rfl ?_
    refine k_icmp_ge (t := 39) i_51_20 rfl (fun h20 => ?_) (fun h20 => ?_)
    · refine k_vret i_51_39 rfl ?_
      obtain rfl : i = n := by omega
      exact k
    · refine k_aload_n i_51_23 rfl ?_
      refine k_getR (r := 2) i_51_24 o_51 rfl (by decide) (s_1) rfl ?_
      refine k_iload_n i_51_27 rfl ?_
      refine k_aald (r := (3 + (r).toNat)) i_51_28 (s_2) (by decide) (by omega) (rw_rf (by omega)) ?_
      refine k_iload i_51_29 rfl ?_
      refine k_iconst i_51_31 (by decide) ?_
      refine k_iast i_51_32 (rw_sh hr) (by omega) ?_
      refine k_iinc (ls' := [some (vR (some 1)), some (vI r), some (vI lane), some (vI n), some (vI (i + 1))]) i_51_33 rfl (by omega) rfl ?_
      refine k_goto (t := 17) i_51_36 rfl ?_
      rw [mfill_s (by omega)]
      exact ih (i + 1) (by omega) (by omega)

/-- ElbowQueue$Rows.lay -/
theorem c_51 {d : Nat} {M : Mem} {Q : Option Vv → Mem → Prop} {r lane n : Int} (hr : 0 ≤ r ∧ r < 8) (hn : 0 ≤ n ∧ n ≤ 40) (k : Q none (mfill (mu (mu M 11 r lane) 12 r n) (3 + r.toNat) 0 n 0)) : Ok d 51 0 [some (vR (some 1)), some (vI r), some (vI lane), some (vI n), none] [] M Q := by
  refine k_aload_n i_51_0 rfl ?_
  refine k_getR (r := 11) i_51_1 o_51 rfl (by decide) (s_1) rfl ?_
  refine k_iload_n i_51_4 rfl ?_
  refine k_iload_n i_51_5 rfl ?_
  refine k_iast i_51_6 (s_11) (by omega) ?_
  refine k_aload_n i_51_7 rfl ?_
  refine k_getR (r := 12) i_51_8 o_51 rfl (by decide) (s_1) rfl ?_
  refine k_iload_n i_51_11 rfl ?_
  refine k_iload_n i_51_12 rfl ?_
  refine k_iast i_51_13 (s_12) (by omega) ?_
  refine k_iconst i_51_14 (by decide) ?_
  refine k_istore (ls' := [some (vR (some 1)), some (vI r), some (vI lane), some (vI n), some (vI 0)]) i_51_15 rfl ?_
  rw [← mfill_0 (mu (mu M 11 r lane) 12 r n) (3 + r.toNat) 0 0]
  exact l_51 hr hn k (n.toNat + 1) 0 (by omega) (by omega)

/-- ElbowQueue$Rows.put -/
theorem c_52 {d : Nat} {M : Mem} {Q : Option Vv → Mem → Prop} {r i v : Int} (hr : 0 ≤ r ∧ r < 8) (hi : 0 ≤ i ∧ i < 40) (k : Q (some (vI (cutF (M 11 r) v))) (mu M (3 + r.toNat) i (cutF (M 11 r) v))) : Ok d 52 0 [some (vR (some 1)), some (vI r), some (vI i), some (vI v), none] [] M Q := by
  refine k_iload_n i_52_0 rfl ?_
  refine k_istore (ls' := [some (vR (some 1)), some (vI r), some (vI i), some (vI v), some (vI v)]) i_52_1 rfl ?_
  refine k_aload_n i_52_3 rfl ?_
  refine k_getR (r := 11) i_52_4 o_52 rfl (by decide) (s_1) rfl ?_
  refine k_iload_n i_52_7 rfl ?_
  refine k_iald i_52_8 (s_11) (by omega) ?_
  refine k_if_ne (t := 19) i_52_9 rfl (fun h9 => ?_) (fun h9 => ?_)
  · refine k_aload_n i_52_19 rfl ?_
    refine k_getR (r := 11) i_52_20 o_52 rfl (by decide) (s_1) rfl ?_
    refine k_iload_n i_52_23 rfl ?_
    refine k_iald i_52_24 (s_11) (by omega) ?_
    refine k_iconst i_52_25 (by decide) ?_
    refine k_icmp_ne (t := 33) i_52_26 rfl (fun h26 => ?_) (fun h26 => ?_)
    · refine k_aload_n i_52_33 rfl ?_
      refine k_getR (r := 2) i_52_34 o_52 rfl (by decide) (s_1) rfl ?_
      refine k_iload_n i_52_37 rfl ?_
      refine k_aald (r := (3 + (r).toNat)) i_52_38 (s_2) (by decide) (by omega) (rw_rf (by omega)) ?_
      refine k_iload_n i_52_39 rfl ?_
      refine k_iload i_52_40 rfl ?_
      refine k_iast i_52_42 (rw_sh (r := r) (by omega)) (by omega) ?_
      refine k_iload i_52_43 rfl ?_
      refine k_iret i_52_45 rfl ?_
      have ec : cutF (M 11 r) v = v := by unfold cutF; simp [*]
      rw [ec] at k
      exact k
    · refine k_iload_n i_52_29 rfl ?_
      refine k_i2s (z := (Int32.ofInt v).toInt16.toInt32.toInt) i_52_30 rfl ?_
      refine k_istore (ls' := [some (vR (some 1)), some (vI r), some (vI i), some (vI v), some (vI ((Int32.ofInt v).toInt16.toInt32.toInt))]) i_52_31 rfl ?_
      refine k_aload_n i_52_33 rfl ?_
      refine k_getR (r := 2) i_52_34 o_52 rfl (by decide) (s_1) rfl ?_
      refine k_iload_n i_52_37 rfl ?_
      refine k_aald (r := (3 + (r).toNat)) i_52_38 (s_2) (by decide) (by omega) (rw_rf (by omega)) ?_
      refine k_iload_n i_52_39 rfl ?_
      refine k_iload i_52_40 rfl ?_
      refine k_iast i_52_42 (rw_sh (r := r) (by omega)) (by omega) ?_
      refine k_iload i_52_43 rfl ?_
      refine k_iret i_52_45 rfl ?_
      have ec : cutF (M 11 r) v = (Int32.ofInt v).toInt16.toInt32.toInt := by unfold cutF; simp [*]
      rw [ec] at k
      exact k
  · refine k_iload_n i_52_12 rfl ?_
    refine k_i2b (z := (Int32.ofInt v).toInt8.toInt32.toInt) i_52_13 rfl ?_
    refine k_istore (ls' := [some (vR (some 1)), some (vI r), some (vI i), some (vI v), some (vI ((Int32.ofInt v).toInt8.toInt32.toInt))]) i_52_14 rfl ?_
    refine k_goto (t := 33) i_52_16 rfl ?_
    refine k_aload_n i_52_33 rfl ?_
    refine k_getR (r := 2) i_52_34 o_52 rfl (by decide) (s_1) rfl ?_
    refine k_iload_n i_52_37 rfl ?_
    refine k_aald (r := (3 + (r).toNat)) i_52_38 (s_2) (by decide) (by omega) (rw_rf (by omega)) ?_
    refine k_iload_n i_52_39 rfl ?_
    refine k_iload i_52_40 rfl ?_
    refine k_iast i_52_42 (rw_sh (r := r) (by omega)) (by omega) ?_
    refine k_iload i_52_43 rfl ?_
    refine k_iret i_52_45 rfl ?_
    have ec : cutF (M 11 r) v = (Int32.ofInt v).toInt8.toInt32.toInt := by unfold cutF; simp [*]
    rw [ec] at k
    exact k

/-- ElbowQueue$Rows.bring -/
theorem c_53 {d : Nat} {M : Mem} {Q : Option Vv → Mem → Prop} {a i b j n : Int} (ha : 0 ≤ a ∧ a < 8) (hb : 0 ≤ b ∧ b < 8) (hn : 0 ≤ n ∧ 0 ≤ i ∧ 0 ≤ j ∧ i + n ≤ 40 ∧ j + n ≤ 40) (k : Q none (mcp M (3 + a.toNat) i (3 + b.toNat) j n)) : Ok d 53 0 [some (vR (some 1)), some (vI a), some (vI i), some (vI b), some (vI j), some (vI n)] [] M Q := by
  refine k_aload_n i_53_0 rfl ?_
  refine k_getR (r := 2) i_53_1 o_53 rfl (by decide) (s_1) rfl ?_
  refine k_iload_n i_53_4 rfl ?_
  refine k_aald (r := (3 + (a).toNat)) i_53_5 (s_2) (by decide) (by omega) (rw_rf (by omega)) ?_
  refine k_iload_n i_53_6 rfl ?_
  refine k_aload_n i_53_7 rfl ?_
  refine k_getR (r := 2) i_53_8 o_53 rfl (by decide) (s_1) rfl ?_
  refine k_iload_n i_53_11 rfl ?_
  refine k_aald (r := (3 + (b).toNat)) i_53_12 (s_2) (by decide) (by omega) (rw_rf (by omega)) ?_
  refine k_iload i_53_13 rfl ?_
  refine k_iload i_53_15 rfl ?_
  refine k_copy i_53_17 o_53 rfl (rw_sh ha) (rw_sh hb) (by omega) rfl ?_
  refine k_vret i_53_20 rfl ?_
  exact k

/-- ElbowQueue$Rows.takeAway -/
theorem c_54 {d : Nat} {M : Mem} {Q : Option Vv → Mem → Prop} {r : Int} (hr : 0 ≤ r ∧ r < 8) (k : Q (some (vI (M 12 r))) (mu M 12 r (-1))) : Ok d 54 0 [some (vR (some 1)), some (vI r), none] [] M Q := by
  refine k_aload_n i_54_0 rfl ?_
  refine k_getR (r := 12) i_54_1 o_54 rfl (by decide) (s_1) rfl ?_
  refine k_iload_n i_54_4 rfl ?_
  refine k_iald i_54_5 (s_12) (by omega) ?_
  refine k_istore_n (ls' := [some (vR (some 1)), some (vI r), some (vI (M 12 r))]) i_54_6 rfl ?_
  refine k_aload_n i_54_7 rfl ?_
  refine k_getR (r := 12) i_54_8 o_54 rfl (by decide) (s_1) rfl ?_
  refine k_iload_n i_54_11 rfl ?_
  refine k_iconst i_54_12 (by decide) ?_
  refine k_iast i_54_13 (s_12) (by omega) ?_
  refine k_iload_n i_54_14 rfl ?_
  refine k_iret i_54_15 rfl ?_
  exact k

/-- how many of the first n of a cell's ints are not z -/
def cntN (f : Int → Int) (z : Int) : Nat → Int
  | 0 => 0
  | n + 1 => cntN f z n + (if f n = z then 0 else 1)
theorem cntN_le (f : Int → Int) (z : Int) : ∀ n : Nat, 0 ≤ cntN f z n ∧ cntN f z n ≤ n
  | 0 => by simp [cntN]
  | n + 1 => by
    have h := cntN_le f z n
    unfold cntN
    split <;> omega
theorem cntN_s (f : Int → Int) (z : Int) {i : Int} (h : 0 ≤ i) : cntN f z (i + 1).toNat = cntN f z i.toNat + (if f i = z then 0 else 1) := by
  obtain ⟨n, rfl⟩ : ∃ n : Nat, i = n := ⟨i.toNat, by omega⟩
  rw [show ((n : Int) + 1).toNat = n + 1 by omega, Int.toNat_natCast]
  rfl

theorem l_55 {d : Nat} {M : Mem} {Q : Option Vv → Mem → Prop}   (k : Q (some (vI (cntN (M 12) (-1) 8))) M) : ∀ (f : Nat) (i : Int) (c : Int), (0 ≤ i ∧ i ≤ 8) → (c = cntN (M 12) (-1) i.toNat) → (8 - i).toNat < f → Ok d 55 4 [some (vR (some 1)), some (vI c), some (vI i)] [] M Q := by
  intro f
  induction f with
  | zero => intro i c hi hc hf; exact absurd hf (Nat.not_lt_zero _)
  | succ f ih =>
    intro i c hi hc hf
    have hcl := cntN_le (M 12) (-1) i.toNat
    rw [← hc] at hcl
    refine k_iload_n i_55_4 rfl ?_
    refine k_bipush i_55_5 (by decide) ?_
    refine k_icmp_ge (t := 29) i_55_7 rfl (fun h7 => ?_) (fun h7 => ?_)
    · refine k_iload_n i_55_29 rfl ?_
      refine k_iret i_55_30 rfl ?_
      obtain rfl : i = 8 := by omega
      rw [hc]
      exact k
    · refine k_aload_n i_55_10 rfl ?_
      refine k_getR (r := 12) i_55_11 o_55 rfl (by decide) (s_1) rfl ?_
      refine k_iload_n i_55_14 rfl ?_
      refine k_iald i_55_15 (s_12) (by omega) ?_
      refine k_iconst i_55_16 (by decide) ?_
      refine k_icmp_eq (t := 23) i_55_17 rfl (fun h17 => ?_) (fun h17 => ?_)
      · refine k_iinc (ls' := [some (vR (some 1)), some (vI c), some (vI (i + 1))]) i_55_23 rfl (by omega) rfl ?_
        refine k_goto (t := 4) i_55_26 rfl ?_
        exact ih (i + 1) _ (by omega) (by rw [cntN_s _ _ hi.1, hc]; simp [*]) (by omega)
      · refine k_iinc (ls' := [some (vR (some 1)), some (vI (c + 1)), some (vI i)]) i_55_20 rfl (by omega) rfl ?_
        refine k_iinc (ls' := [some (vR (some 1)), some (vI (c + 1)), some (vI (i + 1))]) i_55_23 rfl (by omega) rfl ?_
        refine k_goto (t := 4) i_55_26 rfl ?_
        exact ih (i + 1) _ (by omega) (by rw [cntN_s _ _ hi.1, hc]; simp [*]) (by omega)

/-- ElbowQueue$Rows.present -/
theorem c_55 {d : Nat} {M : Mem} {Q : Option Vv → Mem → Prop}   (k : Q (some (vI (cntN (M 12) (-1) 8))) M) : Ok d 55 0 [some (vR (some 1)), none, none] [] M Q := by
  refine k_iconst i_55_0 (by decide) ?_
  refine k_istore_n (ls' := [some (vR (some 1)), some (vI 0), none]) i_55_1 rfl ?_
  refine k_iconst i_55_2 (by decide) ?_
  refine k_istore_n (ls' := [some (vR (some 1)), some (vI 0), some (vI 0)]) i_55_3 rfl ?_
  exact l_55 k 9 0 0 (by omega) rfl (by omega)
end
section
theorem bm_shift (N : Nat) : ((N * 16777216 % 4294967296 : Nat) : Int).bmod 4294967296 / 16777216 = (((N : Int).bmod 4294967296)).bmod 256 := by
  unfold Int.bmod
  simp only
  omega
theorem bm_shift2 (N : Nat) : ((N * 65536 % 4294967296 : Nat) : Int).bmod 4294967296 / 65536 = (((N : Int).bmod 4294967296)).bmod 65536 := by
  unfold Int.bmod
  simp only
  omega
theorem i32_bm (x : Int32) : x.toInt = (x.toBitVec.toNat : Int).bmod 4294967296 := BitVec.toInt_eq_toNat_bmod x.toBitVec
theorem shl8 (v : Int) : (Int32.ofInt (Int32.ofInt v <<< (Int32.ofInt 24 &&& 31)).toInt >>> (Int32.ofInt 24 &&& 31)).toInt = (Int32.ofInt v).toInt8.toInt32.toInt := by
  rw [Int32.ofInt_toInt, pk_shr _ _ 24 (by decide), i32_bm, pk_shl _ _ 24 (by decide), Int8.toInt_toInt32, Int32.toInt_toInt8, i32_bm (Int32.ofInt v), Int.shiftRight_eq_div_pow]
  exact bm_shift _
theorem shl16 (v : Int) : (Int32.ofInt (Int32.ofInt v <<< (Int32.ofInt 16 &&& 31)).toInt >>> (Int32.ofInt 16 &&& 31)).toInt = (Int32.ofInt v).toInt16.toInt32.toInt := by
  rw [Int32.ofInt_toInt, pk_shr _ _ 16 (by decide), i32_bm, pk_shl _ _ 16 (by decide), Int16.toInt_toInt32, Int32.toInt_toInt16, i32_bm (Int32.ofInt v), Int.shiftRight_eq_div_pow]
  exact bm_shift2 _

/-- ElbowQueue.found -/
theorem c_119 {d : Nat} {M : Mem} {Q : Option Vv → Mem → Prop} {x : Int} (hx : 0 ≤ x ∧ x ≤ 9) (k : Q (some (vI (-1000010 - x))) (mu M 0 13 x)) : Ok d 119 0 [some (vR (some 0)), some (vI x)] [] M Q := by
  refine k_aload_n i_119_0 rfl ?_
  refine k_iload_n i_119_1 rfl ?_
  refine k_putI (kz := 13) i_119_2 o_119 rfl (by decide) (s_0) rfl ?_
  refine k_ldc_w (z := -1000010) i_119_5 o_119 rfl (by decide) ?_
  refine k_iload_n i_119_8 rfl ?_
  refine k_isub i_119_9 (by omega) ?_
  refine k_iret i_119_10 rfl ?_
  exact k

/-- ElbowQueue.fine -/
theorem c_120 {d : Nat} {M : Mem} {Q : Option Vv → Mem → Prop} {x : Int}  (k : Q (some (vI x)) (mu M 0 13 0)) : Ok d 120 0 [some (vR (some 0)), some (vI x)] [] M Q := by
  refine k_aload_n i_120_0 rfl ?_
  refine k_iconst i_120_1 (by decide) ?_
  refine k_putI (kz := 13) i_120_2 o_120 rfl (by decide) (s_0) rfl ?_
  refine k_iload_n i_120_5 rfl ?_
  refine k_iret i_120_6 rfl ?_
  exact k

/-- ElbowQueue.isPerson -/
theorem c_118 {d : Nat} {M : Mem} {Q : Option Vv → Mem → Prop} {x : Int}  (k : ∀ v : Int, (v = 1 ∧ (0 ≤ x ∧ x < M 20 7)) ∨ (v = 0 ∧ ¬ (0 ≤ x ∧ x < M 20 7)) → Q (some (vI v)) M) : Ok d 118 0 [some (vR (some 0)), some (vI x)] [] M Q := by
  refine k_iload_n i_118_0 rfl ?_
  refine k_if_lt (t := 19) i_118_1 rfl (fun h1 => ?_) (fun h1 => ?_)
  · refine k_iconst i_118_19 (by decide) ?_
    refine k_zret i_118_20 rfl (by omega) ?_
    exact k _ (by omega)
  · refine k_iload_n i_118_4 rfl ?_
    refine k_aload_n i_118_5 rfl ?_
    refine k_getR (r := 20) i_118_6 o_118 rfl (by decide) (s_0) rfl ?_
    refine k_getI (kz := 7) i_118_9 o_118 rfl (by decide) (s_20) rfl ?_
    refine k_icmp_ge (t := 19) i_118_12 rfl (fun h12 => ?_) (fun h12 => ?_)
    · refine k_iconst i_118_19 (by decide) ?_
      refine k_zret i_118_20 rfl (by omega) ?_
      exact k _ (by omega)
    · refine k_iconst i_118_15 (by decide) ?_
      refine k_goto (t := 20) i_118_16 rfl ?_
      refine k_zret i_118_20 rfl (by omega) ?_
      exact k _ (by omega)

/-- ElbowQueue.row -/
theorem c_85 {d : Nat} {M : Mem} {Q : Option Vv → Mem → Prop} {r lane n : Int}  (k1 : ¬ (0 ≤ r ∧ r < 8 ∧ 0 ≤ lane ∧ lane ≤ 2 ∧ n ≤ 40) → Q (some (vI (-1000001))) M) (k2 : 0 ≤ r ∧ r < 8 ∧ 0 ≤ lane ∧ lane ≤ 2 ∧ n < 0 → Q (some (vI (-1000010 - 4))) (mu M 0 13 4)) (k3 : 0 ≤ r ∧ r < 8 ∧ 0 ≤ lane ∧ lane ≤ 2 ∧ 0 ≤ n ∧ n ≤ 40 → Q (some (vI n)) (mu (mfill (mu (mu M 11 r lane) 12 r n) (3 + r.toNat) 0 n 0) 0 13 0)) : Ok (d + 1) 85 0 [some (vR (some 0)), some (vI r), some (vI lane), some (vI n)] [] M Q := by
  refine k_iload_n i_85_0 rfl ?_
  refine k_invS (n := 1) (av := [vI r]) (rest := []) (el := [some (vI r)]) i_85_1 o_85 rfl v_45 rfl rfl rfl rfl rfl rfl ?_
  refine c_45 (fun v1 hv1 => ?_)
  show Ok _ 85 4 [some (vR (some 0)), some (vI r), some (vI lane), some (vI n)] [vI v1] (M) _
  refine k_if_eq (t := 20) i_85_4 rfl (fun h4 => ?_) (fun h4 => ?_)
  · refine k_ldc (z := -1000001) i_85_20 o_85 rfl (by decide) ?_
    refine k_iret i_85_22 rfl ?_
    exact k1 (by omega)
  · refine k_iload_n i_85_7 rfl ?_
    refine k_invS (n := 1) (av := [vI lane]) (rest := []) (el := [some (vI lane)]) i_85_8 o_85 rfl v_46 rfl rfl rfl rfl rfl rfl ?_
    refine c_46 (fun v8 hv8 => ?_)
    show Ok _ 85 11 [some (vR (some 0)), some (vI r), some (vI lane), some (vI n)] [vI v8] (M) _
    refine k_if_eq (t := 20) i_85_11 rfl (fun h11 => ?_) (fun h11 => ?_)
    · refine k_ldc (z := -1000001) i_85_20 o_85 rfl (by decide) ?_
      refine k_iret i_85_22 rfl ?_
      exact k1 (by omega)
    · refine k_iload_n i_85_14 rfl ?_
      refine k_bipush i_85_15 (by decide) ?_
      refine k_icmp_le (t := 23) i_85_17 rfl (fun h17 => ?_) (fun h17 => ?_)
      · refine k_iload_n i_85_23 rfl ?_
        refine k_if_ge (t := 33) i_85_24 rfl (fun h24 => ?_) (fun h24 => ?_)
        · refine k_aload_n i_85_33 rfl ?_
          refine k_getR (r := 1) i_85_34 o_85 rfl (by decide) (s_0) rfl ?_
          refine k_iload_n i_85_37 rfl ?_
          refine k_iload_n i_85_38 rfl ?_
          refine k_iload_n i_85_39 rfl ?_
          refine k_invV (n := 3) (o' := 4) (av := [vR (some 1), vI r, vI lane, vI n]) (rest := []) (el := [some (vR (some 1)), some (vI r), some (vI lane), some (vI n), none]) i_85_40 o_85 rfl v_51 rfl (s_1) rfl rfl rfl rfl rfl ?_
          refine c_51 (by omega) (by omega) ?_
          show Ok _ 85 43 [some (vR (some 0)), some (vI r), some (vI lane), some (vI n)] [] (mfill (mu (mu M 11 r lane) 12 r n) (3 + (r).toNat) 0 n 0) _
          refine k_aload_n i_85_43 rfl ?_
          refine k_iload_n i_85_44 rfl ?_
          refine k_invV (n := 1) (o' := 7) (av := [vR (some 0), vI n]) (rest := []) (el := [some (vR (some 0)), some (vI n)]) i_85_45 o_85 rfl v_120 rfl (s_0) rfl rfl rfl rfl rfl ?_
          refine c_120 ?_
          show Ok _ 85 48 [some (vR (some 0)), some (vI r), some (vI lane), some (vI n)] [vI n] (mu (mfill (mu (mu M 11 r lane) 12 r n) (3 + (r).toNat) 0 n 0) 0 13 0) _
          refine k_iret i_85_48 rfl ?_
          exact k3 (by omega)
        · refine k_aload_n i_85_27 rfl ?_
          refine k_iconst i_85_28 (by decide) ?_
          refine k_invV (n := 1) (o' := 7) (av := [vR (some 0), vI 4]) (rest := []) (el := [some (vR (some 0)), some (vI 4)]) i_85_29 o_85 rfl v_119 rfl (s_0) rfl rfl rfl rfl rfl ?_
          refine c_119 (by omega) ?_
          show Ok _ 85 32 [some (vR (some 0)), some (vI r), some (vI lane), some (vI n)] [vI (-1000010 - 4)] (mu M 0 13 4) _
          refine k_iret i_85_32 rfl ?_
          exact k2 (by omega)
      · refine k_ldc (z := -1000001) i_85_20 o_85 rfl (by decide) ?_
        refine k_iret i_85_22 rfl ?_
        exact k1 (by omega)

/-- ElbowQueue.set -/
theorem c_86 {d : Nat} {M : Mem} {Q : Option Vv → Mem → Prop} {r i v : Int} (hs : ∀ r : Int, 0 ≤ r → r < 8 → -1 ≤ M 12 r ∧ M 12 r ≤ 40) (k1 : ¬ (0 ≤ r ∧ r < 8) → Q (some (vI (-1000001))) M) (k2 : 0 ≤ r ∧ r < 8 → ¬ (¬ M 12 r = -1) → Q (some (vI (-1000010 - 1))) (mu M 0 13 1)) (k3 : 0 ≤ r ∧ r < 8 → (¬ M 12 r = -1) → ¬ (0 ≤ i ∧ i < M 12 r) → Q (some (vI (-1000010 - 2))) (mu M 0 13 2)) (k4 : 0 ≤ r ∧ r < 8 → (¬ M 12 r = -1) → (0 ≤ i ∧ i < M 12 r) → Q (some (vI (cutF (M 11 r) v))) (mu (mu M (3 + r.toNat) i (cutF (M 11 r) v)) 0 13 0)) : Ok (d + 1) 86 0 [some (vR (some 0)), some (vI r), some (vI i), some (vI v)] [] M Q := by
  refine k_iload_n i_86_0 rfl ?_
  refine k_invS (n := 1) (av := [vI r]) (rest := []) (el := [some (vI r)]) i_86_1 o_86 rfl v_45 rfl rfl rfl rfl rfl rfl ?_
  refine c_45 (fun v1 hv1 => ?_)
  show Ok _ 86 4 [some (vR (some 0)), some (vI r), some (vI i), some (vI v)] [vI v1] (M) _
  refine k_if_ne (t := 10) i_86_4 rfl (fun h4 => ?_) (fun h4 => ?_)
  · have hs9 := hs r (by omega) (by omega)
    refine k_aload_n i_86_10 rfl ?_
    refine k_getR (r := 1) i_86_11 o_86 rfl (by decide) (s_0) rfl ?_
    refine k_iload_n i_86_14 rfl ?_
    refine k_invV (n := 1) (o' := 4) (av := [vR (some 1), vI r]) (rest := []) (el := [some (vR (some 1)), some (vI r)]) i_86_15 o_86 rfl v_47 rfl (s_1) rfl rfl rfl rfl rfl ?_
    refine c_47 (by omega) (fun v15 hv15 => ?_)
    show Ok _ 86 18 [some (vR (some 0)), some (vI r), some (vI i), some (vI v)] [vI v15] (M) _
    refine k_if_eq (t := 27) i_86_18 rfl (fun h18 => ?_) (fun h18 => ?_)
    · refine k_aload_n i_86_27 rfl ?_
      refine k_getR (r := 1) i_86_28 o_86 rfl (by decide) (s_0) rfl ?_
      refine k_iload_n i_86_31 rfl ?_
      refine k_iload_n i_86_32 rfl ?_
      refine k_iconst i_86_33 (by decide) ?_
      refine k_invV (n := 3) (o' := 4) (av := [vR (some 1), vI r, vI i, vI 1]) (rest := []) (el := [some (vR (some 1)), some (vI r), some (vI i), some (vI 1)]) i_86_34 o_86 rfl v_50 rfl (s_1) rfl rfl rfl rfl rfl ?_
      refine c_50 (by omega) (by omega) (fun v34 hv34 => ?_)
      show Ok _ 86 37 [some (vR (some 0)), some (vI r), some (vI i), some (vI v)] [vI v34] (M) _
      refine k_if_ne (t := 46) i_86_37 rfl (fun h37 => ?_) (fun h37 => ?_)
      · refine k_aload_n i_86_46 rfl ?_
        refine k_aload_n i_86_47 rfl ?_
        refine k_getR (r := 1) i_86_48 o_86 rfl (by decide) (s_0) rfl ?_
        refine k_iload_n i_86_51 rfl ?_
        refine k_iload_n i_86_52 rfl ?_
        refine k_iload_n i_86_53 rfl ?_
        refine k_invV (n := 3) (o' := 4) (av := [vR (some 1), vI r, vI i, vI v]) (rest := [vR (some 0)]) (el := [some (vR (some 1)), some (vI r), some (vI i), some (vI v), none]) i_86_54 o_86 rfl v_52 rfl (s_1) rfl rfl rfl rfl rfl ?_
        refine c_52 (by omega) (by omega) ?_
        show Ok _ 86 57 [some (vR (some 0)), some (vI r), some (vI i), some (vI v)] [vI (cutF (M 11 r) v), vR (some 0)] (mu M (3 + (r).toNat) i (cutF (M 11 r) v)) _
        refine k_invV (n := 1) (o' := 7) (av := [vR (some 0), vI (cutF (M 11 r) v)]) (rest := []) (el := [some (vR (some 0)), some (vI (cutF (M 11 r) v))]) i_86_57 o_86 rfl v_120 rfl (s_0) rfl rfl rfl rfl rfl ?_
        refine c_120 ?_
        show Ok _ 86 60 [some (vR (some 0)), some (vI r), some (vI i), some (vI v)] [vI (cutF (M 11 r) v)] (mu (mu M (3 + (r).toNat) i (cutF (M 11 r) v)) 0 13 0) _
        refine k_iret i_86_60 rfl ?_
        exact k4 (by omega) (by omega) (by omega)
      · refine k_aload_n i_86_40 rfl ?_
        refine k_iconst i_86_41 (by decide) ?_
        refine k_invV (n := 1) (o' := 7) (av := [vR (some 0), vI 2]) (rest := []) (el := [some (vR (some 0)), some (vI 2)]) i_86_42 o_86 rfl v_119 rfl (s_0) rfl rfl rfl rfl rfl ?_
        refine c_119 (by omega) ?_
        show Ok _ 86 45 [some (vR (some 0)), some (vI r), some (vI i), some (vI v)] [vI (-1000010 - 2)] (mu M 0 13 2) _
        refine k_iret i_86_45 rfl ?_
        exact k3 (by omega) (by omega) (by omega)
    · refine k_aload_n i_86_21 rfl ?_
      refine k_iconst i_86_22 (by decide) ?_
      refine k_invV (n := 1) (o' := 7) (av := [vR (some 0), vI 1]) (rest := []) (el := [some (vR (some 0)), some (vI 1)]) i_86_23 o_86 rfl v_119 rfl (s_0) rfl rfl rfl rfl rfl ?_
      refine c_119 (by omega) ?_
      show Ok _ 86 26 [some (vR (some 0)), some (vI r), some (vI i), some (vI v)] [vI (-1000010 - 1)] (mu M 0 13 1) _
      refine k_iret i_86_26 rfl ?_
      exact k2 (by omega) (by omega)
  · refine k_ldc (z := -1000001) i_86_7 o_86 rfl (by decide) ?_
    refine k_iret i_86_9 rfl ?_
    exact k1 (by omega)

/-- ElbowQueue.copy -/
theorem c_87 {d : Nat} {M : Mem} {Q : Option Vv → Mem → Prop} {a i b j n : Int} (hs : ∀ r : Int, 0 ≤ r → r < 8 → -1 ≤ M 12 r ∧ M 12 r ≤ 40) (k1 : ¬ (0 ≤ a ∧ a < 8 ∧ 0 ≤ b ∧ b < 8) → Q (some (vI (-1000001))) M) (k2 : (0 ≤ a ∧ a < 8 ∧ 0 ≤ b ∧ b < 8) → ¬ (¬ M 12 a = -1 ∧ ¬ M 12 b = -1) → Q (some (vI (-1000010 - 1))) (mu M 0 13 1)) (k3 : (0 ≤ a ∧ a < 8 ∧ 0 ≤ b ∧ b < 8) → (¬ M 12 a = -1 ∧ ¬ M 12 b = -1) → ¬ M 11 a = M 11 b → Q (some (vI (-1000010 - 5))) (mu M 0 13 5)) (k4 : (0 ≤ a ∧ a < 8 ∧ 0 ≤ b ∧ b < 8) → (¬ M 12 a = -1 ∧ ¬ M 12 b = -1) → M 11 a = M 11 b → ¬ (0 ≤ i ∧ 0 ≤ j ∧ 0 ≤ n ∧ i + n ≤ M 12 a ∧ j + n ≤ M 12 b) → Q (some (vI (-1000010 - 2))) (mu M 0 13 2)) (k5 : (0 ≤ a ∧ a < 8 ∧ 0 ≤ b ∧ b < 8) → (¬ M 12 a = -1 ∧ ¬ M 12 b = -1) → M 11 a = M 11 b → (0 ≤ i ∧ 0 ≤ j ∧ 0 ≤ n ∧ i + n ≤ M 12 a ∧ j + n ≤ M 12 b) → Q (some (vI n)) (mu (mcp M (3 + a.toNat) i (3 + b.toNat) j n) 0 13 0)) : Ok (d + 1) 87 0 [some (vR (some 0)), some (vI a), some (vI i), some (vI b), some (vI j), some (vI n)] [] M Q := by
  refine k_iload_n i_87_0 rfl ?_
  refine k_invS (n := 1) (av := [vI a]) (rest := []) (el := [some (vI a)]) i_87_1 o_87 rfl v_45 rfl rfl rfl rfl rfl rfl ?_
  refine c_45 (fun v1 hv1 => ?_)
  show Ok _ 87 4 [some (vR (some 0)), some (vI a), some (vI i), some (vI b), some (vI j), some (vI n)] [vI v1] (M) _
  refine k_if_eq (t := 14) i_87_4 rfl (fun h4 => ?_) (fun h4 => ?_)
  · refine k_ldc (z := -1000001) i_87_14 o_87 rfl (by decide) ?_
    refine k_iret i_87_16 rfl ?_
    exact k1 (by omega)
  · refine k_iload_n i_87_7 rfl ?_
    refine k_invS (n := 1) (av := [vI b]) (rest := []) (el := [some (vI b)]) i_87_8 o_87 rfl v_45 rfl rfl rfl rfl rfl rfl ?_
    refine c_45 (fun v8 hv8 => ?_)
    show Ok _ 87 11 [some (vR (some 0)), some (vI a), some (vI i), some (vI b), some (vI j), some (vI n)] [vI v8] (M) _
    refine k_if_ne (t := 17) i_87_11 rfl (fun h11 => ?_) (fun h11 => ?_)
    · have hs8 := hs a (by omega) (by omega)
      have hs9 := hs b (by omega) (by omega)
      refine k_aload_n i_87_17 rfl ?_
      refine k_getR (r := 1) i_87_18 o_87 rfl (by decide) (s_0) rfl ?_
      refine k_iload_n i_87_21 rfl ?_
      refine k_invV (n := 1) (o' := 4) (av := [vR (some 1), vI a]) (rest := []) (el := [some (vR (some 1)), some (vI a)]) i_87_22 o_87 rfl v_47 rfl (s_1) rfl rfl rfl rfl rfl ?_
      refine c_47 (by omega) (fun v22 hv22 => ?_)
      show Ok _ 87 25 [some (vR (some 0)), some (vI a), some (vI i), some (vI b), some (vI j), some (vI n)] [vI v22] (M) _
      refine k_if_ne (t := 39) i_87_25 rfl (fun h25 => ?_) (fun h25 => ?_)
      · refine k_aload_n i_87_39 rfl ?_
        refine k_iconst i_87_40 (by decide) ?_
        refine k_invV (n := 1) (o' := 7) (av := [vR (some 0), vI 1]) (rest := []) (el := [some (vR (some 0)), some (vI 1)]) i_87_41 o_87 rfl v_119 rfl (s_0) rfl rfl rfl rfl rfl ?_
        refine c_119 (by omega) ?_
        show Ok _ 87 44 [some (vR (some 0)), some (vI a), some (vI i), some (vI b), some (vI j), some (vI n)] [vI (-1000010 - 1)] (mu M 0 13 1) _
        refine k_iret i_87_44 rfl ?_
        exact k2 (by omega) (by omega)
      · refine k_aload_n i_87_28 rfl ?_
        refine k_getR (r := 1) i_87_29 o_87 rfl (by decide) (s_0) rfl ?_
        refine k_iload_n i_87_32 rfl ?_
        refine k_invV (n := 1) (o' := 4) (av := [vR (some 1), vI b]) (rest := []) (el := [some (vR (some 1)), some (vI b)]) i_87_33 o_87 rfl v_47 rfl (s_1) rfl rfl rfl rfl rfl ?_
        refine c_47 (by omega) (fun v33 hv33 => ?_)
        show Ok _ 87 36 [some (vR (some 0)), some (vI a), some (vI i), some (vI b), some (vI j), some (vI n)] [vI v33] (M) _
        refine k_if_eq (t := 45) i_87_36 rfl (fun h36 => ?_) (fun h36 => ?_)
        · refine k_aload_n i_87_45 rfl ?_
          refine k_getR (r := 1) i_87_46 o_87 rfl (by decide) (s_0) rfl ?_
          refine k_iload_n i_87_49 rfl ?_
          refine k_invV (n := 1) (o' := 4) (av := [vR (some 1), vI a]) (rest := []) (el := [some (vR (some 1)), some (vI a)]) i_87_50 o_87 rfl v_48 rfl (s_1) rfl rfl rfl rfl rfl ?_
          refine c_48 (by omega) ?_
          show Ok _ 87 53 [some (vR (some 0)), some (vI a), some (vI i), some (vI b), some (vI j), some (vI n)] [vI (M 11 (a))] (M) _
          refine k_aload_n i_87_53 rfl ?_
          refine k_getR (r := 1) i_87_54 o_87 rfl (by decide) (s_0) rfl ?_
          refine k_iload_n i_87_57 rfl ?_
          refine k_invV (n := 1) (o' := 4) (av := [vR (some 1), vI b]) (rest := [vI (M 11 (a))]) (el := [some (vR (some 1)), some (vI b)]) i_87_58 o_87 rfl v_48 rfl (s_1) rfl rfl rfl rfl rfl ?_
          refine c_48 (by omega) ?_
          show Ok _ 87 61 [some (vR (some 0)), some (vI a), some (vI i), some (vI b), some (vI j), some (vI n)] [vI (M 11 (b)), vI (M 11 (a))] (M) _
          refine k_icmp_eq (t := 70) i_87_61 rfl (fun h61 => ?_) (fun h61 => ?_)
          · refine k_aload_n i_87_70 rfl ?_
            refine k_getR (r := 1) i_87_71 o_87 rfl (by decide) (s_0) rfl ?_
            refine k_iload_n i_87_74 rfl ?_
            refine k_iload_n i_87_75 rfl ?_
            refine k_iload i_87_76 rfl ?_
            refine k_invV (n := 3) (o' := 4) (av := [vR (some 1), vI a, vI i, vI n]) (rest := []) (el := [some (vR (some 1)), some (vI a), some (vI i), some (vI n)]) i_87_78 o_87 rfl v_50 rfl (s_1) rfl rfl rfl rfl rfl ?_
            refine c_50 (by omega) (by omega) (fun v78 hv78 => ?_)
            show Ok _ 87 81 [some (vR (some 0)), some (vI a), some (vI i), some (vI b), some (vI j), some (vI n)] [vI v78] (M) _
            refine k_if_eq (t := 99) i_87_81 rfl (fun h81 => ?_) (fun h81 => ?_)
            · refine k_aload_n i_87_99 rfl ?_
              refine k_iconst i_87_100 (by decide) ?_
              refine k_invV (n := 1) (o' := 7) (av := [vR (some 0), vI 2]) (rest := []) (el := [some (vR (some 0)), some (vI 2)]) i_87_101 o_87 rfl v_119 rfl (s_0) rfl rfl rfl rfl rfl ?_
              refine c_119 (by omega) ?_
              show Ok _ 87 104 [some (vR (some 0)), some (vI a), some (vI i), some (vI b), some (vI j), some (vI n)] [vI (-1000010 - 2)] (mu M 0 13 2) _
              refine k_iret i_87_104 rfl ?_
              exact k4 (by omega) (by omega) (by omega) (by omega)
            · refine k_aload_n i_87_84 rfl ?_
              refine k_getR (r := 1) i_87_85 o_87 rfl (by decide) (s_0) rfl ?_
              refine k_iload_n i_87_88 rfl ?_
              refine k_iload i_87_89 rfl ?_
              refine k_iload i_87_91 rfl ?_
              refine k_invV (n := 3) (o' := 4) (av := [vR (some 1), vI b, vI j, vI n]) (rest := []) (el := [some (vR (some 1)), some (vI b), some (vI j), some (vI n)]) i_87_93 o_87 rfl v_50 rfl (s_1) rfl rfl rfl rfl rfl ?_
              refine c_50 (by omega) (by omega) (fun v93 hv93 => ?_)
              show Ok _ 87 96 [some (vR (some 0)), some (vI a), some (vI i), some (vI b), some (vI j), some (vI n)] [vI v93] (M) _
              refine k_if_ne (t := 105) i_87_96 rfl (fun h96 => ?_) (fun h96 => ?_)
              · refine k_aload_n i_87_105 rfl ?_
                refine k_getR (r := 1) i_87_106 o_87 rfl (by decide) (s_0) rfl ?_
                refine k_iload_n i_87_109 rfl ?_
                refine k_iload_n i_87_110 rfl ?_
                refine k_iload_n i_87_111 rfl ?_
                refine k_iload i_87_112 rfl ?_
                refine k_iload i_87_114 rfl ?_
                refine k_invV (n := 5) (o' := 4) (av := [vR (some 1), vI a, vI i, vI b, vI j, vI n]) (rest := []) (el := [some (vR (some 1)), some (vI a), some (vI i), some (vI b), some (vI j), some (vI n)]) i_87_116 o_87 rfl v_53 rfl (s_1) rfl rfl rfl rfl rfl ?_
                refine c_53 (by omega) (by omega) (by omega) ?_
                show Ok _ 87 119 [some (vR (some 0)), some (vI a), some (vI i), some (vI b), some (vI j), some (vI n)] [] (mcp M (3 + (a).toNat) i (3 + (b).toNat) j n) _
                refine k_aload_n i_87_119 rfl ?_
                refine k_iload i_87_120 rfl ?_
                refine k_invV (n := 1) (o' := 7) (av := [vR (some 0), vI n]) (rest := []) (el := [some (vR (some 0)), some (vI n)]) i_87_122 o_87 rfl v_120 rfl (s_0) rfl rfl rfl rfl rfl ?_
                refine c_120 ?_
                show Ok _ 87 125 [some (vR (some 0)), some (vI a), some (vI i), some (vI b), some (vI j), some (vI n)] [vI n] (mu (mcp M (3 + (a).toNat) i (3 + (b).toNat) j n) 0 13 0) _
                refine k_iret i_87_125 rfl ?_
                exact k5 (by omega) (by omega) (by omega) (by omega)
              · refine k_aload_n i_87_99 rfl ?_
                refine k_iconst i_87_100 (by decide) ?_
                refine k_invV (n := 1) (o' := 7) (av := [vR (some 0), vI 2]) (rest := []) (el := [some (vR (some 0)), some (vI 2)]) i_87_101 o_87 rfl v_119 rfl (s_0) rfl rfl rfl rfl rfl ?_
                refine c_119 (by omega) ?_
                show Ok _ 87 104 [some (vR (some 0)), some (vI a), some (vI i), some (vI b), some (vI j), some (vI n)] [vI (-1000010 - 2)] (mu M 0 13 2) _
                refine k_iret i_87_104 rfl ?_
                exact k4 (by omega) (by omega) (by omega) (by omega)
          · refine k_aload_n i_87_64 rfl ?_
            refine k_iconst i_87_65 (by decide) ?_
            refine k_invV (n := 1) (o' := 7) (av := [vR (some 0), vI 5]) (rest := []) (el := [some (vR (some 0)), some (vI 5)]) i_87_66 o_87 rfl v_119 rfl (s_0) rfl rfl rfl rfl rfl ?_
            refine c_119 (by omega) ?_
            show Ok _ 87 69 [some (vR (some 0)), some (vI a), some (vI i), some (vI b), some (vI j), some (vI n)] [vI (-1000010 - 5)] (mu M 0 13 5) _
            refine k_iret i_87_69 rfl ?_
            exact k3 (by omega) (by omega) (by omega)
        · refine k_aload_n i_87_39 rfl ?_
          refine k_iconst i_87_40 (by decide) ?_
          refine k_invV (n := 1) (o' := 7) (av := [vR (some 0), vI 1]) (rest := []) (el := [some (vR (some 0)), some (vI 1)]) i_87_41 o_87 rfl v_119 rfl (s_0) rfl rfl rfl rfl rfl ?_
          refine c_119 (by omega) ?_
          show Ok _ 87 44 [some (vR (some 0)), some (vI a), some (vI i), some (vI b), some (vI j), some (vI n)] [vI (-1000010 - 1)] (mu M 0 13 1) _
          refine k_iret i_87_44 rfl ?_
          exact k2 (by omega) (by omega)
    · refine k_ldc (z := -1000001) i_87_14 o_87 rfl (by decide) ?_
      refine k_iret i_87_16 rfl ?_
      exact k1 (by omega)

/-- ElbowQueue.drop -/
theorem c_88 {d : Nat} {M : Mem} {Q : Option Vv → Mem → Prop} {r : Int}  (k1 : ¬ (0 ≤ r ∧ r < 8) → Q (some (vI (-1000001))) M) (k2 : 0 ≤ r ∧ r < 8 → ¬ (¬ M 12 r = -1) → Q (some (vI (-1000010 - 1))) (mu M 0 13 1)) (k3 : 0 ≤ r ∧ r < 8 → (¬ M 12 r = -1) → Q (some (vI (M 12 r))) (mu (mu M 12 r (-1)) 0 13 0)) : Ok (d + 1) 88 0 [some (vR (some 0)), some (vI r)] [] M Q := by
  refine k_iload_n i_88_0 rfl ?_
  refine k_invS (n := 1) (av := [vI r]) (rest := []) (el := [some (vI r)]) i_88_1 o_88 rfl v_45 rfl rfl rfl rfl rfl rfl ?_
  refine c_45 (fun v1 hv1 => ?_)
  show Ok _ 88 4 [some (vR (some 0)), some (vI r)] [vI v1] (M) _
  refine k_if_ne (t := 10) i_88_4 rfl (fun h4 => ?_) (fun h4 => ?_)
  · refine k_aload_n i_88_10 rfl ?_
    refine k_getR (r := 1) i_88_11 o_88 rfl (by decide) (s_0) rfl ?_
    refine k_iload_n i_88_14 rfl ?_
    refine k_invV (n := 1) (o' := 4) (av := [vR (some 1), vI r]) (rest := []) (el := [some (vR (some 1)), some (vI r)]) i_88_15 o_88 rfl v_47 rfl (s_1) rfl rfl rfl rfl rfl ?_
    refine c_47 (by omega) (fun v15 hv15 => ?_)
    show Ok _ 88 18 [some (vR (some 0)), some (vI r)] [vI v15] (M) _
    refine k_if_eq (t := 27) i_88_18 rfl (fun h18 => ?_) (fun h18 => ?_)
    · refine k_aload_n i_88_27 rfl ?_
      refine k_aload_n i_88_28 rfl ?_
      refine k_getR (r := 1) i_88_29 o_88 rfl (by decide) (s_0) rfl ?_
      refine k_iload_n i_88_32 rfl ?_
      refine k_invV (n := 1) (o' := 4) (av := [vR (some 1), vI r]) (rest := [vR (some 0)]) (el := [some (vR (some 1)), some (vI r), none]) i_88_33 o_88 rfl v_54 rfl (s_1) rfl rfl rfl rfl rfl ?_
      refine c_54 (by omega) ?_
      show Ok _ 88 36 [some (vR (some 0)), some (vI r)] [vI (M 12 r), vR (some 0)] (mu M 12 r (-1)) _
      refine k_invV (n := 1) (o' := 7) (av := [vR (some 0), vI (M 12 r)]) (rest := []) (el := [some (vR (some 0)), some (vI (M 12 r))]) i_88_36 o_88 rfl v_120 rfl (s_0) rfl rfl rfl rfl rfl ?_
      refine c_120 ?_
      show Ok _ 88 39 [some (vR (some 0)), some (vI r)] [vI (M 12 r)] (mu (mu M 12 r (-1)) 0 13 0) _
      refine k_iret i_88_39 rfl ?_
      exact k3 (by omega) (by omega)
    · refine k_aload_n i_88_21 rfl ?_
      refine k_iconst i_88_22 (by decide) ?_
      refine k_invV (n := 1) (o' := 7) (av := [vR (some 0), vI 1]) (rest := []) (el := [some (vR (some 0)), some (vI 1)]) i_88_23 o_88 rfl v_119 rfl (s_0) rfl rfl rfl rfl rfl ?_
      refine c_119 (by omega) ?_
      show Ok _ 88 26 [some (vR (some 0)), some (vI r)] [vI (-1000010 - 1)] (mu M 0 13 1) _
      refine k_iret i_88_26 rfl ?_
      exact k2 (by omega) (by omega)
  · refine k_ldc (z := -1000001) i_88_7 o_88 rfl (by decide) ?_
    refine k_iret i_88_9 rfl ?_
    exact k1 (by omega)

/-- ElbowQueueModel.in -/
theorem c_122 {d : Nat} {M : Mem} {Q : Option Vv → Mem → Prop} {x lo hi : Int}  (k : ∀ v : Int, (v = 1 ∧ (lo ≤ x ∧ x ≤ hi)) ∨ (v = 0 ∧ ¬ (lo ≤ x ∧ x ≤ hi)) → Q (some (vI v)) M) : Ok d 122 0 [some (vL x), none, some (vL lo), none, some (vL hi), none] [] M Q := by
  refine k_lload_n i_122_0 rfl ?_
  refine k_lload_n i_122_1 rfl ?_
  refine k_lcmp i_122_2 ?_
  obtain ⟨z2, hz2⟩ : ∃ z : Int, z = (if (x) < (lo) then (-1 : Int) else if (x) = (lo) then 0 else 1) := ⟨_, rfl⟩
  rw [← hz2]
  have gz2 : (z2 = -1 ∧ (x) < (lo)) ∨ (z2 = 0 ∧ (x) = (lo)) ∨ (z2 = 1 ∧ (lo) < (x)) := by rw [hz2]; split <;> first | omega | (split <;> omega)
  refine k_if_lt (t := 17) i_122_3 rfl (fun h3 => ?_) (fun h3 => ?_)
  · refine k_iconst i_122_17 (by decide) ?_
    refine k_zret i_122_18 rfl (by omega) ?_
    exact k _ (by omega)
  · refine k_lload_n i_122_6 rfl ?_
    refine k_lload i_122_7 rfl ?_
    refine k_lcmp i_122_9 ?_
    obtain ⟨z9, hz9⟩ : ∃ z : Int, z = (if (x) < (hi) then (-1 : Int) else if (x) = (hi) then 0 else 1) := ⟨_, rfl⟩
    rw [← hz9]
    have gz9 : (z9 = -1 ∧ (x) < (hi)) ∨ (z9 = 0 ∧ (x) = (hi)) ∨ (z9 = 1 ∧ (hi) < (x)) := by rw [hz9]; split <;> first | omega | (split <;> omega)
    refine k_if_gt (t := 17) i_122_10 rfl (fun h10 => ?_) (fun h10 => ?_)
    · refine k_iconst i_122_17 (by decide) ?_
      refine k_zret i_122_18 rfl (by omega) ?_
      exact k _ (by omega)
    · refine k_iconst i_122_13 (by decide) ?_
      refine k_goto (t := 18) i_122_14 rfl ?_
      refine k_zret i_122_18 rfl (by omega) ?_
      exact k _ (by omega)

/-- ElbowQueueModel.found -/
theorem c_123 {d : Nat} {M : Mem} {Q : Option Vv → Mem → Prop} {x : Int} (hx : 0 ≤ x ∧ x ≤ 9) (k : Q (some (vI (-1000010 - x))) (mu M 273 6 x)) : Ok d 123 0 [some (vR (some 273)), some (vI x)] [] M Q := by
  refine k_aload_n i_123_0 rfl ?_
  refine k_iload_n i_123_1 rfl ?_
  refine k_putI (kz := 6) i_123_2 o_123 rfl (by decide) (s_273) rfl ?_
  refine k_ldc (z := -1000010) i_123_5 o_123 rfl (by decide) ?_
  refine k_iload_n i_123_7 rfl ?_
  refine k_isub i_123_8 (by omega) ?_
  refine k_iret i_123_9 rfl ?_
  exact k

/-- ElbowQueueModel.well -/
theorem c_124 {d : Nat} {M : Mem} {Q : Option Vv → Mem → Prop} {x : Int}  (k : Q (some (vI x)) (mu M 273 6 0)) : Ok d 124 0 [some (vR (some 273)), some (vI x)] [] M Q := by
  refine k_aload_n i_124_0 rfl ?_
  refine k_iconst i_124_1 (by decide) ?_
  refine k_putI (kz := 6) i_124_2 o_124 rfl (by decide) (s_273) rfl ?_
  refine k_iload_n i_124_5 rfl ?_
  refine k_iret i_124_6 rfl ?_
  exact k

/-- ElbowQueueModel.isRow -/
theorem c_125 {d : Nat} {M : Mem} {Q : Option Vv → Mem → Prop} {x : Int}  (k : ∀ v : Int, (v = 1 ∧ (0 ≤ x ∧ x < 8)) ∨ (v = 0 ∧ ¬ (0 ≤ x ∧ x < 8)) → Q (some (vI v)) M) : Ok (d + 1) 125 0 [some (vI x)] [] M Q := by
  refine k_iload_n i_125_0 rfl ?_
  refine k_i2l i_125_1 ?_
  refine k_lconst (z := 0) i_125_2 rfl ?_
  refine k_ldc2 (z := 7) i_125_3 o_125 rfl (by decide) ?_
  refine k_invS (n := 3) (av := [vL x, vL 0, vL 7]) (rest := []) (el := [some (vL x), none, some (vL 0), none, some (vL 7), none]) i_125_6 o_125 rfl v_122 rfl rfl rfl rfl rfl rfl ?_
  refine c_122 (fun v6 hv6 => ?_)
  show Ok _ 125 9 [some (vI x)] [vI v6] (M) _
  refine k_zret i_125_9 rfl (by omega) ?_
  exact k _ (by omega)

theorem l_126 {d : Nat} {M : Mem} {Q : Option Vv → Mem → Prop} {r lane n : Int} (hr : 0 ≤ r ∧ r < 8) (k : Q (some (vI n)) (mu (mfill (mu (mu (mu M 281 r 1) 279 r lane) 280 r n) 282 (40 * r) (40 * r + 40) 0) 273 6 0)) : ∀ (f : Nat) (i : Int), (0 ≤ i ∧ i ≤ 40) → (40 - i).toNat < f → Ok (d + 2) 126 62 [some (vR (some 273)), some (vI r), some (vI lane), some (vI n), some (vI i)] [] (mfill (mu (mu (mu M 281 r 1) 279 r lane) 280 r n) 282 (40 * r) (40 * r + i) 0) Q := by
  intro f
  induction f with
  | zero => intro i hi hf; exact absurd hf (Nat.not_lt_zero _)
  | succ f ih =>
    intro i hi hf
    refine k_iload i_126_62 rfl ?_
    refine k_bipush i_126_64 (by decide) ?_
    refine k_icmp_ge (t := 88) i_126_66 rfl (fun h66 => ?_) (fun h66 => ?_)
    · refine k_aload_n i_126_88 rfl ?_
      refine k_iload_n i_126_89 rfl ?_
      refine k_invV (n := 1) (o' := 8) (av := [vR (some 273), vI n]) (rest := []) (el := [some (vR (some 273)), some (vI n)]) i_126_90 o_126 rfl v_124 rfl (s_273) rfl rfl rfl rfl rfl ?_
      refine c_124 ?_
      show Ok _ 126 93 [some (vR (some 273)), some (vI r), some (vI lane), some (vI n), some (vI i)] [vI n] (mu (mfill (mu (mu (mu M 281 r 1) 279 r lane) 280 r n) 282 (40 * r) (40 * r + i) 0) 273 6 0) _
      refine k_iret i_126_93 rfl ?_
      obtain rfl : i = 40 := by omega
      exact k
    · refine k_aload_n i_126_69 rfl ?_
      refine k_getR (r := 282) i_126_70 o_126 rfl (by decide) (s_273) rfl ?_
      refine k_bipush i_126_73 (by decide) ?_
      refine k_iload_n i_126_75 rfl ?_
      refine k_imul i_126_76 (by omega) ?_
      refine k_iload i_126_77 rfl ?_
      refine k_iadd i_126_79 (by omega) ?_
      refine k_iconst i_126_80 (by decide) ?_
      refine k_iast i_126_81 (s_282) (by omega) ?_
      refine k_iinc (ls' := [some (vR (some 273)), some (vI r), some (vI lane), some (vI n), some (vI (i + 1))]) i_126_82 rfl (by omega) rfl ?_
      refine k_goto (t := 62) i_126_85 rfl ?_
      rw [mfill_s (by omega), show 40 * r + i + 1 = 40 * r + (i + 1) by omega]
      exact ih (i + 1) (by omega) (by omega)

/-- ElbowQueueModel.row -/
theorem c_126 {d : Nat} {M : Mem} {Q : Option Vv → Mem → Prop} {r lane n : Int}  (k1 : ¬ (0 ≤ r ∧ r < 8 ∧ 0 ≤ lane ∧ lane ≤ 2 ∧ n ≤ 40) → Q (some (vI (-1000001))) M) (k2 : 0 ≤ r ∧ r < 8 ∧ 0 ≤ lane ∧ lane ≤ 2 ∧ n < 0 → Q (some (vI (-1000010 - 4))) (mu M 273 6 4)) (k3 : 0 ≤ r ∧ r < 8 ∧ 0 ≤ lane ∧ lane ≤ 2 ∧ 0 ≤ n ∧ n ≤ 40 → Q (some (vI n)) (mu (mfill (mu (mu (mu M 281 r 1) 279 r lane) 280 r n) 282 (40 * r) (40 * r + 40) 0) 273 6 0)) : Ok (d + 2) 126 0 [some (vR (some 273)), some (vI r), some (vI lane), some (vI n), none] [] M Q := by
  refine k_iload_n i_126_0 rfl ?_
  refine k_invS (n := 1) (av := [vI r]) (rest := []) (el := [some (vI r)]) i_126_1 o_126 rfl v_125 rfl rfl rfl rfl rfl rfl ?_
  refine c_125 (fun v1 hv1 => ?_)
  show Ok _ 126 4 [some (vR (some 273)), some (vI r), some (vI lane), some (vI n), none] [vI v1] (M) _
  refine k_if_eq (t := 25) i_126_4 rfl (fun h4 => ?_) (fun h4 => ?_)
  · refine k_ldc (z := -1000001) i_126_25 o_126 rfl (by decide) ?_
    refine k_iret i_126_27 rfl ?_
    exact k1 (by omega)
  · refine k_iload_n i_126_7 rfl ?_
    refine k_i2l i_126_8 ?_
    refine k_lconst (z := 0) i_126_9 rfl ?_
    refine k_ldc2 (z := 2) i_126_10 o_126 rfl (by decide) ?_
    refine k_invS (n := 3) (av := [vL lane, vL 0, vL 2]) (rest := []) (el := [some (vL lane), none, some (vL 0), none, some (vL 2), none]) i_126_13 o_126 rfl v_122 rfl rfl rfl rfl rfl rfl ?_
    refine c_122 (fun v13 hv13 => ?_)
    show Ok _ 126 16 [some (vR (some 273)), some (vI r), some (vI lane), some (vI n), none] [vI v13] (M) _
    refine k_if_eq (t := 25) i_126_16 rfl (fun h16 => ?_) (fun h16 => ?_)
    · refine k_ldc (z := -1000001) i_126_25 o_126 rfl (by decide) ?_
      refine k_iret i_126_27 rfl ?_
      exact k1 (by omega)
    · refine k_iload_n i_126_19 rfl ?_
      refine k_bipush i_126_20 (by decide) ?_
      refine k_icmp_le (t := 28) i_126_22 rfl (fun h22 => ?_) (fun h22 => ?_)
      · refine k_iload_n i_126_28 rfl ?_
        refine k_if_ge (t := 38) i_126_29 rfl (fun h29 => ?_) (fun h29 => ?_)
        · refine k_aload_n i_126_38 rfl ?_
          refine k_getR (r := 281) i_126_39 o_126 rfl (by decide) (s_273) rfl ?_
          refine k_iload_n i_126_42 rfl ?_
          refine k_iconst i_126_43 (by decide) ?_
          refine k_bast i_126_44 (s_281) (by omega) (by omega) ?_
          refine k_aload_n i_126_45 rfl ?_
          refine k_getR (r := 279) i_126_46 o_126 rfl (by decide) (s_273) rfl ?_
          refine k_iload_n i_126_49 rfl ?_
          refine k_iload_n i_126_50 rfl ?_
          refine k_iast i_126_51 (s_279) (by omega) ?_
          refine k_aload_n i_126_52 rfl ?_
          refine k_getR (r := 280) i_126_53 o_126 rfl (by decide) (s_273) rfl ?_
          refine k_iload_n i_126_56 rfl ?_
          refine k_iload_n i_126_57 rfl ?_
          refine k_iast i_126_58 (s_280) (by omega) ?_
          refine k_iconst i_126_59 (by decide) ?_
          refine k_istore (ls' := [some (vR (some 273)), some (vI r), some (vI lane), some (vI n), some (vI 0)]) i_126_60 rfl ?_
          rw [← mfill_0 (mu (mu (mu M 281 r 1) 279 r lane) 280 r n) 282 (40 * r) 0, show mfill (mu (mu (mu M 281 r 1) 279 r lane) 280 r n) 282 (40 * r) (40 * r) 0 = mfill (mu (mu (mu M 281 r 1) 279 r lane) 280 r n) 282 (40 * r) (40 * r + 0) 0 by rw [Int.add_zero]]
          exact l_126 (by omega) (k3 (by omega)) 41 0 (by omega) (by omega)
        · refine k_aload_n i_126_32 rfl ?_
          refine k_iconst i_126_33 (by decide) ?_
          refine k_invV (n := 1) (o' := 8) (av := [vR (some 273), vI 4]) (rest := []) (el := [some (vR (some 273)), some (vI 4)]) i_126_34 o_126 rfl v_123 rfl (s_273) rfl rfl rfl rfl rfl ?_
          refine c_123 (by omega) ?_
          show Ok _ 126 37 [some (vR (some 273)), some (vI r), some (vI lane), some (vI n), none] [vI (-1000010 - 4)] (mu M 273 6 4) _
          refine k_iret i_126_37 rfl ?_
          exact k2 (by omega)
      · refine k_ldc (z := -1000001) i_126_25 o_126 rfl (by decide) ?_
        refine k_iret i_126_27 rfl ?_
        exact k1 (by omega)

/-- ElbowQueueModel.set -/
theorem c_127 {d : Nat} {M : Mem} {Q : Option Vv → Mem → Prop} {r i v : Int} (hs : ∀ r : Int, 0 ≤ r → r < 8 → 0 ≤ M 280 r ∧ M 280 r ≤ 40) (k1 : ¬ (0 ≤ r ∧ r < 8) → Q (some (vI (-1000001))) M) (k2 : 0 ≤ r ∧ r < 8 → ¬ (¬ M 281 r = 0) → Q (some (vI (-1000010 - 1))) (mu M 273 6 1)) (k3 : 0 ≤ r ∧ r < 8 → (¬ M 281 r = 0) → ¬ (0 ≤ i ∧ i < M 280 r) → Q (some (vI (-1000010 - 2))) (mu M 273 6 2)) (k4 : 0 ≤ r ∧ r < 8 → (¬ M 281 r = 0) → (0 ≤ i ∧ i < M 280 r) → Q (some (vI (cutF (M 279 r) v))) (mu (mu M 282 (40 * r + i) (cutF (M 279 r) v)) 273 6 0)) : Ok (d + 2) 127 0 [some (vR (some 273)), some (vI r), some (vI i), some (vI v), none] [] M Q := by
  refine k_iload_n i_127_0 rfl ?_
  refine k_invS (n := 1) (av := [vI r]) (rest := []) (el := [some (vI r)]) i_127_1 o_127 rfl v_125 rfl rfl rfl rfl rfl rfl ?_
  refine c_125 (fun v1 hv1 => ?_)
  show Ok _ 127 4 [some (vR (some 273)), some (vI r), some (vI i), some (vI v), none] [vI v1] (M) _
  refine k_if_ne (t := 10) i_127_4 rfl (fun h4 => ?_) (fun h4 => ?_)
  · have hs9 := hs r (by omega) (by omega)
    refine k_aload_n i_127_10 rfl ?_
    refine k_getR (r := 281) i_127_11 o_127 rfl (by decide) (s_273) rfl ?_
    refine k_iload_n i_127_14 rfl ?_
    refine k_bald i_127_15 (s_281) (by omega) ?_
    refine k_if_ne (t := 25) i_127_16 rfl (fun h16 => ?_) (fun h16 => ?_)
    · refine k_iload_n i_127_25 rfl ?_
      refine k_i2l i_127_26 ?_
      refine k_lconst (z := 0) i_127_27 rfl ?_
      refine k_aload_n i_127_28 rfl ?_
      refine k_getR (r := 280) i_127_29 o_127 rfl (by decide) (s_273) rfl ?_
      refine k_iload_n i_127_32 rfl ?_
      refine k_iald i_127_33 (s_280) (by omega) ?_
      refine k_iconst i_127_34 (by decide) ?_
      refine k_isub i_127_35 (by omega) ?_
      refine k_i2l i_127_36 ?_
      refine k_invS (n := 3) (av := [vL i, vL 0, vL ((M 280 r) - 1)]) (rest := []) (el := [some (vL i), none, some (vL 0), none, some (vL ((M 280 r) - 1)), none]) i_127_37 o_127 rfl v_122 rfl rfl rfl rfl rfl rfl ?_
      refine c_122 (fun v37 hv37 => ?_)
      show Ok _ 127 40 [some (vR (some 273)), some (vI r), some (vI i), some (vI v), none] [vI v37] (M) _
      refine k_if_ne (t := 49) i_127_40 rfl (fun h40 => ?_) (fun h40 => ?_)
      · refine k_aload_n i_127_49 rfl ?_
        refine k_getR (r := 279) i_127_50 o_127 rfl (by decide) (s_273) rfl ?_
        refine k_iload_n i_127_53 rfl ?_
        refine k_iald i_127_54 (s_279) (by omega) ?_
        refine k_if_ne (t := 68) i_127_55 rfl (fun h55 => ?_) (fun h55 => ?_)
        · refine k_aload_n i_127_68 rfl ?_
          refine k_getR (r := 279) i_127_69 o_127 rfl (by decide) (s_273) rfl ?_
          refine k_iload_n i_127_72 rfl ?_
          refine k_iald i_127_73 (s_279) (by omega) ?_
          refine k_iconst i_127_74 (by decide) ?_
          refine k_icmp_ne (t := 88) i_127_75 rfl (fun h75 => ?_) (fun h75 => ?_)
          · refine k_iload_n i_127_88 rfl ?_
            refine k_istore (ls' := [some (vR (some 273)), some (vI r), some (vI i), some (vI v), some (vI v)]) i_127_89 rfl ?_
            refine k_aload_n i_127_91 rfl ?_
            refine k_getR (r := 282) i_127_92 o_127 rfl (by decide) (s_273) rfl ?_
            refine k_bipush i_127_95 (by decide) ?_
            refine k_iload_n i_127_97 rfl ?_
            refine k_imul i_127_98 (by omega) ?_
            refine k_iload_n i_127_99 rfl ?_
            refine k_iadd i_127_100 (by omega) ?_
            refine k_iload i_127_101 rfl ?_
            refine k_iast i_127_103 (s_282) (by omega) ?_
            refine k_aload_n i_127_104 rfl ?_
            refine k_iload i_127_105 rfl ?_
            refine k_invV (n := 1) (o' := 8) (av := [vR (some 273), vI v]) (rest := []) (el := [some (vR (some 273)), some (vI v)]) i_127_107 o_127 rfl v_124 rfl (s_273) rfl rfl rfl rfl rfl ?_
            refine c_124 ?_
            show Ok _ 127 110 [some (vR (some 273)), some (vI r), some (vI i), some (vI v), some (vI v)] [vI v] (mu (mu M 282 ((40 * r) + i) (v)) 273 6 0) _
            refine k_iret i_127_110 rfl ?_
            have ec : cutF (M 279 r) v = v := by unfold cutF; simp [*]
            rw [ec] at k4
            exact k4 (by omega) (by omega) (by omega)
          · refine k_iload_n i_127_78 rfl ?_
            refine k_bipush i_127_79 (by decide) ?_
            refine k_ishl (z := (Int32.ofInt v <<< (Int32.ofInt 16 &&& 31)).toInt) i_127_81 rfl ?_
            refine k_bipush i_127_82 (by decide) ?_
            refine k_ishr (z := (Int32.ofInt v).toInt16.toInt32.toInt) i_127_84 (shl16 v) ?_
            refine k_goto (t := 89) i_127_85 rfl ?_
            refine k_istore (ls' := [some (vR (some 273)), some (vI r), some (vI i), some (vI v), some (vI ((Int32.ofInt v).toInt16.toInt32.toInt))]) i_127_89 rfl ?_
            refine k_aload_n i_127_91 rfl ?_
            refine k_getR (r := 282) i_127_92 o_127 rfl (by decide) (s_273) rfl ?_
            refine k_bipush i_127_95 (by decide) ?_
            refine k_iload_n i_127_97 rfl ?_
            refine k_imul i_127_98 (by omega) ?_
            refine k_iload_n i_127_99 rfl ?_
            refine k_iadd i_127_100 (by omega) ?_
            refine k_iload i_127_101 rfl ?_
            refine k_iast i_127_103 (s_282) (by omega) ?_
            refine k_aload_n i_127_104 rfl ?_
            refine k_iload i_127_105 rfl ?_
            refine k_invV (n := 1) (o' := 8) (av := [vR (some 273), vI ((Int32.ofInt v).toInt16.toInt32.toInt)]) (rest := []) (el := [some (vR (some 273)), some (vI ((Int32.ofInt v).toInt16.toInt32.toInt))]) i_127_107 o_127 rfl v_124 rfl (s_273) rfl rfl rfl rfl rfl ?_
            refine c_124 ?_
            show Ok _ 127 110 [some (vR (some 273)), some (vI r), some (vI i), some (vI v), some (vI ((Int32.ofInt v).toInt16.toInt32.toInt))] [vI ((Int32.ofInt v).toInt16.toInt32.toInt)] (mu (mu M 282 ((40 * r) + i) ((Int32.ofInt v).toInt16.toInt32.toInt)) 273 6 0) _
            refine k_iret i_127_110 rfl ?_
            have ec : cutF (M 279 r) v = (Int32.ofInt v).toInt16.toInt32.toInt := by unfold cutF; simp [*]
            rw [ec] at k4
            exact k4 (by omega) (by omega) (by omega)
        · refine k_iload_n i_127_58 rfl ?_
          refine k_bipush i_127_59 (by decide) ?_
          refine k_ishl (z := (Int32.ofInt v <<< (Int32.ofInt 24 &&& 31)).toInt) i_127_61 rfl ?_
          refine k_bipush i_127_62 (by decide) ?_
          refine k_ishr (z := (Int32.ofInt v).toInt8.toInt32.toInt) i_127_64 (shl8 v) ?_
          refine k_goto (t := 89) i_127_65 rfl ?_
          refine k_istore (ls' := [some (vR (some 273)), some (vI r), some (vI i), some (vI v), some (vI ((Int32.ofInt v).toInt8.toInt32.toInt))]) i_127_89 rfl ?_
          refine k_aload_n i_127_91 rfl ?_
          refine k_getR (r := 282) i_127_92 o_127 rfl (by decide) (s_273) rfl ?_
          refine k_bipush i_127_95 (by decide) ?_
          refine k_iload_n i_127_97 rfl ?_
          refine k_imul i_127_98 (by omega) ?_
          refine k_iload_n i_127_99 rfl ?_
          refine k_iadd i_127_100 (by omega) ?_
          refine k_iload i_127_101 rfl ?_
          refine k_iast i_127_103 (s_282) (by omega) ?_
          refine k_aload_n i_127_104 rfl ?_
          refine k_iload i_127_105 rfl ?_
          refine k_invV (n := 1) (o' := 8) (av := [vR (some 273), vI ((Int32.ofInt v).toInt8.toInt32.toInt)]) (rest := []) (el := [some (vR (some 273)), some (vI ((Int32.ofInt v).toInt8.toInt32.toInt))]) i_127_107 o_127 rfl v_124 rfl (s_273) rfl rfl rfl rfl rfl ?_
          refine c_124 ?_
          show Ok _ 127 110 [some (vR (some 273)), some (vI r), some (vI i), some (vI v), some (vI ((Int32.ofInt v).toInt8.toInt32.toInt))] [vI ((Int32.ofInt v).toInt8.toInt32.toInt)] (mu (mu M 282 ((40 * r) + i) ((Int32.ofInt v).toInt8.toInt32.toInt)) 273 6 0) _
          refine k_iret i_127_110 rfl ?_
          have ec : cutF (M 279 r) v = (Int32.ofInt v).toInt8.toInt32.toInt := by unfold cutF; simp [*]
          rw [ec] at k4
          exact k4 (by omega) (by omega) (by omega)
      · refine k_aload_n i_127_43 rfl ?_
        refine k_iconst i_127_44 (by decide) ?_
        refine k_invV (n := 1) (o' := 8) (av := [vR (some 273), vI 2]) (rest := []) (el := [some (vR (some 273)), some (vI 2)]) i_127_45 o_127 rfl v_123 rfl (s_273) rfl rfl rfl rfl rfl ?_
        refine c_123 (by omega) ?_
        show Ok _ 127 48 [some (vR (some 273)), some (vI r), some (vI i), some (vI v), none] [vI (-1000010 - 2)] (mu M 273 6 2) _
        refine k_iret i_127_48 rfl ?_
        exact k3 (by omega) (by omega) (by omega)
    · refine k_aload_n i_127_19 rfl ?_
      refine k_iconst i_127_20 (by decide) ?_
      refine k_invV (n := 1) (o' := 8) (av := [vR (some 273), vI 1]) (rest := []) (el := [some (vR (some 273)), some (vI 1)]) i_127_21 o_127 rfl v_123 rfl (s_273) rfl rfl rfl rfl rfl ?_
      refine c_123 (by omega) ?_
      show Ok _ 127 24 [some (vR (some 273)), some (vI r), some (vI i), some (vI v), none] [vI (-1000010 - 1)] (mu M 273 6 1) _
      refine k_iret i_127_24 rfl ?_
      exact k2 (by omega) (by omega)
  · refine k_ldc (z := -1000001) i_127_7 o_127 rfl (by decide) ?_
    refine k_iret i_127_9 rfl ?_
    exact k1 (by omega)

theorem mcp_0 (M : Mem) (a : Nat) (sp : Int) (b : Nat) (dp : Int) : mcp M a sp b dp 0 = M := by
  funext c j
  unfold mcp
  rw [if_neg (by omega)]
/-- one more of a copy, the source another cell than the target -/
theorem mcp_s {M : Mem} {a b : Nat} {sp dp n : Int} (hab : a ≠ b) (h : 0 ≤ n) : mu (mcp M a sp b dp n) b (dp + n) (mcp M a sp b dp n a (sp + n)) = mcp M a sp b dp (n + 1) := by
  have e0 : mcp M a sp b dp n a (sp + n) = M a (sp + n) := if_neg (fun q => hab q.1)
  rw [e0]
  funext c j
  unfold mu mcp
  by_cases e : c = b ∧ j = dp + n
  · rw [if_pos e, if_pos (by omega), show sp + (j - dp) = sp + n by omega]
  · rw [if_neg e]
    by_cases e2 : c = b ∧ dp ≤ j ∧ j < dp + n
    · rw [if_pos e2, if_pos (by omega)]
    · rw [if_neg e2, if_neg (by omega)]

theorem l_128b {d : Nat} {M : Mem} {Q : Option Vv → Mem → Prop} {a i b j n : Int} (ha : 0 ≤ a ∧ a < 8) (hb : 0 ≤ b ∧ b < 8) (hn : 0 ≤ i ∧ 0 ≤ j ∧ 0 ≤ n ∧ i + n ≤ 40 ∧ j + n ≤ 40) (k : Q (some (vI n)) (mu (mcp (mcp M 282 (40 * a + i) 283 0 n) 283 0 282 (40 * b + j) n) 273 6 0)) : ∀ (f : Nat) (t : Int), (0 ≤ t ∧ t ≤ n) → (n - t).toNat < f → Ok (d + 2) 128 157 [some (vR (some 273)), some (vI a), some (vI i), some (vI b), some (vI j), some (vI n), some (vI t)] [] (mcp (mcp M 282 (40 * a + i) 283 0 n) 283 0 282 (40 * b + j) t) Q := by
  intro f
  induction f with
  | zero => intro t ht hf; exact absurd hf (Nat.not_lt_zero _)
  | succ f ih =>
    intro t ht hf
    refine k_iload i_128_157 rfl ?_
    refine k_iload i_128_159 rfl ?_
    refine k_icmp_ge (t := 192) i_128_161 rfl (fun h161 => ?_) (fun h161 => ?_)
    · refine k_aload_n i_128_192 rfl ?_
      refine k_iload i_128_193 rfl ?_
      refine k_invV (n := 1) (o' := 8) (av := [vR (some 273), vI n]) (rest := []) (el := [some (vR (some 273)), some (vI n)]) i_128_195 o_128 rfl v_124 rfl (s_273) rfl rfl rfl rfl rfl ?_
      refine c_124 ?_
      show Ok _ 128 198 [some (vR (some 273)), some (vI a), some (vI i), some (vI b), some (vI j), some (vI n), some (vI t)] [vI n] (mu (mcp (mcp M 282 (40 * a + i) 283 0 n) 283 0 282 (40 * b + j) t) 273 6 0) _
      refine k_iret i_128_198 rfl ?_
      obtain rfl : t = n := by omega
      exact k
    · refine k_aload_n i_128_164 rfl ?_
      refine k_getR (r := 282) i_128_165 o_128 rfl (by decide) (s_273) rfl ?_
      refine k_bipush i_128_168 (by decide) ?_
      refine k_iload_n i_128_170 rfl ?_
      refine k_imul i_128_171 (by omega) ?_
      refine k_iload i_128_172 rfl ?_
      refine k_iadd i_128_174 (by omega) ?_
      refine k_iload i_128_175 rfl ?_
      refine k_iadd i_128_177 (by omega) ?_
      refine k_aload_n i_128_178 rfl ?_
      refine k_getR (r := 283) i_128_179 o_128 rfl (by decide) (s_273) rfl ?_
      refine k_iload i_128_182 rfl ?_
      refine k_iald i_128_184 (s_283) (by omega) ?_
      refine k_iast i_128_185 (s_282) (by omega) ?_
      refine k_iinc (ls' := [some (vR (some 273)), some (vI a), some (vI i), some (vI b), some (vI j), some (vI n), some (vI (t + 1))]) i_128_186 rfl (by omega) rfl ?_
      refine k_goto (t := 157) i_128_189 rfl ?_
      have e1 := mcp_s (M := mcp M 282 (40 * a + i) 283 0 n) (a := 283) (b := 282) (sp := 0) (dp := 40 * b + j) (n := t) (by decide) ht.1
      rw [Int.zero_add] at e1
      rw [e1]
      exact ih (t + 1) (by omega) (by omega)

theorem l_128a {d : Nat} {M : Mem} {Q : Option Vv → Mem → Prop} {a i b j n : Int} (ha : 0 ≤ a ∧ a < 8) (hb : 0 ≤ b ∧ b < 8) (hn : 0 ≤ i ∧ 0 ≤ j ∧ 0 ≤ n ∧ i + n ≤ 40 ∧ j + n ≤ 40) (k : Q (some (vI n)) (mu (mcp (mcp M 282 (40 * a + i) 283 0 n) 283 0 282 (40 * b + j) n) 273 6 0)) : ∀ (f : Nat) (t : Int), (0 ≤ t ∧ t ≤ n) → (n - t).toNat < f → Ok (d + 2) 128 120 [some (vR (some 273)), some (vI a), some (vI i), some (vI b), some (vI j), some (vI n), some (vI t)] [] (mcp M 282 (40 * a + i) 283 0 t) Q := by
  intro f
  induction f with
  | zero => intro t ht hf; exact absurd hf (Nat.not_lt_zero _)
  | succ f ih =>
    intro t ht hf
    refine k_iload i_128_120 rfl ?_
    refine k_iload i_128_122 rfl ?_
    refine k_icmp_ge (t := 154) i_128_124 rfl (fun h124 => ?_) (fun h124 => ?_)
    · refine k_iconst i_128_154 (by decide) ?_
      refine k_istore (ls' := [some (vR (some 273)), some (vI a), some (vI i), some (vI b), some (vI j), some (vI n), some (vI 0)]) i_128_155 rfl ?_
      obtain rfl : t = n := by omega
      rw [← mcp_0 (mcp M 282 (40 * a + i) 283 0 t) 283 0 282 (40 * b + j)]
      exact l_128b ha hb hn k (t.toNat + 1) 0 (by omega) (by omega)
    · refine k_aload_n i_128_127 rfl ?_
      refine k_getR (r := 283) i_128_128 o_128 rfl (by decide) (s_273) rfl ?_
      refine k_iload i_128_131 rfl ?_
      refine k_aload_n i_128_133 rfl ?_
      refine k_getR (r := 282) i_128_134 o_128 rfl (by decide) (s_273) rfl ?_
      refine k_bipush i_128_137 (by decide) ?_
      refine k_iload_n i_128_139 rfl ?_
      refine k_imul i_128_140 (by omega) ?_
      refine k_iload_n i_128_141 rfl ?_
      refine k_iadd i_128_142 (by omega) ?_
      refine k_iload i_128_143 rfl ?_
      refine k_iadd i_128_145 (by omega) ?_
      refine k_iald i_128_146 (s_282) (by omega) ?_
      refine k_iast i_128_147 (s_283) (by omega) ?_
      refine k_iinc (ls' := [some (vR (some 273)), some (vI a), some (vI i), some (vI b), some (vI j), some (vI n), some (vI (t + 1))]) i_128_148 rfl (by omega) rfl ?_
      refine k_goto (t := 120) i_128_151 rfl ?_
      have e1 := mcp_s (M := M) (a := 282) (b := 283) (sp := 40 * a + i) (dp := 0) (n := t) (by decide) ht.1
      rw [Int.zero_add] at e1
      rw [e1]
      exact ih (t + 1) (by omega) (by omega)

/-- ElbowQueueModel.copy -/
theorem c_128 {d : Nat} {M : Mem} {Q : Option Vv → Mem → Prop} {a i b j n : Int} (hs : ∀ r : Int, 0 ≤ r → r < 8 → 0 ≤ M 280 r ∧ M 280 r ≤ 40) (hii : inR i) (hij : inR j) (hin : inR n) (k1 : ¬ (0 ≤ a ∧ a < 8 ∧ 0 ≤ b ∧ b < 8) → Q (some (vI (-1000001))) M) (k2 : (0 ≤ a ∧ a < 8 ∧ 0 ≤ b ∧ b < 8) → ¬ (¬ M 281 a = 0 ∧ ¬ M 281 b = 0) → Q (some (vI (-1000010 - 1))) (mu M 273 6 1)) (k3 : (0 ≤ a ∧ a < 8 ∧ 0 ≤ b ∧ b < 8) → (¬ M 281 a = 0 ∧ ¬ M 281 b = 0) → ¬ M 279 a = M 279 b → Q (some (vI (-1000010 - 5))) (mu M 273 6 5)) (k4 : (0 ≤ a ∧ a < 8 ∧ 0 ≤ b ∧ b < 8) → (¬ M 281 a = 0 ∧ ¬ M 281 b = 0) → M 279 a = M 279 b → ¬ (0 ≤ i ∧ 0 ≤ j ∧ 0 ≤ n ∧ i + n ≤ M 280 a ∧ j + n ≤ M 280 b) → Q (some (vI (-1000010 - 2))) (mu M 273 6 2)) (k5 : (0 ≤ a ∧ a < 8 ∧ 0 ≤ b ∧ b < 8) → (¬ M 281 a = 0 ∧ ¬ M 281 b = 0) → M 279 a = M 279 b → (0 ≤ i ∧ 0 ≤ j ∧ 0 ≤ n ∧ i + n ≤ M 280 a ∧ j + n ≤ M 280 b) → Q (some (vI n)) (mu (mcp (mcp M 282 (40 * a + i) 283 0 n) 283 0 282 (40 * b + j) n) 273 6 0)) : Ok (d + 2) 128 0 [some (vR (some 273)), some (vI a), some (vI i), some (vI b), some (vI j), some (vI n), none] [] M Q := by
  refine k_iload_n i_128_0 rfl ?_
  refine k_invS (n := 1) (av := [vI a]) (rest := []) (el := [some (vI a)]) i_128_1 o_128 rfl v_125 rfl rfl rfl rfl rfl rfl ?_
  refine c_125 (fun v1 hv1 => ?_)
  show Ok _ 128 4 [some (vR (some 273)), some (vI a), some (vI i), some (vI b), some (vI j), some (vI n), none] [vI v1] (M) _
  refine k_if_eq (t := 14) i_128_4 rfl (fun h4 => ?_) (fun h4 => ?_)
  · refine k_ldc (z := -1000001) i_128_14 o_128 rfl (by decide) ?_
    refine k_iret i_128_16 rfl ?_
    exact k1 (by omega)
  · refine k_iload_n i_128_7 rfl ?_
    refine k_invS (n := 1) (av := [vI b]) (rest := []) (el := [some (vI b)]) i_128_8 o_128 rfl v_125 rfl rfl rfl rfl rfl rfl ?_
    refine c_125 (fun v8 hv8 => ?_)
    show Ok _ 128 11 [some (vR (some 273)), some (vI a), some (vI i), some (vI b), some (vI j), some (vI n), none] [vI v8] (M) _
    refine k_if_ne (t := 17) i_128_11 rfl (fun h11 => ?_) (fun h11 => ?_)
    · have hs8 := hs a (by omega) (by omega)
      have hs9 := hs b (by omega) (by omega)
      refine k_aload_n i_128_17 rfl ?_
      refine k_getR (r := 281) i_128_18 o_128 rfl (by decide) (s_273) rfl ?_
      refine k_iload_n i_128_21 rfl ?_
      refine k_bald i_128_22 (s_281) (by omega) ?_
      refine k_if_eq (t := 35) i_128_23 rfl (fun h23 => ?_) (fun h23 => ?_)
      · refine k_aload_n i_128_35 rfl ?_
        refine k_iconst i_128_36 (by decide) ?_
        refine k_invV (n := 1) (o' := 8) (av := [vR (some 273), vI 1]) (rest := []) (el := [some (vR (some 273)), some (vI 1)]) i_128_37 o_128 rfl v_123 rfl (s_273) rfl rfl rfl rfl rfl ?_
        refine c_123 (by omega) ?_
        show Ok _ 128 40 [some (vR (some 273)), some (vI a), some (vI i), some (vI b), some (vI j), some (vI n), none] [vI (-1000010 - 1)] (mu M 273 6 1) _
        refine k_iret i_128_40 rfl ?_
        exact k2 (by omega) (by omega)
      · refine k_aload_n i_128_26 rfl ?_
        refine k_getR (r := 281) i_128_27 o_128 rfl (by decide) (s_273) rfl ?_
        refine k_iload_n i_128_30 rfl ?_
        refine k_bald i_128_31 (s_281) (by omega) ?_
        refine k_if_ne (t := 41) i_128_32 rfl (fun h32 => ?_) (fun h32 => ?_)
        · refine k_aload_n i_128_41 rfl ?_
          refine k_getR (r := 279) i_128_42 o_128 rfl (by decide) (s_273) rfl ?_
          refine k_iload_n i_128_45 rfl ?_
          refine k_iald i_128_46 (s_279) (by omega) ?_
          refine k_aload_n i_128_47 rfl ?_
          refine k_getR (r := 279) i_128_48 o_128 rfl (by decide) (s_273) rfl ?_
          refine k_iload_n i_128_51 rfl ?_
          refine k_iald i_128_52 (s_279) (by omega) ?_
          refine k_icmp_eq (t := 62) i_128_53 rfl (fun h53 => ?_) (fun h53 => ?_)
          · refine k_iload_n i_128_62 rfl ?_
            refine k_if_lt (t := 111) i_128_63 rfl (fun h63 => ?_) (fun h63 => ?_)
            · refine k_aload_n i_128_111 rfl ?_
              refine k_iconst i_128_112 (by decide) ?_
              refine k_invV (n := 1) (o' := 8) (av := [vR (some 273), vI 2]) (rest := []) (el := [some (vR (some 273)), some (vI 2)]) i_128_113 o_128 rfl v_123 rfl (s_273) rfl rfl rfl rfl rfl ?_
              refine c_123 (by omega) ?_
              show Ok _ 128 116 [some (vR (some 273)), some (vI a), some (vI i), some (vI b), some (vI j), some (vI n), none] [vI (-1000010 - 2)] (mu M 273 6 2) _
              refine k_iret i_128_116 rfl ?_
              exact k4 (by omega) (by omega) (by omega) (by omega)
            · refine k_iload i_128_66 rfl ?_
              refine k_if_lt (t := 111) i_128_68 rfl (fun h68 => ?_) (fun h68 => ?_)
              · refine k_aload_n i_128_111 rfl ?_
                refine k_iconst i_128_112 (by decide) ?_
                refine k_invV (n := 1) (o' := 8) (av := [vR (some 273), vI 2]) (rest := []) (el := [some (vR (some 273)), some (vI 2)]) i_128_113 o_128 rfl v_123 rfl (s_273) rfl rfl rfl rfl rfl ?_
                refine c_123 (by omega) ?_
                show Ok _ 128 116 [some (vR (some 273)), some (vI a), some (vI i), some (vI b), some (vI j), some (vI n), none] [vI (-1000010 - 2)] (mu M 273 6 2) _
                refine k_iret i_128_116 rfl ?_
                exact k4 (by omega) (by omega) (by omega) (by omega)
              · refine k_iload i_128_71 rfl ?_
                refine k_if_lt (t := 111) i_128_73 rfl (fun h73 => ?_) (fun h73 => ?_)
                · refine k_aload_n i_128_111 rfl ?_
                  refine k_iconst i_128_112 (by decide) ?_
                  refine k_invV (n := 1) (o' := 8) (av := [vR (some 273), vI 2]) (rest := []) (el := [some (vR (some 273)), some (vI 2)]) i_128_113 o_128 rfl v_123 rfl (s_273) rfl rfl rfl rfl rfl ?_
                  refine c_123 (by omega) ?_
                  show Ok _ 128 116 [some (vR (some 273)), some (vI a), some (vI i), some (vI b), some (vI j), some (vI n), none] [vI (-1000010 - 2)] (mu M 273 6 2) _
                  refine k_iret i_128_116 rfl ?_
                  exact k4 (by omega) (by omega) (by omega) (by omega)
                · refine k_iload_n i_128_76 rfl ?_
                  refine k_i2l i_128_77 ?_
                  refine k_iload i_128_78 rfl ?_
                  refine k_i2l i_128_80 ?_
                  refine k_ladd i_128_81 ⟨by omega, by omega⟩ ?_
                  refine k_aload_n i_128_82 rfl ?_
                  refine k_getR (r := 280) i_128_83 o_128 rfl (by decide) (s_273) rfl ?_
                  refine k_iload_n i_128_86 rfl ?_
                  refine k_iald i_128_87 (s_280) (by omega) ?_
                  refine k_i2l i_128_88 ?_
                  refine k_lcmp i_128_89 ?_
                  obtain ⟨z89, hz89⟩ : ∃ z : Int, z = (if ((i) + (n)) < (M 280 a) then (-1 : Int) else if ((i) + (n)) = (M 280 a) then 0 else 1) := ⟨_, rfl⟩
                  rw [← hz89]
                  have gz89 : (z89 = -1 ∧ ((i) + (n)) < (M 280 a)) ∨ (z89 = 0 ∧ ((i) + (n)) = (M 280 a)) ∨ (z89 = 1 ∧ (M 280 a) < ((i) + (n))) := by rw [hz89]; split <;> first | omega | (split <;> omega)
                  refine k_if_gt (t := 111) i_128_90 rfl (fun h90 => ?_) (fun h90 => ?_)
                  · refine k_aload_n i_128_111 rfl ?_
                    refine k_iconst i_128_112 (by decide) ?_
                    refine k_invV (n := 1) (o' := 8) (av := [vR (some 273), vI 2]) (rest := []) (el := [some (vR (some 273)), some (vI 2)]) i_128_113 o_128 rfl v_123 rfl (s_273) rfl rfl rfl rfl rfl ?_
                    refine c_123 (by omega) ?_
                    show Ok _ 128 116 [some (vR (some 273)), some (vI a), some (vI i), some (vI b), some (vI j), some (vI n), none] [vI (-1000010 - 2)] (mu M 273 6 2) _
                    refine k_iret i_128_116 rfl ?_
                    exact k4 (by omega) (by omega) (by omega) (by omega)
                  · refine k_iload i_128_93 rfl ?_
                    refine k_i2l i_128_95 ?_
                    refine k_iload i_128_96 rfl ?_
                    refine k_i2l i_128_98 ?_
                    refine k_ladd i_128_99 ⟨by omega, by omega⟩ ?_
                    refine k_aload_n i_128_100 rfl ?_
                    refine k_getR (r := 280) i_128_101 o_128 rfl (by decide) (s_273) rfl ?_
                    refine k_iload_n i_128_104 rfl ?_
                    refine k_iald i_128_105 (s_280) (by omega) ?_
                    refine k_i2l i_128_106 ?_
                    refine k_lcmp i_128_107 ?_
                    obtain ⟨z107, hz107⟩ : ∃ z : Int, z = (if ((j) + (n)) < (M 280 b) then (-1 : Int) else if ((j) + (n)) = (M 280 b) then 0 else 1) := ⟨_, rfl⟩
                    rw [← hz107]
                    have gz107 : (z107 = -1 ∧ ((j) + (n)) < (M 280 b)) ∨ (z107 = 0 ∧ ((j) + (n)) = (M 280 b)) ∨ (z107 = 1 ∧ (M 280 b) < ((j) + (n))) := by rw [hz107]; split <;> first | omega | (split <;> omega)
                    refine k_if_le (t := 117) i_128_108 rfl (fun h108 => ?_) (fun h108 => ?_)
                    · refine k_iconst i_128_117 (by decide) ?_
                      refine k_istore (ls' := [some (vR (some 273)), some (vI a), some (vI i), some (vI b), some (vI j), some (vI n), some (vI 0)]) i_128_118 rfl ?_
                      rw [← mcp_0 M 282 (40 * a + i) 283 0]
                      exact l_128a (by omega) (by omega) (by omega) (k5 (by omega) (by omega) (by omega) (by omega)) (n.toNat + 1) 0 (by omega) (by omega)
                    · refine k_aload_n i_128_111 rfl ?_
                      refine k_iconst i_128_112 (by decide) ?_
                      refine k_invV (n := 1) (o' := 8) (av := [vR (some 273), vI 2]) (rest := []) (el := [some (vR (some 273)), some (vI 2)]) i_128_113 o_128 rfl v_123 rfl (s_273) rfl rfl rfl rfl rfl ?_
                      refine c_123 (by omega) ?_
                      show Ok _ 128 116 [some (vR (some 273)), some (vI a), some (vI i), some (vI b), some (vI j), some (vI n), none] [vI (-1000010 - 2)] (mu M 273 6 2) _
                      refine k_iret i_128_116 rfl ?_
                      exact k4 (by omega) (by omega) (by omega) (by omega)
          · refine k_aload_n i_128_56 rfl ?_
            refine k_iconst i_128_57 (by decide) ?_
            refine k_invV (n := 1) (o' := 8) (av := [vR (some 273), vI 5]) (rest := []) (el := [some (vR (some 273)), some (vI 5)]) i_128_58 o_128 rfl v_123 rfl (s_273) rfl rfl rfl rfl rfl ?_
            refine c_123 (by omega) ?_
            show Ok _ 128 61 [some (vR (some 273)), some (vI a), some (vI i), some (vI b), some (vI j), some (vI n), none] [vI (-1000010 - 5)] (mu M 273 6 5) _
            refine k_iret i_128_61 rfl ?_
            exact k3 (by omega) (by omega) (by omega)
        · refine k_aload_n i_128_35 rfl ?_
          refine k_iconst i_128_36 (by decide) ?_
          refine k_invV (n := 1) (o' := 8) (av := [vR (some 273), vI 1]) (rest := []) (el := [some (vR (some 273)), some (vI 1)]) i_128_37 o_128 rfl v_123 rfl (s_273) rfl rfl rfl rfl rfl ?_
          refine c_123 (by omega) ?_
          show Ok _ 128 40 [some (vR (some 273)), some (vI a), some (vI i), some (vI b), some (vI j), some (vI n), none] [vI (-1000010 - 1)] (mu M 273 6 1) _
          refine k_iret i_128_40 rfl ?_
          exact k2 (by omega) (by omega)
    · refine k_ldc (z := -1000001) i_128_14 o_128 rfl (by decide) ?_
      refine k_iret i_128_16 rfl ?_
      exact k1 (by omega)

/-- ElbowQueueModel.drop -/
theorem c_129 {d : Nat} {M : Mem} {Q : Option Vv → Mem → Prop} {r : Int}  (k1 : ¬ (0 ≤ r ∧ r < 8) → Q (some (vI (-1000001))) M) (k2 : 0 ≤ r ∧ r < 8 → ¬ (¬ M 281 r = 0) → Q (some (vI (-1000010 - 1))) (mu M 273 6 1)) (k3 : 0 ≤ r ∧ r < 8 → (¬ M 281 r = 0) → Q (some (vI (mu M 281 r 0 280 r))) (mu (mu M 281 r 0) 273 6 0)) : Ok (d + 2) 129 0 [some (vR (some 273)), some (vI r)] [] M Q := by
  refine k_iload_n i_129_0 rfl ?_
  refine k_invS (n := 1) (av := [vI r]) (rest := []) (el := [some (vI r)]) i_129_1 o_129 rfl v_125 rfl rfl rfl rfl rfl rfl ?_
  refine c_125 (fun v1 hv1 => ?_)
  show Ok _ 129 4 [some (vR (some 273)), some (vI r)] [vI v1] (M) _
  refine k_if_ne (t := 10) i_129_4 rfl (fun h4 => ?_) (fun h4 => ?_)
  · refine k_aload_n i_129_10 rfl ?_
    refine k_getR (r := 281) i_129_11 o_129 rfl (by decide) (s_273) rfl ?_
    refine k_iload_n i_129_14 rfl ?_
    refine k_bald i_129_15 (s_281) (by omega) ?_
    refine k_if_ne (t := 25) i_129_16 rfl (fun h16 => ?_) (fun h16 => ?_)
    · refine k_aload_n i_129_25 rfl ?_
      refine k_getR (r := 281) i_129_26 o_129 rfl (by decide) (s_273) rfl ?_
      refine k_iload_n i_129_29 rfl ?_
      refine k_iconst i_129_30 (by decide) ?_
      refine k_bast i_129_31 (s_281) (by omega) (by omega) ?_
      refine k_aload_n i_129_32 rfl ?_
      refine k_aload_n i_129_33 rfl ?_
      refine k_getR (r := 280) i_129_34 o_129 rfl (by decide) (s_273) rfl ?_
      refine k_iload_n i_129_37 rfl ?_
      refine k_iald i_129_38 (s_280) (by omega) ?_
      rw [mu_ne (M := M) (a := 281) (b := 280) (i := r) (x := 0) (by omega)]
      refine k_invV (n := 1) (o' := 8) (av := [vR (some 273), vI (M 280 r)]) (rest := []) (el := [some (vR (some 273)), some (vI (M 280 r))]) i_129_39 o_129 rfl v_124 rfl (s_273) rfl rfl rfl rfl rfl ?_
      refine c_124 ?_
      show Ok _ 129 42 [some (vR (some 273)), some (vI r)] [vI (M 280 r)] (mu (mu M 281 (r) (0)) 273 6 0) _
      refine k_iret i_129_42 rfl ?_
      exact k3 (by omega) (by omega)
    · refine k_aload_n i_129_19 rfl ?_
      refine k_iconst i_129_20 (by decide) ?_
      refine k_invV (n := 1) (o' := 8) (av := [vR (some 273), vI 1]) (rest := []) (el := [some (vR (some 273)), some (vI 1)]) i_129_21 o_129 rfl v_123 rfl (s_273) rfl rfl rfl rfl rfl ?_
      refine c_123 (by omega) ?_
      show Ok _ 129 24 [some (vR (some 273)), some (vI r)] [vI (-1000010 - 1)] (mu M 273 6 1) _
      refine k_iret i_129_24 rfl ?_
      exact k2 (by omega) (by omega)
  · refine k_ldc (z := -1000001) i_129_7 o_129 rfl (by decide) ?_
    refine k_iret i_129_9 rfl ?_
    exact k1 (by omega)
end
section
/-! THE TOWN, as a mathematical value -/
/-- kinds, patience, need, people, waiters -/
abbrev Kt : Type := (Int → Int) × (Int → Int) × (Int → Int) × Int × Int
/-- queue, where, stood, belief, origin, minute, cause, serves, next -/
abbrev Tt : Type := List Int × (Int → Int) × (Int → Int) × (Int → Int) × (Int → Int) × Int × Int × Int × Int
def kKd (K : Kt) : Int → Int := K.1
def kPa (K : Kt) : Int → Int := K.2.1
def kNe (K : Kt) : Int → Int := K.2.2.1
def kPe (K : Kt) : Int := K.2.2.2.1
def kWt (K : Kt) : Int := K.2.2.2.2
def tQ (T : Tt) : List Int := T.1
def tW (T : Tt) : Int → Int := T.2.1
def tS (T : Tt) : Int → Int := T.2.2.1
def tB (T : Tt) : Int → Int := T.2.2.2.1
def tO (T : Tt) : Int → Int := T.2.2.2.2.1
def tMi (T : Tt) : Int := T.2.2.2.2.2.1
def tCa (T : Tt) : Int := T.2.2.2.2.2.2.1
def tSe (T : Tt) : Int := T.2.2.2.2.2.2.2.1
def tNx (T : Tt) : Int := T.2.2.2.2.2.2.2.2
def mkT (q : List Int) (w s b o : Int → Int) (mi ca se nx : Int) : Tt := (q, w, s, b, o, mi, ca, se, nx)
section MKT
variable (q : List Int) (w s b o : Int → Int) (mi ca se nx : Int)
theorem mk_q : tQ (mkT q w s b o mi ca se nx) = q := rfl
theorem mk_w : tW (mkT q w s b o mi ca se nx) = w := rfl
theorem mk_s : tS (mkT q w s b o mi ca se nx) = s := rfl
theorem mk_b : tB (mkT q w s b o mi ca se nx) = b := rfl
theorem mk_o : tO (mkT q w s b o mi ca se nx) = o := rfl
theorem mk_mi : tMi (mkT q w s b o mi ca se nx) = mi := rfl
theorem mk_ca : tCa (mkT q w s b o mi ca se nx) = ca := rfl
theorem mk_se : tSe (mkT q w s b o mi ca se nx) = se := rfl
theorem mk_nx : tNx (mkT q w s b o mi ca se nx) = nx := rfl
end MKT
def up (f : Int → Int) (k v : Int) : Int → Int := fun j => if j = k then v else f j
theorem up_s (f : Int → Int) (k v : Int) : up f k v k = v := if_pos rfl
theorem up_n (f : Int → Int) {k j : Int} (v : Int) (h : j ≠ k) : up f k v j = f j := if_neg h
/-- who is of the town: people, and m elbows -/
def Va (K : Kt) (m p : Int) : Prop := (0 ≤ p ∧ p < kPe K) ∨ (16 ≤ p ∧ p < 16 + m)
/-- what is told of people keeps its bounds -/
def KOk (K : Kt) (m : Int) : Prop := (0 ≤ kPe K ∧ kPe K ≤ 16 ∧ 0 ≤ kWt K ∧ kWt K ≤ 8 ∧ kWt K ≤ kPe K ∧ kPe K - kWt K ≤ 8 ∧ 0 ≤ m ∧ m ≤ 12) ∧ ∀ p, Va K m p → (1 ≤ kKd K p ∧ kKd K p ≤ 5 ∧ 0 ≤ kPa K p ∧ kPa K p ≤ 99)
def TOk (K : Kt) (m : Int) (T : Tt) : Prop :=
  (tQ T).Nodup ∧ (∀ p ∈ tQ T, (0 ≤ p ∧ p < tNx T) ∨ (16 ≤ p ∧ p < 16 + m)) ∧ (0 ≤ tNx T ∧ tNx T ≤ kPe K ∧ ((tQ T).length : Int) ≤ tNx T + m ∧ 0 ≤ tMi T ∧ tMi T ≤ 100000 ∧ 0 ≤ tCa T ∧ tCa T ≤ 3 ∧ 0 ≤ tSe T ∧ tSe T ≤ 9) ∧
  (∀ p, Va K m p → (0 ≤ tS T p ∧ tS T p ≤ tMi T ∧ 0 ≤ tB T p ∧ tB T p ≤ 3)) ∧
  (∀ p, Va K m p → (tW T p = 1 ↔ p ∈ tQ T)) ∧ (∀ p, tNx T ≤ p → p < kPe K → tW T p = 0) ∧ (∀ p, 0 ≤ p → p < tNx T → p ∉ tQ T → 2 ≤ tW T p ∧ tW T p ≤ 4)
theorem TOk.va {K : Kt} {m : Int} {T : Tt} (h : TOk K m T) {p : Int} (hp : p ∈ tQ T) : Va K m p := by
  have h1 := h.2.1 p hp
  have h2 := h.2.2.1.2.1
  unfold Va
  omega
/-! a minute -/
def bel (K : Kt) (T : Tt) (p : Int) : Int := if kKd K p = 4 then tCa T else tB T p
abbrev takes (K : Kt) (T : Tt) (p : Int) : Prop := kKd K p = 2 ∨ ((kKd K p = 1 ∨ kKd K p = 3) ∧ tB T p = 0)
/-- who stands ahead of p -/
def fore (T : Tt) (p : Int) : Int := (tQ T).getD ((tQ T).idxOf p - 1) 0
/-- is told something, by his place, from lo on, below hi -/
abbrev hrs (K : Kt) (T : Tt) (lo hi : Nat) (p : Int) : Prop := lo ≤ (tQ T).idxOf p ∧ (tQ T).idxOf p < hi ∧ ¬ bel K T (fore T p) = 0 ∧ takes K T p
def tellB (K : Kt) (T : Tt) (lo hi : Nat) (p : Int) : Int := if hrs K T lo hi p then bel K T (fore T p) else tB T p
def tellO (K : Kt) (T : Tt) (lo hi : Nat) (p : Int) : Int := if hrs K T lo hi p then tO T (fore T p) else tO T p
def tellP (K : Kt) (T : Tt) (lo hi : Nat) : Tt := mkT (tQ T) (tW T) (tS T) (tellB K T lo hi) (tellO K T lo hi) (tMi T) (tCa T) (tSe T) (tNx T)
def tellF (K : Kt) (T : Tt) : Tt := tellP K T 1 (tQ T).length
def tickF (T : Tt) : Tt := mkT (tQ T) (tW T) (tS T) (tB T) (tO T) (tMi T + 1) (tCa T) (tSe T) (tNx T)
/-- who is at place k goes, w is where -/
def outF (T : Tt) (k : Nat) (w : Int) : Tt := mkT ((tQ T).eraseIdx k) (up (tW T) ((tQ T).getD k 0) w) (tS T) (tB T) (tO T) (tMi T) (tCa T) (tSe T) (tNx T)
def servF (T : Tt) : Tt := if ¬ tSe T = 0 ∧ (tMi T).tmod (tSe T) = 0 ∧ 0 < (tQ T).length then outF T 0 2 else T
def hopes (K : Kt) (T : Tt) (p : Int) : Int := if tB T p = 0 then kPa K p else 2 * kPa K p
def bears (K : Kt) (T : Tt) (p : Int) : Int := if kKd K p = 4 then kPa K p else if kKd K p = 5 then (kPa K p).tdiv 2 else if kKd K p = 3 then hopes K T p + (tS T p).tdiv 2 else hopes K T p
/-- all in the queue have stood 1 more -/
def olderF (T : Tt) : Tt := mkT (tQ T) (tW T) (fun p => if p ∈ tQ T then tS T p + 1 else tS T p) (tB T) (tO T) (tMi T) (tCa T) (tSe T) (tNx T)
def stays (K : Kt) (T : Tt) (crowd : Bool) (p : Int) : Bool := (crowd && decide (kKd K p = 2)) || decide (tS T p ≤ bears K T p)
/-- those of places from lo on, below hi, go if they don't stay -/
def leaveW (K : Kt) (T : Tt) (crowd : Bool) (lo hi : Nat) (p : Int) : Int := if lo ≤ (tQ T).idxOf p ∧ (tQ T).idxOf p < hi ∧ stays K T crowd p = false then 3 else tW T p
def leaveF (K : Kt) (T : Tt) (crowd : Bool) : Tt := mkT ((tQ T).filter (stays K T crowd)) (leaveW K T crowd 0 (tQ T).length) (tS T) (tB T) (tO T) (tMi T) (tCa T) (tSe T) (tNx T)
def standF (K : Kt) (T : Tt) : Tt := leaveF K (olderF T) (decide (6 ≤ (tQ T).length))
def joinF (T : Tt) (p : Int) : Tt := mkT (tQ T ++ [p]) (up (tW T) p 1) (tS T) (tB T) (tO T) (tMi T) (tCa T) (tSe T) (tNx T)
def meetF (K : Kt) (T : Tt) (there : Int) : Tt :=
  if tNx T < kPe K then (if ¬ there = 0 ∧ kNe K (tNx T) ≤ (tQ T).length then joinF (mkT (tQ T) (tW T) (tS T) (tB T) (tO T) (tMi T) (tCa T) (tSe T) (tNx T + 1)) (tNx T)
    else mkT (tQ T) (up (tW T) (tNx T) 4) (tS T) (tB T) (tO T) (tMi T) (tCa T) (tSe T) (tNx T + 1)) else T
def minF (K : Kt) (T : Tt) (there : Int) : Tt := meetF K (standF K (servF (tickF (tellF K T)))) there
/-! the class's town at a, told at t -/
def Tw (a t rm : Nat) : Prop := SS[a]? = some (6, 11, [some t, some (a + 1), some (a + 2), some (a + 3), some (a + 4), some (a + 5), none, none, none, none, none]) ∧ SS[a + 1]? = some (20, rm, []) ∧ SS[a + 2]? = some (20, rm, []) ∧ SS[a + 3]? = some (20, rm, []) ∧ SS[a + 4]? = some (20, rm, []) ∧ SS[a + 5]? = some (20, rm, [])
def RepC (M : Mem) (a : Nat) (K : Kt) (m : Int) (T : Tt) : Prop :=
  M a 6 = tMi T ∧ M a 7 = tCa T ∧ M a 8 = tSe T ∧ M a 9 = (tQ T).length ∧ M a 10 = tNx T ∧
  (∀ (i : Nat) (p : Int), (tQ T)[i]? = some p → M (a + 1) i = p) ∧
  ∀ p, Va K m p → M (a + 2) p = tB T p ∧ M (a + 3) p = tW T p ∧ M (a + 4) p = tS T p ∧ M (a + 5) p = tO T p
def RepK (M : Mem) (t : Nat) (K : Kt) (m : Int) : Prop := M t 7 = kPe K ∧ M t 6 = kWt K ∧ ∀ p, Va K m p → M (t + 1) p = kKd K p ∧ M (t + 2) p = kPa K p ∧ (p < kPe K → M (t + 4) p = kNe K p)
/-- nothing but the town at a has changed -/
def OutT (M M' : Mem) (a : Nat) : Prop := ∀ b j, (b < a ∨ a + 5 < b) → M' b j = M b j
theorem OutT.rf (M : Mem) (a : Nat) : OutT M M a := fun _ _ _ => rfl
theorem OutT.tr {M M1 M2 : Mem} {a : Nat} (h : OutT M M1 a) (h2 : OutT M1 M2 a) : OutT M M2 a := fun b j hb => (h2 b j hb).trans (h b j hb)
theorem OutT.mu {M M1 : Mem} {a b : Nat} {j v : Int} (h : OutT M M1 a) (hb : a ≤ b ∧ b ≤ a + 5) : OutT M (mu M1 b j v) a := fun c i hc => by
  rw [mu_ne (by omega)]
  exact h c i hc
theorem RepK.out {M M' : Mem} {a t : Nat} {K : Kt} {m : Int} (h : RepK M t K m) (ho : OutT M M' a) (ht : t + 4 < a ∨ a + 5 < t) : RepK M' t K m := by
  obtain ⟨h1, h2, h3⟩ := h
  refine ⟨by rw [ho _ _ (by omega)]; exact h1, by rw [ho _ _ (by omega)]; exact h2, fun p hp => ?_⟩
  obtain ⟨g1, g2, g3⟩ := h3 p hp
  exact ⟨by rw [ho _ _ (by omega)]; exact g1, by rw [ho _ _ (by omega)]; exact g2, fun q => by rw [ho _ _ (by omega)]; exact g3 q⟩
theorem mu_s (M : Mem) (a : Nat) (i v : Int) : mu M a i v a i = v := if_pos ⟨rfl, rfl⟩
theorem mu_j {M : Mem} {a b : Nat} {i j v : Int} (h : j ≠ i) : mu M a i v b j = M b j := if_neg (fun q => h q.2)
/-! queue places -/
theorem q_at {l : List Int} {i : Nat} (h : i < l.length) : l[i]? = some (l.getD i 0) := by
  rw [List.getD_eq_getElem?_getD, List.getElem?_eq_getElem h]
  rfl
theorem q_mem {l : List Int} {i : Nat} (h : i < l.length) : l.getD i 0 ∈ l := List.mem_of_getElem? (q_at h)
theorem q_idx {l : List Int} (hn : l.Nodup) {i : Nat} (h : i < l.length) : l.idxOf (l.getD i 0) = i := by
  have e : l.getD i 0 = l[i] := by rw [List.getD_eq_getElem?_getD, List.getElem?_eq_getElem h]; rfl
  rw [e]
  exact hn.idxOf_getElem i h
theorem q_get {l : List Int} {p : Int} (h : p ∈ l) : l.getD (l.idxOf p) 0 = p := by
  have hl := List.idxOf_lt_length_of_mem h
  rw [List.getD_eq_getElem?_getD, List.getElem?_eq_getElem hl]
  simp
theorem q_idx_lt {l : List Int} {p : Int} {n : Nat} (h : l.idxOf p < n) (hn : n ≤ l.length) : p ∈ l := List.idxOf_lt_length_iff.mp (Nat.lt_of_lt_of_le h hn)
theorem RepC.q {M : Mem} {a : Nat} {K : Kt} {m : Int} {T : Tt} (h : RepC M a K m T) {i : Int} (h0 : 0 ≤ i) (h1 : i < (tQ T).length) : M (a + 1) i = (tQ T).getD i.toNat 0 := by
  have h2 := h.2.2.2.2.2.1 i.toNat _ (q_at (by omega))
  rw [Int.toNat_of_nonneg h0] at h2
  exact h2
def whoF (T : Tt) (i : Int) : Int := if 0 ≤ i ∧ i < ((tQ T).length : Int) then (tQ T).getD i.toNat 0 else -1000000
theorem tdv {x : Int} (h : 0 ≤ x) : 0 ≤ x.tdiv 2 ∧ x.tdiv 2 ≤ x := by
  rw [Int.tdiv_eq_ediv_of_nonneg h]
  omega
/-- the people's side alone -/
def RepP (M : Mem) (a : Nat) (K : Kt) (m : Int) (T : Tt) : Prop := M a 7 = tCa T ∧ ∀ p, Va K m p → M (a + 2) p = tB T p ∧ M (a + 3) p = tW T p ∧ M (a + 4) p = tS T p ∧ M (a + 5) p = tO T p
theorem RepC.p {M : Mem} {a : Nat} {K : Kt} {m : Int} {T : Tt} (h : RepC M a K m T) : RepP M a K m T := ⟨h.2.1, h.2.2.2.2.2.2⟩
theorem bears_congr {K : Kt} {T U : Tt} {p : Int} (h1 : tB T p = tB U p) (h2 : tS T p = tS U p) : bears K T p = bears K U p := by
  unfold bears hopes
  rw [h1, h2]
section TELL
variable {K : Kt} {T : Tt} {k : Nat}
theorem tell_ne (hn : (tQ T).Nodup) {p : Int} (hp : p ≠ (tQ T).getD k 0) : hrs K T k (tQ T).length p ↔ hrs K T (k + 1) (tQ T).length p := by
  constructor
  · rintro ⟨h1, h2, h3⟩
    refine ⟨?_, h2, h3⟩
    rcases Nat.lt_or_ge k ((tQ T).idxOf p) with q | q
    · exact q
    · have e : (tQ T).idxOf p = k := Nat.le_antisymm q h1
      exact absurd (by rw [← e, q_get (q_idx_lt h2 (Nat.le_refl _))]) hp
  · rintro ⟨h1, h2, h3⟩
    exact ⟨by omega, h2, h3⟩
theorem tellB_ne (hn : (tQ T).Nodup) {p : Int} (hp : p ≠ (tQ T).getD k 0) : tellB K T k (tQ T).length p = tellB K T (k + 1) (tQ T).length p := by
  unfold tellB
  by_cases h : hrs K T k (tQ T).length p
  · rw [if_pos h, if_pos ((tell_ne hn hp).mp h)]
  · rw [if_neg h, if_neg (fun q => h ((tell_ne hn hp).mpr q))]
theorem tellO_ne (hn : (tQ T).Nodup) {p : Int} (hp : p ≠ (tQ T).getD k 0) : tellO K T k (tQ T).length p = tellO K T (k + 1) (tQ T).length p := by
  unfold tellO
  by_cases h : hrs K T k (tQ T).length p
  · rw [if_pos h, if_pos ((tell_ne hn hp).mp h)]
  · rw [if_neg h, if_neg (fun q => h ((tell_ne hn hp).mpr q))]
theorem fore_x (hn : (tQ T).Nodup) (hk : k < (tQ T).length) : fore T ((tQ T).getD k 0) = (tQ T).getD (k - 1) 0 := by
  unfold fore
  rw [q_idx hn hk]
theorem hrs_x (hn : (tQ T).Nodup) (hk : k < (tQ T).length) : hrs K T k (tQ T).length ((tQ T).getD k 0) ↔ (¬ bel K T ((tQ T).getD (k - 1) 0) = 0 ∧ takes K T ((tQ T).getD k 0)) := by
  unfold hrs
  rw [q_idx hn hk, fore_x hn hk]
  exact ⟨fun h => h.2.2, fun h => ⟨Nat.le_refl _, hk, h⟩⟩
theorem hrs_lo (hn : (tQ T).Nodup) {lo i hi : Nat} (hi' : i < (tQ T).length) (h : i < lo) : ¬ hrs K T lo hi ((tQ T).getD i 0) := by
  intro q
  have := q.1
  rw [q_idx hn hi'] at this
  omega
theorem tellB_lo (hn : (tQ T).Nodup) {lo i hi : Nat} (hi' : i < (tQ T).length) (h : i < lo) : tellB K T lo hi ((tQ T).getD i 0) = tB T ((tQ T).getD i 0) := if_neg (hrs_lo hn hi' h)
theorem tellO_lo (hn : (tQ T).Nodup) {lo i hi : Nat} (hi' : i < (tQ T).length) (h : i < lo) : tellO K T lo hi ((tQ T).getD i 0) = tO T ((tQ T).getD i 0) := if_neg (hrs_lo hn hi' h)
theorem tellP_skip (hn : (tQ T).Nodup) (hk : k < (tQ T).length) (h : ¬ (¬ bel K T ((tQ T).getD (k - 1) 0) = 0 ∧ takes K T ((tQ T).getD k 0))) : tellP K T k (tQ T).length = tellP K T (k + 1) (tQ T).length := by
  have e1 : tellB K T k (tQ T).length = tellB K T (k + 1) (tQ T).length := by
    funext p
    by_cases hp : p = (tQ T).getD k 0
    · subst hp
      rw [tellB_lo hn hk (Nat.lt_succ_self k)]
      exact if_neg (fun q => h ((hrs_x hn hk).mp q))
    · exact tellB_ne hn hp
  have e2 : tellO K T k (tQ T).length = tellO K T (k + 1) (tQ T).length := by
    funext p
    by_cases hp : p = (tQ T).getD k 0
    · subst hp
      rw [tellO_lo hn hk (Nat.lt_succ_self k)]
      exact if_neg (fun q => h ((hrs_x hn hk).mp q))
    · exact tellO_ne hn hp
  unfold tellP
  rw [e1, e2]
theorem tellP_0 (hl : (tQ T).length = 0) (lo lo' : Nat) : tellP K T lo (tQ T).length = tellP K T lo' (tQ T).length := by
  have e : ∀ lo p, ¬ hrs K T lo (tQ T).length p := fun lo p q => by have := q.2.1; omega
  have e1 : tellB K T lo (tQ T).length = tellB K T lo' (tQ T).length := by
    funext p
    unfold tellB
    rw [if_neg (e _ _), if_neg (e _ _)]
  have e2 : tellO K T lo (tQ T).length = tellO K T lo' (tQ T).length := by
    funext p
    unfold tellO
    rw [if_neg (e _ _), if_neg (e _ _)]
  unfold tellP
  rw [e1, e2]
/-- nothing told yet -/
theorem tellP_n {lo : Nat} (hl : lo = (tQ T).length) : tellP K T lo (tQ T).length = mkT (tQ T) (tW T) (tS T) (tB T) (tO T) (tMi T) (tCa T) (tSe T) (tNx T) := by
  have e : ∀ p, ¬ hrs K T lo (tQ T).length p := fun p q => by have := q.1; have := q.2.1; omega
  have e1 : tellB K T lo (tQ T).length = tB T := by
    funext p
    exact if_neg (e _)
  have e2 : tellO K T lo (tQ T).length = tO T := by
    funext p
    exact if_neg (e _)
  unfold tellP
  rw [e1, e2]
theorem mk_eta (T : Tt) : mkT (tQ T) (tW T) (tS T) (tB T) (tO T) (tMi T) (tCa T) (tSe T) (tNx T) = T := rfl
end TELL
end
section
set_option maxRecDepth 100000 in
/-- ElbowQueue$Town.believes -/
theorem c_63 {d : Nat} {M : Mem} {Q : Option Vv → Mem → Prop} {a rm : Nat} {K : Kt} {m : Int} {T : Tt} {i : Int} (ht : Tw a 20 rm) (hrm : 16 + m ≤ (rm : Int) ∧ (rm : Int) ≤ 28) (hKo : KOk K m) (hK : RepK M 20 K m) (hP : RepP M a K m T) (hv : Va K m i) (k : ∀ v : Int, v = (bel K T i) → Q (some (vI v)) M) : Ok d 63 0 [some (vR (some a)), some (vI i)] [] M Q := by
  obtain ⟨⟨g1, g2, g3, g4, g5, g6, g7, g8⟩, hKp⟩ := id hKo
  obtain ⟨r7, rp⟩ := id hP
  have k1 : M 20 7 = kPe K := hK.1
  have k2 : M 20 6 = kWt K := hK.2.1
  have hv2 : (0 ≤ i ∧ i < kPe K) ∨ (16 ≤ i ∧ i < 16 + m) := hv
  obtain ⟨e2, e3, e4, e5⟩ := rp i hv
  have e1 : M 21 i = kKd K i := (hK.2.2 i hv).1
  have e6 : M 22 i = kPa K i := (hK.2.2 i hv).2.1
  have e7 := hKp i hv
  refine k_aload_n i_63_0 rfl ?_
  refine k_getR (r := 20) i_63_1 o_63 rfl (by decide) (ht.1) rfl ?_
  refine k_getR (r := 21) i_63_4 o_63 rfl (by decide) (s_20) rfl ?_
  refine k_iload_n i_63_7 rfl ?_
  refine k_iald i_63_8 (s_21) (by omega) ?_
  refine k_iconst i_63_9 (by decide) ?_
  refine k_icmp_ne (t := 20) i_63_10 rfl (fun h10 => ?_) (fun h10 => ?_)
  · refine k_aload_n i_63_20 rfl ?_
    refine k_getR (r := (a + 2)) i_63_21 o_63 rfl (by decide) (ht.1) rfl ?_
    refine k_iload_n i_63_24 rfl ?_
    refine k_iald i_63_25 (ht.2.2.1) (by omega) ?_
    refine k_iret i_63_26 rfl ?_
    exact k _ (by unfold bel; split <;> omega)
  · refine k_aload_n i_63_13 rfl ?_
    refine k_getI (kz := 7) i_63_14 o_63 rfl (by decide) (ht.1) rfl ?_
    refine k_goto (t := 26) i_63_17 rfl ?_
    refine k_iret i_63_26 rfl ?_
    exact k _ (by unfold bel; split <;> omega)

/-- ElbowQueue$Town.takesOn -/
theorem c_74 {d : Nat} {M : Mem} {Q : Option Vv → Mem → Prop} {a rm : Nat} {K : Kt} {m : Int} {T : Tt} {i : Int} (ht : Tw a 20 rm) (hrm : 16 + m ≤ (rm : Int) ∧ (rm : Int) ≤ 28) (hKo : KOk K m) (hK : RepK M 20 K m) (hP : RepP M a K m T) (hv : Va K m i) (k : ∀ v : Int, (v = 1 ∧ (takes K T i)) ∨ (v = 0 ∧ ¬ (takes K T i)) → Q (some (vI v)) M) : Ok d 74 0 [some (vR (some a)), some (vI i), none] [] M Q := by
  obtain ⟨⟨g1, g2, g3, g4, g5, g6, g7, g8⟩, hKp⟩ := id hKo
  obtain ⟨r7, rp⟩ := id hP
  have k1 : M 20 7 = kPe K := hK.1
  have k2 : M 20 6 = kWt K := hK.2.1
  have hv2 : (0 ≤ i ∧ i < kPe K) ∨ (16 ≤ i ∧ i < 16 + m) := hv
  obtain ⟨e2, e3, e4, e5⟩ := rp i hv
  have e1 : M 21 i = kKd K i := (hK.2.2 i hv).1
  have e6 : M 22 i = kPa K i := (hK.2.2 i hv).2.1
  have e7 := hKp i hv
  refine k_aload_n i_74_0 rfl ?_
  refine k_getR (r := 20) i_74_1 o_74 rfl (by decide) (ht.1) rfl ?_
  refine k_getR (r := 21) i_74_4 o_74 rfl (by decide) (s_20) rfl ?_
  refine k_iload_n i_74_7 rfl ?_
  refine k_iald i_74_8 (s_21) (by omega) ?_
  refine k_istore_n (ls' := [some (vR (some a)), some (vI i), some (vI (M 21 i))]) i_74_9 rfl ?_
  refine k_iload_n i_74_10 rfl ?_
  refine k_iconst i_74_11 (by decide) ?_
  refine k_icmp_eq (t := 34) i_74_12 rfl (fun h12 => ?_) (fun h12 => ?_)
  · refine k_iconst i_74_34 (by decide) ?_
    refine k_goto (t := 39) i_74_35 rfl ?_
    refine k_zret i_74_39 rfl (by omega) ?_
    exact k _ (by unfold takes; omega)
  · refine k_iload_n i_74_15 rfl ?_
    refine k_iconst i_74_16 (by decide) ?_
    refine k_icmp_eq (t := 25) i_74_17 rfl (fun h17 => ?_) (fun h17 => ?_)
    · refine k_aload_n i_74_25 rfl ?_
      refine k_getR (r := (a + 2)) i_74_26 o_74 rfl (by decide) (ht.1) rfl ?_
      refine k_iload_n i_74_29 rfl ?_
      refine k_iald i_74_30 (ht.2.2.1) (by omega) ?_
      refine k_if_ne (t := 38) i_74_31 rfl (fun h31 => ?_) (fun h31 => ?_)
      · refine k_iconst i_74_38 (by decide) ?_
        refine k_zret i_74_39 rfl (by omega) ?_
        exact k _ (by unfold takes; omega)
      · refine k_iconst i_74_34 (by decide) ?_
        refine k_goto (t := 39) i_74_35 rfl ?_
        refine k_zret i_74_39 rfl (by omega) ?_
        exact k _ (by unfold takes; omega)
    · refine k_iload_n i_74_20 rfl ?_
      refine k_iconst i_74_21 (by decide) ?_
      refine k_icmp_ne (t := 38) i_74_22 rfl (fun h22 => ?_) (fun h22 => ?_)
      · refine k_iconst i_74_38 (by decide) ?_
        refine k_zret i_74_39 rfl (by omega) ?_
        exact k _ (by unfold takes; omega)
      · refine k_aload_n i_74_25 rfl ?_
        refine k_getR (r := (a + 2)) i_74_26 o_74 rfl (by decide) (ht.1) rfl ?_
        refine k_iload_n i_74_29 rfl ?_
        refine k_iald i_74_30 (ht.2.2.1) (by omega) ?_
        refine k_if_ne (t := 38) i_74_31 rfl (fun h31 => ?_) (fun h31 => ?_)
        · refine k_iconst i_74_38 (by decide) ?_
          refine k_zret i_74_39 rfl (by omega) ?_
          exact k _ (by unfold takes; omega)
        · refine k_iconst i_74_34 (by decide) ?_
          refine k_goto (t := 39) i_74_35 rfl ?_
          refine k_zret i_74_39 rfl (by omega) ?_
          exact k _ (by unfold takes; omega)

/-- ElbowQueue$Town.hoped -/
theorem c_78 {d : Nat} {M : Mem} {Q : Option Vv → Mem → Prop} {a rm : Nat} {K : Kt} {m : Int} {T : Tt} {i pt : Int} (ht : Tw a 20 rm) (hrm : 16 + m ≤ (rm : Int) ∧ (rm : Int) ≤ 28) (hKo : KOk K m) (hK : RepK M 20 K m) (hP : RepP M a K m T) (hv : Va K m i) (hpt : 0 ≤ pt ∧ pt ≤ 99) (k : ∀ v : Int, v = (if tB T i = 0 then pt else 2 * pt) → Q (some (vI v)) M) : Ok d 78 0 [some (vR (some a)), some (vI i), some (vI pt)] [] M Q := by
  obtain ⟨⟨g1, g2, g3, g4, g5, g6, g7, g8⟩, hKp⟩ := id hKo
  obtain ⟨r7, rp⟩ := id hP
  have k1 : M 20 7 = kPe K := hK.1
  have k2 : M 20 6 = kWt K := hK.2.1
  have hv2 : (0 ≤ i ∧ i < kPe K) ∨ (16 ≤ i ∧ i < 16 + m) := hv
  obtain ⟨e2, e3, e4, e5⟩ := rp i hv
  have e1 : M 21 i = kKd K i := (hK.2.2 i hv).1
  have e6 : M 22 i = kPa K i := (hK.2.2 i hv).2.1
  have e7 := hKp i hv
  refine k_aload_n i_78_0 rfl ?_
  refine k_getR (r := (a + 2)) i_78_1 o_78 rfl (by decide) (ht.1) rfl ?_
  refine k_iload_n i_78_4 rfl ?_
  refine k_iald i_78_5 (ht.2.2.1) (by omega) ?_
  refine k_if_ne (t := 13) i_78_6 rfl (fun h6 => ?_) (fun h6 => ?_)
  · refine k_iconst i_78_13 (by decide) ?_
    refine k_iload_n i_78_14 rfl ?_
    refine k_imul i_78_15 (by omega) ?_
    refine k_iret i_78_16 rfl ?_
    exact k _ (by split <;> omega)
  · refine k_iload_n i_78_9 rfl ?_
    refine k_goto (t := 16) i_78_10 rfl ?_
    refine k_iret i_78_16 rfl ?_
    exact k _ (by split <;> omega)

/-- ElbowQueue$Town.bears -/
theorem c_77 {d : Nat} {M : Mem} {Q : Option Vv → Mem → Prop} {a rm : Nat} {K : Kt} {m : Int} {T : Tt} {i : Int} (ht : Tw a 20 rm) (hrm : 16 + m ≤ (rm : Int) ∧ (rm : Int) ≤ 28) (hKo : KOk K m) (hK : RepK M 20 K m) (hP : RepP M a K m T) (hv : Va K m i) (hsi : 0 ≤ tS T i ∧ tS T i ≤ 1000000) (k : ∀ v : Int, v = (bears K T i) → Q (some (vI v)) M) : Ok (d + 1) 77 0 [some (vR (some a)), some (vI i), none] [] M Q := by
  obtain ⟨⟨g1, g2, g3, g4, g5, g6, g7, g8⟩, hKp⟩ := id hKo
  obtain ⟨r7, rp⟩ := id hP
  have k1 : M 20 7 = kPe K := hK.1
  have k2 : M 20 6 = kWt K := hK.2.1
  have hv2 : (0 ≤ i ∧ i < kPe K) ∨ (16 ≤ i ∧ i < 16 + m) := hv
  obtain ⟨e2, e3, e4, e5⟩ := rp i hv
  have e1 : M 21 i = kKd K i := (hK.2.2 i hv).1
  have e6 : M 22 i = kPa K i := (hK.2.2 i hv).2.1
  have e7 := hKp i hv
  have q1 := tdv (x := M (a + 4) i) (by omega)
  have q2 := tdv (x := M 22 i) (by omega)
  refine k_aload_n i_77_0 rfl ?_
  refine k_getR (r := 20) i_77_1 o_77 rfl (by decide) (ht.1) rfl ?_
  refine k_getR (r := 22) i_77_4 o_77 rfl (by decide) (s_20) rfl ?_
  refine k_iload_n i_77_7 rfl ?_
  refine k_iald i_77_8 (s_22) (by omega) ?_
  refine k_istore_n (ls' := [some (vR (some a)), some (vI i), some (vI (M 22 i))]) i_77_9 rfl ?_
  refine k_aload_n i_77_10 rfl ?_
  refine k_getR (r := 20) i_77_11 o_77 rfl (by decide) (ht.1) rfl ?_
  refine k_getR (r := 21) i_77_14 o_77 rfl (by decide) (s_20) rfl ?_
  refine k_iload_n i_77_17 rfl ?_
  refine k_iald i_77_18 (s_21) (by omega) ?_
  rcases (show (M 21 i) = 3 ∨ (M 21 i) = 4 ∨ (M 21 i) = 5 ∨ ((M 21 i) < 3 ∨ 5 < (M 21 i)) by omega) with hx19 | hx19 | hx19 | hx19
  · refine k_tab (off := 31) (t := 50) i_77_19 (by rw [hx19]; rfl) rfl ?_
    refine k_aload_n i_77_50 rfl ?_
    refine k_iload_n i_77_51 rfl ?_
    refine k_iload_n i_77_52 rfl ?_
    refine k_invV (n := 2) (o' := 6) (av := [vR (some a), vI i, vI (M 22 i)]) (rest := []) (el := [some (vR (some a)), some (vI i), some (vI (M 22 i))]) i_77_53 o_77 rfl v_78 rfl (ht.1) rfl rfl rfl rfl rfl ?_
    refine c_78 ht hrm hKo hK hP hv (by omega) (fun v53 hv53 => ?_)
    show Ok _ 77 56 [some (vR (some a)), some (vI i), some (vI (M 22 i))] [vI v53] (M) _
    refine k_aload_n i_77_56 rfl ?_
    refine k_getR (r := (a + 4)) i_77_57 o_77 rfl (by decide) (ht.1) rfl ?_
    refine k_iload_n i_77_60 rfl ?_
    refine k_iald i_77_61 (ht.2.2.2.2.1) (by omega) ?_
    refine k_iconst i_77_62 (by decide) ?_
    refine k_idiv i_77_63 (by decide) ⟨by omega, by omega⟩ ?_
    refine k_iadd i_77_64 (by omega) ?_
    refine k_iret i_77_65 rfl ?_
    refine k _ ?_
    unfold bears hopes
    simp only [← e1, ← e6, ← e4]
    repeat (first | omega | split)
  · refine k_tab (off := 25) (t := 44) i_77_19 (by rw [hx19]; rfl) rfl ?_
    refine k_iload_n i_77_44 rfl ?_
    refine k_iret i_77_45 rfl ?_
    refine k _ ?_
    unfold bears hopes
    simp only [← e1, ← e6, ← e4]
    repeat (first | omega | split)
  · refine k_tab (off := 27) (t := 46) i_77_19 (by rw [hx19]; rfl) rfl ?_
    refine k_iload_n i_77_46 rfl ?_
    refine k_iconst i_77_47 (by decide) ?_
    refine k_idiv i_77_48 (by decide) ⟨by omega, by omega⟩ ?_
    refine k_iret i_77_49 rfl ?_
    refine k _ ?_
    unfold bears hopes
    simp only [← e1, ← e6, ← e4]
    repeat (first | omega | split)
  · refine k_tab (off := 47) (t := 66) i_77_19 (if_pos hx19) rfl ?_
    refine k_aload_n i_77_66 rfl ?_
    refine k_iload_n i_77_67 rfl ?_
    refine k_iload_n i_77_68 rfl ?_
    refine k_invV (n := 2) (o' := 6) (av := [vR (some a), vI i, vI (M 22 i)]) (rest := []) (el := [some (vR (some a)), some (vI i), some (vI (M 22 i))]) i_77_69 o_77 rfl v_78 rfl (ht.1) rfl rfl rfl rfl rfl ?_
    refine c_78 ht hrm hKo hK hP hv (by omega) (fun v69 hv69 => ?_)
    show Ok _ 77 72 [some (vR (some a)), some (vI i), some (vI (M 22 i))] [vI v69] (M) _
    refine k_iret i_77_72 rfl ?_
    refine k _ ?_
    unfold bears hopes
    simp only [← e1, ← e6, ← e4]
    repeat (first | omega | split)

/-- ElbowQueue$Town.whoIsAt -/
theorem c_65 {d : Nat} {M : Mem} {Q : Option Vv → Mem → Prop} {a rm : Nat} {K : Kt} {m : Int} {T : Tt} {i : Int} (ht : Tw a 20 rm) (hR : RepC M a K m T) (hl : ((tQ T).length : Int) ≤ rm) (k : ∀ v : Int, v = (whoF T i) → Q (some (vI v)) M) : Ok d 65 0 [some (vR (some a)), some (vI i)] [] M Q := by
  obtain ⟨r6, r7, r8, r9, r10, rq, rp⟩ := id hR
  refine k_iload_n i_65_0 rfl ?_
  refine k_if_lt (t := 21) i_65_1 rfl (fun h1 => ?_) (fun h1 => ?_)
  · refine k_ldc (z := -1000000) i_65_21 o_65 rfl (by decide) ?_
    refine k_iret i_65_23 rfl ?_
    exact k _ (by unfold whoF; rw [if_neg (by omega)])
  · refine k_iload_n i_65_4 rfl ?_
    refine k_aload_n i_65_5 rfl ?_
    refine k_getI (kz := 9) i_65_6 o_65 rfl (by decide) (ht.1) rfl ?_
    refine k_icmp_ge (t := 21) i_65_9 rfl (fun h9 => ?_) (fun h9 => ?_)
    · refine k_ldc (z := -1000000) i_65_21 o_65 rfl (by decide) ?_
      refine k_iret i_65_23 rfl ?_
      exact k _ (by unfold whoF; rw [if_neg (by omega)])
    · refine k_aload_n i_65_12 rfl ?_
      refine k_getR (r := (a + 1)) i_65_13 o_65 rfl (by decide) (ht.1) rfl ?_
      refine k_iload_n i_65_16 rfl ?_
      refine k_iald i_65_17 (ht.2.1) (by omega) ?_
      refine k_goto (t := 23) i_65_18 rfl ?_
      refine k_iret i_65_23 rfl ?_
      exact k _ (by unfold whoF; rw [if_pos (by omega)]; exact hR.q (by omega) (by omega))

/-- ElbowQueue$Town.hasPasserToCome -/
theorem c_68 {d : Nat} {M : Mem} {Q : Option Vv → Mem → Prop} {a rm : Nat} {K : Kt} {m : Int} {T : Tt} (ht : Tw a 20 rm) (hrm : 16 + m ≤ (rm : Int) ∧ (rm : Int) ≤ 28) (hKo : KOk K m) (hK : RepK M 20 K m) (hR : RepC M a K m T) (k : ∀ v : Int, (v = 1 ∧ (tNx T < kPe K)) ∨ (v = 0 ∧ ¬ (tNx T < kPe K)) → Q (some (vI v)) M) : Ok d 68 0 [some (vR (some a))] [] M Q := by
  obtain ⟨⟨g1, g2, g3, g4, g5, g6, g7, g8⟩, hKp⟩ := id hKo
  obtain ⟨r6, r7, r8, r9, r10, rq, rp⟩ := id hR
  have k1 : M 20 7 = kPe K := hK.1
  have k2 : M 20 6 = kWt K := hK.2.1
  refine k_aload_n i_68_0 rfl ?_
  refine k_getI (kz := 10) i_68_1 o_68 rfl (by decide) (ht.1) rfl ?_
  refine k_aload_n i_68_4 rfl ?_
  refine k_getR (r := 20) i_68_5 o_68 rfl (by decide) (ht.1) rfl ?_
  refine k_getI (kz := 7) i_68_8 o_68 rfl (by decide) (s_20) rfl ?_
  refine k_icmp_ge (t := 18) i_68_11 rfl (fun h11 => ?_) (fun h11 => ?_)
  · refine k_iconst i_68_18 (by decide) ?_
    refine k_zret i_68_19 rfl (by omega) ?_
    exact k _ (by omega)
  · refine k_iconst i_68_14 (by decide) ?_
    refine k_goto (t := 19) i_68_15 rfl ?_
    refine k_zret i_68_19 rfl (by omega) ?_
    exact k _ (by omega)

/-- ElbowQueue$Town.isOver -/
theorem c_69 {d : Nat} {M : Mem} {Q : Option Vv → Mem → Prop} {a rm : Nat} {K : Kt} {m : Int} {T : Tt} (ht : Tw a 20 rm) (hrm : 16 + m ≤ (rm : Int) ∧ (rm : Int) ≤ 28) (hKo : KOk K m) (hK : RepK M 20 K m) (hR : RepC M a K m T) (k : ∀ v : Int, (v = 1 ∧ ((tQ T).length = 0 ∧ ¬ tNx T < kPe K)) ∨ (v = 0 ∧ ¬ ((tQ T).length = 0 ∧ ¬ tNx T < kPe K)) → Q (some (vI v)) M) : Ok (d + 1) 69 0 [some (vR (some a))] [] M Q := by
  obtain ⟨⟨g1, g2, g3, g4, g5, g6, g7, g8⟩, hKp⟩ := id hKo
  obtain ⟨r6, r7, r8, r9, r10, rq, rp⟩ := id hR
  have k1 : M 20 7 = kPe K := hK.1
  have k2 : M 20 6 = kWt K := hK.2.1
  refine k_aload_n i_69_0 rfl ?_
  refine k_getI (kz := 9) i_69_1 o_69 rfl (by decide) (ht.1) rfl ?_
  refine k_if_ne (t := 18) i_69_4 rfl (fun h4 => ?_) (fun h4 => ?_)
  · refine k_iconst i_69_18 (by decide) ?_
    refine k_zret i_69_19 rfl (by omega) ?_
    exact k _ (by omega)
  · refine k_aload_n i_69_7 rfl ?_
    refine k_invV (n := 0) (o' := 6) (av := [vR (some a)]) (rest := []) (el := [some (vR (some a))]) i_69_8 o_69 rfl v_68 rfl (ht.1) rfl rfl rfl rfl rfl ?_
    refine c_68 ht hrm hKo hK hR (fun v8 hv8 => ?_)
    show Ok _ 69 11 [some (vR (some a))] [vI v8] (M) _
    refine k_if_ne (t := 18) i_69_11 rfl (fun h11 => ?_) (fun h11 => ?_)
    · refine k_iconst i_69_18 (by decide) ?_
      refine k_zret i_69_19 rfl (by omega) ?_
      exact k _ (by omega)
    · refine k_iconst i_69_14 (by decide) ?_
      refine k_goto (t := 19) i_69_15 rfl ?_
      refine k_zret i_69_19 rfl (by omega) ?_
      exact k _ (by omega)

/-- ElbowQueue$Town.hears -/
theorem c_64 {d : Nat} {M : Mem} {Q : Option Vv → Mem → Prop} {a rm : Nat} {K : Kt} {m : Int} {T : Tt} {i x : Int} (ht : Tw a 20 rm) (hrm : 16 + m ≤ (rm : Int) ∧ (rm : Int) ≤ 28) (hKo : KOk K m) (hK : RepK M 20 K m) (hR : RepC M a K m T) (hv : Va K m i) (k : ∀ M', RepC M' a K m (mkT (tQ T) (tW T) (tS T) (up (tB T) i x) (up (tO T) i i) (tMi T) (tCa T) (tSe T) (tNx T)) → OutT M M' a → Q none M') : Ok d 64 0 [some (vR (some a)), some (vI i), some (vI x)] [] M Q := by
  obtain ⟨⟨g1, g2, g3, g4, g5, g6, g7, g8⟩, hKp⟩ := id hKo
  obtain ⟨r6, r7, r8, r9, r10, rq, rp⟩ := id hR
  have k1 : M 20 7 = kPe K := hK.1
  have k2 : M 20 6 = kWt K := hK.2.1
  have hv2 : (0 ≤ i ∧ i < kPe K) ∨ (16 ≤ i ∧ i < 16 + m) := hv
  obtain ⟨e2, e3, e4, e5⟩ := rp i hv
  have e1 : M 21 i = kKd K i := (hK.2.2 i hv).1
  have e6 : M 22 i = kPa K i := (hK.2.2 i hv).2.1
  have e7 := hKp i hv
  refine k_aload_n i_64_0 rfl ?_
  refine k_getR (r := (a + 2)) i_64_1 o_64 rfl (by decide) (ht.1) rfl ?_
  refine k_iload_n i_64_4 rfl ?_
  refine k_iload_n i_64_5 rfl ?_
  refine k_iast i_64_6 (ht.2.2.1) (by omega) ?_
  refine k_aload_n i_64_7 rfl ?_
  refine k_getR (r := (a + 5)) i_64_8 o_64 rfl (by decide) (ht.1) rfl ?_
  refine k_iload_n i_64_11 rfl ?_
  refine k_iload_n i_64_12 rfl ?_
  refine k_iast i_64_13 (ht.2.2.2.2.2) (by omega) ?_
  refine k_vret i_64_14 rfl ?_
  refine k _ ⟨?_, ?_, ?_, ?_, ?_, ?_, ?_⟩ (((OutT.rf M a).mu (by omega)).mu (by omega))
  · rw [mu_ne (by omega), mu_ne (by omega)]; exact r6
  · rw [mu_ne (by omega), mu_ne (by omega)]; exact r7
  · rw [mu_ne (by omega), mu_ne (by omega)]; exact r8
  · rw [mu_ne (by omega), mu_ne (by omega)]; exact r9
  · rw [mu_ne (by omega), mu_ne (by omega)]; exact r10
  · intro j p hj; rw [mu_ne (by omega), mu_ne (by omega)]; exact rq j p hj
  · intro p hp
    obtain ⟨f2, f3, f4, f5⟩ := rp p hp
    simp only [mk_b, mk_w, mk_s, mk_o]
    refine ⟨?_, by rw [mu_ne (by omega), mu_ne (by omega)]; exact f3, by rw [mu_ne (by omega), mu_ne (by omega)]; exact f4, ?_⟩
    · rw [mu_ne (by omega)]
      by_cases e : p = i
      · subst e; rw [mu_s, up_s]
      · rw [mu_j e, up_n _ _ e]; exact f2
    · by_cases e : p = i
      · subst e; rw [mu_s, up_s]
      · rw [mu_j e, up_n _ _ e, mu_ne (by omega)]; exact f5
end
section
def shl (M : Mem) (b0 : Nat) (lo hi : Int) : Mem := fun b j => if b = b0 ∧ lo ≤ j ∧ j < hi then M b (j + 1) else M b j
theorem shl_0 (M : Mem) (b0 : Nat) (lo : Int) : shl M b0 lo lo = M := by
  funext b j
  unfold shl
  rw [if_neg (by omega)]
theorem shl_s {M : Mem} {b0 : Nat} {lo hi : Int} (h : lo ≤ hi) : mu (shl M b0 lo hi) b0 hi (shl M b0 lo hi b0 (hi + 1)) = shl M b0 lo (hi + 1) := by
  have e0 : shl M b0 lo hi b0 (hi + 1) = M b0 (hi + 1) := if_neg (by omega)
  rw [e0]
  funext b j
  unfold mu shl
  by_cases e : b = b0 ∧ j = hi
  · rw [if_pos e, if_pos (by omega), e.1, e.2]
  · rw [if_neg e]
    by_cases e2 : b = b0 ∧ lo ≤ j ∧ j < hi
    · rw [if_pos e2, if_pos (by omega)]
    · rw [if_neg e2, if_neg (by omega)]
theorem shl_ne {M : Mem} {b0 b : Nat} {lo hi : Int} (h : b ≠ b0) (j : Int) : shl M b0 lo hi b j = M b j := if_neg (fun q => h q.1)

theorem l_75 {d : Nat} {M : Mem} {Q : Option Vv → Mem → Prop} {a rm : Nat} {K : Kt} {m : Int} {T : Tt} {k w : Int} (ht : Tw a 20 rm) (hk : 0 ≤ k ∧ k < M a 9 ∧ M a 9 ≤ rm ∧ (rm : Int) ≤ 28) (kk : Q none (shl (mu (mu M (a + 3) (M (a + 1) k) w) a 9 (M a 9 - 1)) (a + 1) k (M a 9 - 1))) : ∀ (f : Nat) (i : Int), (k ≤ i ∧ i ≤ M a 9 - 1) → (M a 9 - 1 - i).toNat < f → Ok d 75 37 [some (vR (some a)), some (vI k), some (vI w), some (vI i)] [] (shl (mu (mu M (a + 3) (M (a + 1) k) w) a 9 (M a 9 - 1)) (a + 1) k i) Q := by
  intro f
  induction f with
  | zero => intro i hi hf; exact absurd hf (Nat.not_lt_zero _)
  | succ f ih =>
    intro i hi hf
    have e9 : shl (mu (mu M (a + 3) (M (a + 1) k) w) a 9 (M a 9 - 1)) (a + 1) k i a 9 = M a 9 - 1 := by rw [shl_ne (by omega), mu_s]
    refine k_iload_n i_75_37 rfl ?_
    refine k_aload_n i_75_38 rfl ?_
    refine k_getI (kz := 9) i_75_39 o_75 rfl (by decide) (ht.1) rfl ?_
    rw [e9]
    refine k_icmp_ge (t := 65) i_75_42 rfl (fun h42 => ?_) (fun h42 => ?_)
    · refine k_vret i_75_65 rfl ?_
      obtain rfl : i = M a 9 - 1 := by omega
      exact kk
    · refine k_aload_n i_75_45 rfl ?_
      refine k_getR (r := (a + 1)) i_75_46 o_75 rfl (by decide) (ht.1) rfl ?_
      refine k_iload_n i_75_49 rfl ?_
      refine k_aload_n i_75_50 rfl ?_
      refine k_getR (r := (a + 1)) i_75_51 o_75 rfl (by decide) (ht.1) rfl ?_
      refine k_iload_n i_75_54 rfl ?_
      refine k_iconst i_75_55 (by decide) ?_
      refine k_iadd i_75_56 (by omega) ?_
      refine k_iald i_75_57 (ht.2.1) (by omega) ?_
      refine k_iast i_75_58 (ht.2.1) (by omega) ?_
      refine k_iinc (ls' := [some (vR (some a)), some (vI k), some (vI w), some (vI (i + 1))]) i_75_59 rfl (by omega) rfl ?_
      refine k_goto (t := 37) i_75_62 rfl ?_
      rw [shl_s (by omega)]
      exact ih (i + 1) (by omega) (by omega)

/-- ElbowQueue$Town.takeOut -/
theorem c_75 {d : Nat} {M : Mem} {Q : Option Vv → Mem → Prop} {a rm : Nat} {K : Kt} {m : Int} {T : Tt} {k w : Int} (ht : Tw a 20 rm) (hrm : 16 + m ≤ (rm : Int) ∧ (rm : Int) ≤ 28) (hKo : KOk K m) (hT : TOk K m T) (hR : RepC M a K m T) (hk : 0 ≤ k ∧ k < (tQ T).length) (kk : ∀ M', RepC M' a K m (outF T k.toNat w) → OutT M M' a → Q none M') : Ok d 75 0 [some (vR (some a)), some (vI k), some (vI w), none] [] M Q := by
  obtain ⟨⟨g1, g2, g3, g4, g5, g6, g7, g8⟩, hKp⟩ := id hKo
  obtain ⟨r6, r7, r8, r9, r10, rq, rp⟩ := id hR
  obtain ⟨u1, u2, u3, u4, u5, u6, u7⟩ := id hT
  have hq0 := hR.q hk.1 hk.2
  have hm0 : (tQ T).getD k.toNat 0 ∈ tQ T := q_mem (by omega)
  have hv0 := hT.va hm0
  have hv2 : (0 ≤ M (a + 1) k ∧ M (a + 1) k < kPe K) ∨ (16 ≤ M (a + 1) k ∧ M (a + 1) k < 16 + m) := by rw [hq0]; exact hv0
  refine k_iload_n i_75_0 rfl ?_
  refine k_if_lt (t := 12) i_75_1 rfl (fun h1 => absurd h1 (by omega)) (fun h1 => ?_)
  refine k_iload_n i_75_4 rfl ?_
  refine k_aload_n i_75_5 rfl ?_
  refine k_getI (kz := 9) i_75_6 o_75 rfl (by decide) (ht.1) rfl ?_
  refine k_icmp_lt (t := 13) i_75_9 rfl (fun h9 => ?_) (fun h9 => absurd (by omega) h9)
  refine k_aload_n i_75_13 rfl ?_
  refine k_getR (r := (a + 3)) i_75_14 o_75 rfl (by decide) (ht.1) rfl ?_
  refine k_aload_n i_75_17 rfl ?_
  refine k_getR (r := (a + 1)) i_75_18 o_75 rfl (by decide) (ht.1) rfl ?_
  refine k_iload_n i_75_21 rfl ?_
  refine k_iald i_75_22 (ht.2.1) (by omega) ?_
  refine k_iload_n i_75_23 rfl ?_
  refine k_iast i_75_24 (ht.2.2.2.1) (by omega) ?_
  refine k_aload_n i_75_25 rfl ?_
  refine k_dupR i_75_26 ?_
  refine k_getI (kz := 9) i_75_27 o_75 rfl (by decide) (ht.1) rfl ?_
  rw [mu_ne (M := M) (a := (a + 3)) (b := a) (i := M (a + 1) k) (x := w) (by omega)]
  refine k_iconst i_75_30 (by decide) ?_
  refine k_isub i_75_31 (by omega) ?_
  refine k_putI (kz := 9) i_75_32 o_75 rfl (by decide) (ht.1) rfl ?_
  refine k_iload_n i_75_35 rfl ?_
  refine k_istore_n (ls' := [some (vR (some a)), some (vI k), some (vI w), some (vI k)]) i_75_36 rfl ?_
  rw [← shl_0 (mu (mu M (a + 3) (M (a + 1) k) w) a 9 (M a 9 - 1)) (a + 1) k]
  refine l_75 (T := T) (K := K) (m := m) ht (by omega) (kk _ ⟨?_, ?_, ?_, ?_, ?_, ?_, ?_⟩ ?_) ((M a 9 - 1 - k).toNat + 1) k (by omega) (by omega)
  · rw [shl_ne (by omega), mu_j (by decide), mu_ne (by omega)]; exact r6
  · rw [shl_ne (by omega), mu_j (by decide), mu_ne (by omega)]; exact r7
  · rw [shl_ne (by omega), mu_j (by decide), mu_ne (by omega)]; exact r8
  · rw [shl_ne (by omega), mu_s]
    simp only [outF, mk_q, List.length_eraseIdx]
    rw [if_pos (by omega)]
    omega
  · rw [shl_ne (by omega), mu_j (by decide), mu_ne (by omega)]; exact r10
  · intro j p hj
    simp only [outF, mk_q, List.getElem?_eraseIdx] at hj
    unfold shl
    by_cases c1 : j < k.toNat
    · rw [if_pos c1] at hj
      rw [if_neg (by omega), mu_ne (by omega), mu_ne (by omega)]
      exact rq j p hj
    · rw [if_neg c1] at hj
      have hj2 := (List.getElem?_eq_some_iff.mp hj).1
      rw [if_pos (by omega), mu_ne (by omega), mu_ne (by omega)]
      have := rq (j + 1) p hj
      rw [← this]
      congr 1
  · intro p hp
    obtain ⟨f2, f3, f4, f5⟩ := rp p hp
    simp only [outF, mk_b, mk_w, mk_s, mk_o]
    refine ⟨by rw [shl_ne (by omega), mu_ne (by omega), mu_ne (by omega)]; exact f2, ?_, by rw [shl_ne (by omega), mu_ne (by omega), mu_ne (by omega)]; exact f4, by rw [shl_ne (by omega), mu_ne (by omega), mu_ne (by omega)]; exact f5⟩
    rw [shl_ne (by omega), mu_ne (by omega), hq0]
    by_cases e : p = (tQ T).getD k.toNat 0
    · rw [e, mu_s, up_s]
    · rw [mu_j e, up_n _ _ e]; exact f3
  · intro b j hb
    rw [shl_ne (by omega), mu_ne (by omega), mu_ne (by omega)]

/-- ElbowQueue$Town.join -/
theorem c_81 {d : Nat} {M : Mem} {Q : Option Vv → Mem → Prop} {a rm : Nat} {K : Kt} {m : Int} {T : Tt} {x : Int} (ht : Tw a 20 rm) (hrm : 16 + m ≤ (rm : Int) ∧ (rm : Int) ≤ 28) (hKo : KOk K m) (hR : RepC M a K m T) (hv : Va K m x) (hl : ((tQ T).length : Int) < rm) (k : ∀ M', RepC M' a K m (joinF T x) → OutT M M' a → Q none M') : Ok d 81 0 [some (vR (some a)), some (vI x)] [] M Q := by
  obtain ⟨⟨g1, g2, g3, g4, g5, g6, g7, g8⟩, hKp⟩ := id hKo
  obtain ⟨r6, r7, r8, r9, r10, rq, rp⟩ := id hR
  have hv2 : (0 ≤ x ∧ x < kPe K) ∨ (16 ≤ x ∧ x < 16 + m) := hv
  have hrmb : ¬ (rm : Int) ≤ M a 9 := by omega
  have hrm9 : rm < 2147483648 := by omega
  refine k_aload_n i_81_0 rfl ?_
  refine k_getI (kz := 9) i_81_1 o_81 rfl (by decide) (ht.1) rfl ?_
  refine k_aload_n i_81_4 rfl ?_
  refine k_getR (r := (a + 1)) i_81_5 o_81 rfl (by decide) (ht.1) rfl ?_
  refine k_alen (z := rm) i_81_8 (ht.2.1) (by omega) rfl ?_
  refine k_icmp_ge (t := 39) i_81_9 rfl (fun h9 => absurd h9 (by omega)) (fun h9 => ?_)
  refine k_aload_n i_81_12 rfl ?_
  refine k_getR (r := (a + 1)) i_81_13 o_81 rfl (by decide) (ht.1) rfl ?_
  refine k_aload_n i_81_16 rfl ?_
  refine k_getI (kz := 9) i_81_17 o_81 rfl (by decide) (ht.1) rfl ?_
  refine k_iload_n i_81_20 rfl ?_
  refine k_iast i_81_21 (ht.2.1) (by omega) ?_
  refine k_aload_n i_81_22 rfl ?_
  refine k_dupR i_81_23 ?_
  refine k_getI (kz := 9) i_81_24 o_81 rfl (by decide) (ht.1) rfl ?_
  rw [mu_ne (M := M) (a := (a + 1)) (b := a) (i := M a 9) (x := x) (by omega)]
  refine k_iconst i_81_27 (by decide) ?_
  refine k_iadd i_81_28 (by omega) ?_
  refine k_putI (kz := 9) i_81_29 o_81 rfl (by decide) (ht.1) rfl ?_
  refine k_aload_n i_81_32 rfl ?_
  refine k_getR (r := (a + 3)) i_81_33 o_81 rfl (by decide) (ht.1) rfl ?_
  refine k_iload_n i_81_36 rfl ?_
  refine k_iconst i_81_37 (by decide) ?_
  refine k_iast i_81_38 (ht.2.2.2.1) (by omega) ?_
  refine k_vret i_81_39 rfl ?_
  refine k _ ⟨?_, ?_, ?_, ?_, ?_, ?_, ?_⟩ ((((OutT.rf M a).mu (by omega)).mu (by omega)).mu (by omega))
  · rw [mu_ne (by omega), mu_j (by decide), mu_ne (by omega)]; exact r6
  · rw [mu_ne (by omega), mu_j (by decide), mu_ne (by omega)]; exact r7
  · rw [mu_ne (by omega), mu_j (by decide), mu_ne (by omega)]; exact r8
  · rw [mu_ne (by omega), mu_s]
    simp only [joinF, mk_q, List.length_append, List.length_cons, List.length_nil]
    omega
  · rw [mu_ne (by omega), mu_j (by decide), mu_ne (by omega)]; exact r10
  · intro j p hj
    simp only [joinF, mk_q] at hj
    rw [mu_ne (by omega), mu_ne (by omega)]
    by_cases c1 : j < (tQ T).length
    · rw [List.getElem?_append_left c1] at hj
      rw [mu_j (by omega)]
      exact rq j p hj
    · have hj2 := (List.getElem?_eq_some_iff.mp hj).1
      simp only [List.length_append, List.length_cons, List.length_nil] at hj2
      obtain rfl : j = (tQ T).length := by omega
      rw [List.getElem?_append_right (Nat.le_refl _), Nat.sub_self] at hj
      cases hj
      rw [← r9, mu_s]
  · intro p hp
    obtain ⟨f2, f3, f4, f5⟩ := rp p hp
    simp only [joinF, mk_b, mk_w, mk_s, mk_o]
    refine ⟨by rw [mu_ne (by omega), mu_ne (by omega), mu_ne (by omega)]; exact f2, ?_, by rw [mu_ne (by omega), mu_ne (by omega), mu_ne (by omega)]; exact f4, by rw [mu_ne (by omega), mu_ne (by omega), mu_ne (by omega)]; exact f5⟩
    by_cases e : p = x
    · subst e; rw [mu_s, up_s]
    · rw [mu_j e, up_n _ _ e, mu_ne (by omega), mu_ne (by omega)]; exact f3

theorem l_73 {d : Nat} {M0 : Mem} {Q : Option Vv → Mem → Prop} {a rm : Nat} {K : Kt} {m : Int} {T : Tt} (ht : Tw a 20 rm) (hrm : 16 + m ≤ (rm : Int) ∧ (rm : Int) ≤ 28) (hKo : KOk K m) (hT : TOk K m T) (ha : 24 < a) (hK : RepK M0 20 K m) (kk : ∀ M', RepC M' a K m (tellF K T) → OutT M0 M' a → Q none M') : ∀ (f : Nat) (k : Int) (M : Mem) (x2 : Option Vv) (x3 : Option Vv), (-1 ≤ k ∧ k < (tQ T).length ∧ (k = -1 → (tQ T).length = 0)) → (RepC M a K m (tellP K T (k + 1).toNat (tQ T).length)) → (OutT M0 M a) → (k + 1).toNat < f → Ok (d + 1) 73 7 [some (vR (some a)), some (vI k), x2, x3] [] M Q := by
  intro f
  induction f with
  | zero => intro k M x2 x3 hk hM ho hf; exact absurd hf (Nat.not_lt_zero _)
  | succ f ih =>
    intro k M x2 x3 hk hM ho hf
    have hK1 := hK.out ho (by omega)
    obtain ⟨⟨g1, g2, g3, g4, g5, g6, g7, g8⟩, hKp⟩ := id hKo
    obtain ⟨r6, r7, r8, r9, r10, rq, rp⟩ := id hM
    obtain ⟨u1, u2, u3, u4, u5, u6, u7⟩ := id hT
    refine k_iload_n i_73_7 rfl ?_
    refine k_if_le (t := 78) i_73_8 rfl (fun h8 => ?_) (fun h8 => ?_)
    · refine k_vret i_73_78 rfl ?_
      refine kk M ?_ ho
      rcases (show k = 0 ∨ k = -1 by omega) with rfl | rfl
      · exact hM
      · have e := tellP_0 (K := K) (hk.2.2 rfl) (-1 + 1 : Int).toNat 1
        rw [e] at hM
        exact hM
    · refine k_aload_n i_73_11 rfl ?_
      refine k_getR (r := (a + 1)) i_73_12 o_73 rfl (by decide) (ht.1) rfl ?_
      refine k_iload_n i_73_15 rfl ?_
      refine k_iconst i_73_16 (by decide) ?_
      refine k_isub i_73_17 (by omega) ?_
      refine k_iald i_73_18 (ht.2.1) (by omega) ?_
      obtain ⟨fo, hfo0⟩ : ∃ z : Int, z = M (a + 1) (k - 1) := ⟨_, rfl⟩
      rw [← hfo0]
      have hfo : fo = (tQ T).getD (k - 1).toNat 0 := hfo0.trans (hM.q (by omega) (by show k - 1 < ((tQ T).length : Int); omega))
      have hva1 : Va K m fo := by rw [hfo]; exact hT.va (q_mem (by omega))
      have hv1 : (0 ≤ fo ∧ fo < kPe K) ∨ (16 ≤ fo ∧ fo < 16 + m) := hva1
      refine k_istore_n (ls' := [some (vR (some a)), some (vI k), some (vI fo), x3]) i_73_19 rfl ?_
      refine k_aload_n i_73_20 rfl ?_
      refine k_iload_n i_73_21 rfl ?_
      refine k_invV (n := 1) (o' := 6) (av := [vR (some a), vI fo]) (rest := []) (el := [some (vR (some a)), some (vI fo)]) i_73_22 o_73 rfl v_63 rfl (ht.1) rfl rfl rfl rfl rfl ?_
      refine c_63 ht hrm hKo hK1 hM.p hva1 (fun wd hwd => ?_)
      show Ok _ 73 25 [some (vR (some a)), some (vI k), some (vI fo), x3] [vI wd] (M) _
      refine k_istore_n (ls' := [some (vR (some a)), some (vI k), some (vI fo), some (vI wd)]) i_73_25 rfl ?_
      have hwb : wd = bel K T fo := by
        rw [hwd]
        unfold bel
        rw [show tB (tellP K T (k + 1).toNat (tQ T).length) fo = tB T fo by rw [hfo]; exact tellB_lo hT.1 (by omega) (by omega)]
        rfl
      refine k_iload_n i_73_26 rfl ?_
      refine k_if_eq (t := 72) i_73_27 rfl (fun h27 => ?_) (fun h27 => ?_)
      · refine k_iinc (ls' := [some (vR (some a)), some (vI (k + (-1))), some (vI fo), some (vI wd)]) i_73_72 rfl (by omega) rfl ?_
        refine k_goto (t := 7) i_73_75 rfl ?_
        have e9 : tellP K T k.toNat (tQ T).length = tellP K T (k + 1).toNat (tQ T).length := by
          rw [show (k + 1).toNat = k.toNat + 1 by omega]
          refine tellP_skip hT.1 (by omega) (fun q => ?_)
          rw [show k.toNat - 1 = (k - 1).toNat by omega, ← hfo] at q
          first | (rw [← hx] at q; unfold takes at q; omega) | omega
        rw [← e9] at hM
        rw [show k = k + -1 + 1 by omega] at hM
        exact ih (k + -1) _ _ _ (by omega) hM ho (by omega)
      · refine k_aload_n i_73_30 rfl ?_
        refine k_aload_n i_73_31 rfl ?_
        refine k_getR (r := (a + 1)) i_73_32 o_73 rfl (by decide) (ht.1) rfl ?_
        refine k_iload_n i_73_35 rfl ?_
        refine k_iald i_73_36 (ht.2.1) (by omega) ?_
        obtain ⟨x, hx0⟩ : ∃ z : Int, z = M (a + 1) k := ⟨_, rfl⟩
        rw [← hx0]
        have hx : x = (tQ T).getD k.toNat 0 := hx0.trans (hM.q (by omega) (by show k < ((tQ T).length : Int); omega))
        have hva2 : Va K m x := by rw [hx]; exact hT.va (q_mem (by omega))
        have hv2 : (0 ≤ x ∧ x < kPe K) ∨ (16 ≤ x ∧ x < 16 + m) := hva2
        refine k_invV (n := 1) (o' := 6) (av := [vR (some a), vI x]) (rest := []) (el := [some (vR (some a)), some (vI x), none]) i_73_37 o_73 rfl v_74 rfl (ht.1) rfl rfl rfl rfl rfl ?_
        refine c_74 ht hrm hKo hK1 hM.p hva2 (fun tk htk => ?_)
        show Ok _ 73 40 [some (vR (some a)), some (vI k), some (vI fo), some (vI wd)] [vI tk] (M) _
        have hbx : tB (tellP K T (k + 1).toNat (tQ T).length) x = tB T x := by rw [hx]; exact tellB_lo hT.1 (by omega) (by omega)
        have htk2 : (tk = 1 ∧ takes K T x) ∨ (tk = 0 ∧ ¬ takes K T x) := by
          unfold takes at htk ⊢
          rw [hbx] at htk
          exact htk
        unfold takes at htk2
        refine k_if_eq (t := 72) i_73_40 rfl (fun h40 => ?_) (fun h40 => ?_)
        · refine k_iinc (ls' := [some (vR (some a)), some (vI (k + (-1))), some (vI fo), some (vI wd)]) i_73_72 rfl (by omega) rfl ?_
          refine k_goto (t := 7) i_73_75 rfl ?_
          have e9 : tellP K T k.toNat (tQ T).length = tellP K T (k + 1).toNat (tQ T).length := by
            rw [show (k + 1).toNat = k.toNat + 1 by omega]
            refine tellP_skip hT.1 (by omega) (fun q => ?_)
            rw [show k.toNat - 1 = (k - 1).toNat by omega, ← hfo] at q
            first | (rw [← hx] at q; unfold takes at q; omega) | omega
          rw [← e9] at hM
          rw [show k = k + -1 + 1 by omega] at hM
          exact ih (k + -1) _ _ _ (by omega) hM ho (by omega)
        · refine k_aload_n i_73_43 rfl ?_
          refine k_getR (r := (a + 2)) i_73_44 o_73 rfl (by decide) (ht.1) rfl ?_
          refine k_aload_n i_73_47 rfl ?_
          refine k_getR (r := (a + 1)) i_73_48 o_73 rfl (by decide) (ht.1) rfl ?_
          refine k_iload_n i_73_51 rfl ?_
          refine k_iald i_73_52 (ht.2.1) (by omega) ?_
          rw [show M (a + 1) k = x from hx0.symm]
          refine k_iload_n i_73_53 rfl ?_
          refine k_iast i_73_54 (ht.2.2.1) (by omega) ?_
          refine k_aload_n i_73_55 rfl ?_
          refine k_getR (r := (a + 5)) i_73_56 o_73 rfl (by decide) (ht.1) rfl ?_
          refine k_aload_n i_73_59 rfl ?_
          refine k_getR (r := (a + 1)) i_73_60 o_73 rfl (by decide) (ht.1) rfl ?_
          refine k_iload_n i_73_63 rfl ?_
          refine k_iald i_73_64 (ht.2.1) (by omega) ?_
          rw [mu_ne (M := M) (a := (a + 2)) (b := (a + 1)) (i := x) (x := wd) (by omega)]
          rw [show M (a + 1) k = x from hx0.symm]
          refine k_aload_n i_73_65 rfl ?_
          refine k_getR (r := (a + 5)) i_73_66 o_73 rfl (by decide) (ht.1) rfl ?_
          refine k_iload_n i_73_69 rfl ?_
          refine k_iald i_73_70 (ht.2.2.2.2.2) (by omega) ?_
          rw [mu_ne (M := M) (a := (a + 2)) (b := (a + 5)) (i := x) (x := wd) (by omega)]
          refine k_iast i_73_71 (ht.2.2.2.2.2) (by omega) ?_
          refine k_iinc (ls' := [some (vR (some a)), some (vI (k + (-1))), some (vI fo), some (vI wd)]) i_73_72 rfl (by omega) rfl ?_
          refine k_goto (t := 7) i_73_75 rfl ?_
          refine ih (k + -1) _ _ _ (by omega) ?_ ((ho.mu (by omega)).mu (by omega)) (by omega)
          rw [show k + -1 + 1 = k by omega]
          have hnx : fo ≠ x := by
            rw [hfo, hx]
            intro q
            have q1 := q_idx hT.1 (i := (k - 1).toNat) (by omega)
            rw [q, q_idx hT.1 (by omega)] at q1
            omega
          have hhr : hrs K T k.toNat (tQ T).length x := by
            rw [hx]
            refine (hrs_x hT.1 (by omega)).mpr ?_
            rw [show k.toNat - 1 = (k - 1).toNat by omega, ← hfo, ← hx]
            omega
          have hfx : fore T x = fo := by rw [hx, fore_x hT.1 (by omega), hfo, show k.toNat - 1 = (k - 1).toNat by omega]
          obtain ⟨f2, f3, f4, f5⟩ := rp fo hva1
          refine ⟨?_, ?_, ?_, ?_, ?_, ?_, ?_⟩
          · rw [mu_ne (by omega), mu_ne (by omega)]; exact r6
          · rw [mu_ne (by omega), mu_ne (by omega)]; exact r7
          · rw [mu_ne (by omega), mu_ne (by omega)]; exact r8
          · rw [mu_ne (by omega), mu_ne (by omega)]; exact r9
          · rw [mu_ne (by omega), mu_ne (by omega)]; exact r10
          · intro j p hj; rw [mu_ne (by omega), mu_ne (by omega)]; exact rq j p hj
          · intro p hp
            obtain ⟨s2, s3, s4, s5⟩ := rp p hp
            refine ⟨?_, by rw [mu_ne (by omega), mu_ne (by omega)]; exact s3, by rw [mu_ne (by omega), mu_ne (by omega)]; exact s4, ?_⟩
            · rw [mu_ne (by omega)]
              by_cases e : p = x
              · subst e
                rw [mu_s]
                show wd = tellB K T k.toNat (tQ T).length p
                unfold tellB
                rw [if_pos hhr, hfx, hwb]
              · rw [mu_j e, s2]
                show tellB K T (k + 1).toNat (tQ T).length p = tellB K T k.toNat (tQ T).length p
                rw [show (k + 1).toNat = k.toNat + 1 by omega]
                exact (tellB_ne hT.1 (by rw [← hx]; exact e)).symm
            · by_cases e : p = x
              · subst e
                rw [mu_s, f5]
                show tellO K T (k + 1).toNat (tQ T).length fo = tellO K T k.toNat (tQ T).length p
                rw [hfo, tellO_lo hT.1 (by omega) (by omega), ← hfo]
                unfold tellO
                rw [if_pos hhr, hfx]
              · rw [mu_j e, mu_ne (by omega), s5]
                show tellO K T (k + 1).toNat (tQ T).length p = tellO K T k.toNat (tQ T).length p
                rw [show (k + 1).toNat = k.toNat + 1 by omega]
                exact (tellO_ne hT.1 (by rw [← hx]; exact e)).symm

/-- ElbowQueue$Town.tellOn -/
theorem c_73 {d : Nat} {M : Mem} {Q : Option Vv → Mem → Prop} {a rm : Nat} {K : Kt} {m : Int} {T : Tt} (ht : Tw a 20 rm) (hrm : 16 + m ≤ (rm : Int) ∧ (rm : Int) ≤ 28) (hKo : KOk K m) (hK : RepK M 20 K m) (hR : RepC M a K m T) (hT : TOk K m T) (ha : 24 < a) (k : ∀ M', RepC M' a K m (tellF K T) → OutT M M' a → Q none M') : Ok (d + 1) 73 0 [some (vR (some a)), none, none, none] [] M Q := by
  obtain ⟨r6, r7, r8, r9, r10, rq, rp⟩ := id hR
  obtain ⟨u1, u2, u3, u4, u5, u6, u7⟩ := id hT
  obtain ⟨⟨g1, g2, g3, g4, g5, g6, g7, g8⟩, hKp⟩ := id hKo
  refine k_aload_n i_73_0 rfl ?_
  refine k_getI (kz := 9) i_73_1 o_73 rfl (by decide) (ht.1) rfl ?_
  refine k_iconst i_73_4 (by decide) ?_
  refine k_isub i_73_5 (by omega) ?_
  refine k_istore_n (ls' := [some (vR (some a)), some (vI ((M a 9) - 1)), none, none]) i_73_6 rfl ?_
  refine l_73 ht hrm hKo hT ha hK k ((M a 9 - 1 + 1).toNat + 1) (M a 9 - 1) M _ _ (by omega) ?_ (OutT.rf M a) (by omega)
  rw [tellP_n (by omega), mk_eta]
  exact hR
end
section
/-- standOn, its first k people done -/
def SI (M : Mem) (a : Nat) (K : Kt) (m : Int) (T : Tt) (c : Bool) (k : Nat) : Prop :=
  M a 6 = tMi T ∧ M a 7 = tCa T ∧ M a 8 = tSe T ∧ M a 9 = (tQ T).length ∧ M a 10 = tNx T ∧
  (∀ (j : Nat) (p : Int), (((tQ T).take k).filter (stays K (olderF T) c))[j]? = some p → M (a + 1) j = p) ∧
  (∀ (j : Nat) (p : Int), k ≤ j → (tQ T)[j]? = some p → M (a + 1) j = p) ∧
  ∀ p, Va K m p → M (a + 2) p = tB T p ∧ M (a + 3) p = leaveW K (olderF T) c 0 k p ∧ M (a + 4) p = (if (tQ T).idxOf p < k then tS T p + 1 else tS T p) ∧ M (a + 5) p = tO T p
theorem take_s {l : List Int} {k : Nat} (h : k < l.length) : l.take (k + 1) = l.take k ++ [l.getD k 0] := by
  rw [List.take_succ, q_at h]
  rfl
theorem fil_le {l : List Int} {k : Nat} {f : Int → Bool} : ((l.take k).filter f).length ≤ k := Nat.le_trans (List.length_filter_le _ _) (by rw [List.length_take]; omega)
theorem idx_s {l : List Int} (hn : l.Nodup) {k : Nat} (h : k < l.length) (p : Int) : l.idxOf p < k + 1 ↔ (l.idxOf p < k ∨ p = l.getD k 0) := by
  constructor
  · intro q
    by_cases e : l.idxOf p < k
    · exact Or.inl e
    · have e2 : l.idxOf p = k := by omega
      exact Or.inr (by rw [← e2, q_get (q_idx_lt q (by omega))])
  · intro q
    rcases q with q | q
    · omega
    · rw [q, q_idx hn h]; omega

theorem l_76 {d : Nat} {M0 : Mem} {Q : Option Vv → Mem → Prop} {a rm : Nat} {K : Kt} {m : Int} {T : Tt} {cv : Int} (ht : Tw a 20 rm) (hrm : 16 + m ≤ (rm : Int) ∧ (rm : Int) ≤ 28) (hKo : KOk K m) (hT : TOk K m T) (ha : 24 < a) (hK : RepK M0 20 K m) (hcv : (cv = 1 ∧ 6 ≤ (tQ T).length) ∨ (cv = 0 ∧ (tQ T).length < 6)) (kk : ∀ M', RepC M' a K m (standF K T) → OutT M0 M' a → Q none M') : ∀ (f : Nat) (k : Int) (st : Int) (M : Mem) (x4 : Option Vv) (x5 : Option Vv), (0 ≤ k ∧ k ≤ (tQ T).length) → (st = ((((tQ T).take k.toNat).filter (stays K (olderF T) (decide (6 ≤ (tQ T).length)))).length : Int)) → (SI M a K m T (decide (6 ≤ (tQ T).length)) k.toNat) → (OutT M0 M a) → ((tQ T).length - k).toNat < f → Ok (d + 2) 76 19 [some (vR (some a)), some (vI cv), some (vI st), some (vI k), x4, x5] [] M Q := by
  intro f
  induction f with
  | zero => intro k st M x4 x5 hk hs hM ho hf; exact absurd hf (Nat.not_lt_zero _)
  | succ f ih =>
    intro k st M x4 x5 hk hs hM ho hf
    have hK1 := hK.out ho (by omega)
    obtain ⟨⟨g1, g2, g3, g4, g5, g6, g7, g8⟩, hKp⟩ := id hKo
    obtain ⟨r6, r7, r8, r9, r10, rq1, rq2, rp⟩ := id hM
    obtain ⟨u1, u2, u3, u4, u5, u6, u7⟩ := id hT
    have hsl := fil_le (l := tQ T) (k := k.toNat) (f := stays K (olderF T) (decide (6 ≤ (tQ T).length)))
    refine k_iload_n i_76_19 rfl ?_
    refine k_aload_n i_76_20 rfl ?_
    refine k_getI (kz := 9) i_76_21 o_76 rfl (by decide) (ht.1) rfl ?_
    refine k_icmp_ge (t := 120) i_76_24 rfl (fun h24 => ?_) (fun h24 => ?_)
    · refine k_aload_n i_76_120 rfl ?_
      refine k_iload_n i_76_121 rfl ?_
      refine k_putI (kz := 9) i_76_122 o_76 rfl (by decide) (ht.1) rfl ?_
      refine k_vret i_76_125 rfl ?_
      have hkl : k.toNat = (tQ T).length := by omega
      rw [hkl] at rq1 rp hs
      rw [List.take_length] at rq1 hs
      refine kk _ ⟨?_, ?_, ?_, ?_, ?_, ?_, ?_⟩ (ho.mu (by omega))
      · rw [mu_j (by decide)]; exact r6
      · rw [mu_j (by decide)]; exact r7
      · rw [mu_j (by decide)]; exact r8
      · rw [mu_s, hs]; rfl
      · rw [mu_j (by decide)]; exact r10
      · intro j p hj; rw [mu_ne (by omega)]; exact rq1 j p hj
      · intro p hp
        obtain ⟨f2, f3, f4, f5⟩ := rp p hp
        refine ⟨by rw [mu_ne (by omega)]; exact f2, by rw [mu_ne (by omega)]; exact f3, ?_, by rw [mu_ne (by omega)]; exact f5⟩
        rw [mu_ne (by omega), f4]
        show _ = if p ∈ tQ T then tS T p + 1 else tS T p
        have e3 : (tQ T).idxOf p < (tQ T).length ↔ p ∈ tQ T := List.idxOf_lt_length_iff
        simp only [e3]
    · refine k_aload_n i_76_27 rfl ?_
      refine k_getR (r := (a + 1)) i_76_28 o_76 rfl (by decide) (ht.1) rfl ?_
      refine k_iload_n i_76_31 rfl ?_
      refine k_iald i_76_32 (ht.2.1) (by omega) ?_
      obtain ⟨x, hx0⟩ : ∃ z : Int, z = M (a + 1) k := ⟨_, rfl⟩
      rw [← hx0]
      have hx : x = (tQ T).getD k.toNat 0 := by
        have q := rq2 k.toNat _ (Nat.le_refl _) (q_at (by omega))
        rw [Int.toNat_of_nonneg hk.1] at q
        exact hx0.trans q
      have hmx : x ∈ tQ T := by rw [hx]; exact q_mem (by omega)
      have hvx : Va K m x := hT.va hmx
      have hv2 : (0 ≤ x ∧ x < kPe K) ∨ (16 ≤ x ∧ x < 16 + m) := hvx
      have hix : (tQ T).idxOf x = k.toNat := by rw [hx]; exact q_idx hT.1 (by omega)
      have e4x : M (a + 4) x = tS T x := by have q := (rp x hvx).2.2.1; rw [if_neg (by omega)] at q; exact q
      have e1x : M 21 x = kKd K x := (hK1.2.2 x hvx).1
      have u4x := u4 x hvx
      refine k_istore (ls' := [some (vR (some a)), some (vI cv), some (vI st), some (vI k), some (vI x), x5]) i_76_33 rfl ?_
      refine k_aload_n i_76_35 rfl ?_
      refine k_getR (r := (a + 4)) i_76_36 o_76 rfl (by decide) (ht.1) rfl ?_
      refine k_iload i_76_39 rfl ?_
      refine k_dup2 i_76_41 ?_
      refine k_iald i_76_42 (ht.2.2.2.2.1) (by omega) ?_
      refine k_iconst i_76_43 (by decide) ?_
      refine k_iadd i_76_44 (by omega) ?_
      refine k_iast i_76_45 (ht.2.2.2.2.1) (by omega) ?_
      have hK2 : RepK (mu M (a + 4) (x) ((M (a + 4) x) + 1)) 20 K m := hK1.out ((OutT.rf M a).mu (by omega)) (by omega)
      obtain ⟨T2, hT2⟩ : ∃ T2, T2 = mkT (tQ T) (leaveW K (olderF T) (decide (6 ≤ (tQ T).length)) 0 k.toNat) (fun p => if (tQ T).idxOf p < k.toNat + 1 then tS T p + 1 else tS T p) (tB T) (tO T) (tMi T) (tCa T) (tSe T) (tNx T) := ⟨_, rfl⟩
      have hP2 : RepP (mu M (a + 4) (x) ((M (a + 4) x) + 1)) a K m T2 := by
        subst hT2
        refine ⟨by rw [mu_ne (by omega)]; exact r7, fun p hp => ?_⟩
        obtain ⟨f2, f3, f4, f5⟩ := rp p hp
        refine ⟨by rw [mu_ne (by omega)]; exact f2, by rw [mu_ne (by omega)]; exact f3, ?_, by rw [mu_ne (by omega)]; exact f5⟩
        show _ = if (tQ T).idxOf p < k.toNat + 1 then tS T p + 1 else tS T p
        by_cases e : p = x
        · subst e
          rw [mu_s, if_pos (by rw [hix]; omega), e4x]
        · rw [mu_j e, f4]
          have e3 : (tQ T).idxOf p < k.toNat + 1 ↔ (tQ T).idxOf p < k.toNat := ⟨fun q => ((idx_s hT.1 (by omega) p).mp q).resolve_right (by rw [← hx]; exact e), fun q => by omega⟩
          simp only [e3]
      have hsx : tS T2 x = tS T x + 1 := by
        subst hT2
        show (if (tQ T).idxOf x < k.toNat + 1 then tS T x + 1 else tS T x) = _
        rw [if_pos (by rw [hix]; omega)]
      have hso : tS (olderF T) x = tS T x + 1 := if_pos hmx
      have hbb : bears K T2 x = bears K (olderF T) x := bears_congr (by subst hT2; rfl) (by rw [hsx, hso])
      refine k_iload_n i_76_46 rfl ?_
      refine k_if_eq (t := 68) i_76_47 rfl (fun h47 => ?_) (fun h47 => ?_)
      · refine k_iconst i_76_68 (by decide) ?_
        refine k_istore (ls' := [some (vR (some a)), some (vI cv), some (vI st), some (vI k), some (vI x), some (vI 0)]) i_76_69 rfl ?_
        refine k_aload_n i_76_71 rfl ?_
        refine k_getR (r := (a + 4)) i_76_72 o_76 rfl (by decide) (ht.1) rfl ?_
        refine k_iload i_76_75 rfl ?_
        refine k_iald i_76_77 (ht.2.2.2.2.1) (by omega) ?_
        rw [mu_s M (a + 4) (x) ((M (a + 4) x) + 1)]
        refine k_aload_n i_76_78 rfl ?_
        refine k_iload i_76_79 rfl ?_
        refine k_invV (n := 1) (o' := 6) (av := [vR (some a), vI x]) (rest := [vI ((M (a + 4) x) + 1)]) (el := [some (vR (some a)), some (vI x), none]) i_76_81 o_76 rfl v_77 rfl (ht.1) rfl rfl rfl rfl rfl ?_
        refine c_77 ht hrm hKo hK2 hP2 hvx (by rw [hsx]; omega) (fun br hbr => ?_)
        show Ok _ 76 84 [some (vR (some a)), some (vI cv), some (vI st), some (vI k), some (vI x), some (vI 0)] [vI br, vI ((M (a + 4) x) + 1)] (mu M (a + 4) (x) ((M (a + 4) x) + 1)) _
        refine k_icmp_le (t := 103) i_76_84 rfl (fun h84 => ?_) (fun h84 => ?_)
        · refine k_aload_n i_76_103 rfl ?_
          refine k_getR (r := (a + 1)) i_76_104 o_76 rfl (by decide) (ht.1) rfl ?_
          refine k_iload_n i_76_107 rfl ?_
          refine k_iload i_76_108 rfl ?_
          refine k_iast i_76_110 (ht.2.1) (by omega) ?_
          refine k_iinc (ls' := [some (vR (some a)), some (vI cv), some (vI (st + 1)), some (vI k), some (vI x), some (vI 0)]) i_76_111 rfl (by omega) rfl ?_
          refine k_iinc (ls' := [some (vR (some a)), some (vI cv), some (vI (st + 1)), some (vI (k + 1)), some (vI x), some (vI 0)]) i_76_114 rfl (by omega) rfl ?_
          refine k_goto (t := 19) i_76_117 rfl ?_
          have hst : stays K (olderF T) (decide (6 ≤ (tQ T).length)) x = true := by
            unfold stays
            rw [decide_eq_true (show tS (olderF T) x ≤ bears K (olderF T) x by rw [hso, ← hbb, ← hbr]; omega)]
            simp
          have hfk : ((tQ T).take (k + 1).toNat).filter (stays K (olderF T) (decide (6 ≤ (tQ T).length))) = ((tQ T).take k.toNat).filter (stays K (olderF T) (decide (6 ≤ (tQ T).length))) ++ [x] := by
            rw [show (k + 1).toNat = k.toNat + 1 by omega, take_s (by omega), List.filter_append, ← hx]
            simp [hst]
          refine ih (k + 1) _ _ _ _ (by omega) ?_ ?_ ((ho.mu (by omega)).mu (by omega)) (by omega)
          · rw [hfk, List.length_append]; simp only [List.length_cons, List.length_nil]; omega
          rw [show (k + 1).toNat = k.toNat + 1 by omega] at hfk ⊢
          refine ⟨?_, ?_, ?_, ?_, ?_, ?_, ?_, ?_⟩
          · rw [mu_ne (by omega), mu_ne (by omega)]; exact r6
          · rw [mu_ne (by omega), mu_ne (by omega)]; exact r7
          · rw [mu_ne (by omega), mu_ne (by omega)]; exact r8
          · rw [mu_ne (by omega), mu_ne (by omega)]; exact r9
          · rw [mu_ne (by omega), mu_ne (by omega)]; exact r10
          · intro j p hj
            rw [hfk] at hj
            by_cases c1 : j < (((tQ T).take k.toNat).filter (stays K (olderF T) (decide (6 ≤ (tQ T).length)))).length
            · rw [List.getElem?_append_left c1] at hj
              rw [mu_j (by omega), mu_ne (by omega)]
              exact rq1 j p hj
            · have hj2 := (List.getElem?_eq_some_iff.mp hj).1
              simp only [List.length_append, List.length_cons, List.length_nil] at hj2
              have hje : j = (((tQ T).take k.toNat).filter (stays K (olderF T) (decide (6 ≤ (tQ T).length)))).length := by omega
              rw [List.getElem?_append_right (by omega), hje, Nat.sub_self] at hj
              cases hj
              rw [hje, ← hs, mu_s]
          · intro j p hkj hj
            rw [mu_j (by omega), mu_ne (by omega)]
            exact rq2 j p (by omega) hj
          · intro p hp
            obtain ⟨f2, f3, f4, f5⟩ := rp p hp
            refine ⟨by rw [mu_ne (by omega), mu_ne (by omega)]; exact f2, ?_, ?_, by rw [mu_ne (by omega), mu_ne (by omega)]; exact f5⟩
            · rw [mu_ne (by omega), mu_ne (by omega), f3]
              unfold leaveW
              by_cases e : p = x
              · subst e
                rw [if_neg (fun q => by have := q.2.2; rw [hst] at this; cases this), if_neg (fun q => by have := q.2.2; rw [hst] at this; cases this)]
              · have e3 : (tQ (olderF T)).idxOf p < k.toNat + 1 ↔ (tQ (olderF T)).idxOf p < k.toNat := ⟨fun q => ((idx_s hT.1 (by omega) p).mp q).resolve_right (by rw [← hx]; exact e), fun q => by omega⟩
                simp only [e3]
            · rw [mu_ne (by omega)]
              by_cases e : p = x
              · subst e
                rw [mu_s, if_pos (by rw [hix]; omega), e4x]
              · rw [mu_j e, f4]
                have e3 : (tQ T).idxOf p < k.toNat + 1 ↔ (tQ T).idxOf p < k.toNat := ⟨fun q => ((idx_s hT.1 (by omega) p).mp q).resolve_right (by rw [← hx]; exact e), fun q => by omega⟩
                simp only [e3]
        · refine k_iload i_76_87 rfl ?_
          refine k_if_ne (t := 103) i_76_89 rfl (fun h89 => absurd h89 (by decide)) (fun h89 => ?_)
          refine k_aload_n i_76_92 rfl ?_
          refine k_getR (r := (a + 3)) i_76_93 o_76 rfl (by decide) (ht.1) rfl ?_
          refine k_iload i_76_96 rfl ?_
          refine k_iconst i_76_98 (by decide) ?_
          refine k_iast i_76_99 (ht.2.2.2.1) (by omega) ?_
          refine k_goto (t := 114) i_76_100 rfl ?_
          refine k_iinc (ls' := [some (vR (some a)), some (vI cv), some (vI st), some (vI (k + 1)), some (vI x), some (vI 0)]) i_76_114 rfl (by omega) rfl ?_
          refine k_goto (t := 19) i_76_117 rfl ?_
          have hst : stays K (olderF T) (decide (6 ≤ (tQ T).length)) x = false := by
            unfold stays
            rw [decide_eq_false (show ¬ tS (olderF T) x ≤ bears K (olderF T) x by rw [hso, ← hbb, ← hbr]; omega)]
            simp only [Bool.or_false, Bool.and_eq_false_iff, decide_eq_false_iff_not]
            omega
          have hfk : ((tQ T).take (k + 1).toNat).filter (stays K (olderF T) (decide (6 ≤ (tQ T).length))) = ((tQ T).take k.toNat).filter (stays K (olderF T) (decide (6 ≤ (tQ T).length))) := by
            rw [show (k + 1).toNat = k.toNat + 1 by omega, take_s (by omega), List.filter_append, ← hx]
            simp [hst]
          refine ih (k + 1) _ _ _ _ (by omega) ?_ ?_ ((ho.mu (by omega)).mu (by omega)) (by omega)
          · rw [hfk]; exact hs
          rw [show (k + 1).toNat = k.toNat + 1 by omega] at hfk ⊢
          refine ⟨?_, ?_, ?_, ?_, ?_, ?_, ?_, ?_⟩
          · rw [mu_ne (by omega), mu_ne (by omega)]; exact r6
          · rw [mu_ne (by omega), mu_ne (by omega)]; exact r7
          · rw [mu_ne (by omega), mu_ne (by omega)]; exact r8
          · rw [mu_ne (by omega), mu_ne (by omega)]; exact r9
          · rw [mu_ne (by omega), mu_ne (by omega)]; exact r10
          · intro j p hj
            rw [hfk] at hj
            rw [mu_ne (by omega), mu_ne (by omega)]
            exact rq1 j p hj
          · intro j p hkj hj
            rw [mu_ne (by omega), mu_ne (by omega)]
            exact rq2 j p (by omega) hj
          · intro p hp
            obtain ⟨f2, f3, f4, f5⟩ := rp p hp
            refine ⟨by rw [mu_ne (by omega), mu_ne (by omega)]; exact f2, ?_, ?_, by rw [mu_ne (by omega), mu_ne (by omega)]; exact f5⟩
            · unfold leaveW
              by_cases e : p = x
              · subst e
                rw [mu_s, if_pos ⟨Nat.zero_le _, (by show (tQ T).idxOf p < _; rw [hix]; omega), hst⟩]
              · rw [mu_j e, mu_ne (by omega), f3]
                unfold leaveW
                have e3 : (tQ (olderF T)).idxOf p < k.toNat + 1 ↔ (tQ (olderF T)).idxOf p < k.toNat := ⟨fun q => ((idx_s hT.1 (by omega) p).mp q).resolve_right (by rw [← hx]; exact e), fun q => by omega⟩
                simp only [e3]
            · rw [mu_ne (by omega)]
              by_cases e : p = x
              · subst e
                rw [mu_s, if_pos (by rw [hix]; omega), e4x]
              · rw [mu_j e, f4]
                have e3 : (tQ T).idxOf p < k.toNat + 1 ↔ (tQ T).idxOf p < k.toNat := ⟨fun q => ((idx_s hT.1 (by omega) p).mp q).resolve_right (by rw [← hx]; exact e), fun q => by omega⟩
                simp only [e3]
      · refine k_aload_n i_76_50 rfl ?_
        refine k_getR (r := 20) i_76_51 o_76 rfl (by decide) (ht.1) rfl ?_
        refine k_getR (r := 21) i_76_54 o_76 rfl (by decide) (s_20) rfl ?_
        refine k_iload i_76_57 rfl ?_
        refine k_iald i_76_59 (s_21) (by omega) ?_
        rw [mu_ne (M := M) (a := (a + 4)) (b := 21) (i := x) (x := (M (a + 4) x) + 1) (by omega)]
        refine k_iconst i_76_60 (by decide) ?_
        refine k_icmp_ne (t := 68) i_76_61 rfl (fun h61 => ?_) (fun h61 => ?_)
        · refine k_iconst i_76_68 (by decide) ?_
          refine k_istore (ls' := [some (vR (some a)), some (vI cv), some (vI st), some (vI k), some (vI x), some (vI 0)]) i_76_69 rfl ?_
          refine k_aload_n i_76_71 rfl ?_
          refine k_getR (r := (a + 4)) i_76_72 o_76 rfl (by decide) (ht.1) rfl ?_
          refine k_iload i_76_75 rfl ?_
          refine k_iald i_76_77 (ht.2.2.2.2.1) (by omega) ?_
          rw [mu_s M (a + 4) (x) ((M (a + 4) x) + 1)]
          refine k_aload_n i_76_78 rfl ?_
          refine k_iload i_76_79 rfl ?_
          refine k_invV (n := 1) (o' := 6) (av := [vR (some a), vI x]) (rest := [vI ((M (a + 4) x) + 1)]) (el := [some (vR (some a)), some (vI x), none]) i_76_81 o_76 rfl v_77 rfl (ht.1) rfl rfl rfl rfl rfl ?_
          refine c_77 ht hrm hKo hK2 hP2 hvx (by rw [hsx]; omega) (fun br hbr => ?_)
          show Ok _ 76 84 [some (vR (some a)), some (vI cv), some (vI st), some (vI k), some (vI x), some (vI 0)] [vI br, vI ((M (a + 4) x) + 1)] (mu M (a + 4) (x) ((M (a + 4) x) + 1)) _
          refine k_icmp_le (t := 103) i_76_84 rfl (fun h84 => ?_) (fun h84 => ?_)
          · refine k_aload_n i_76_103 rfl ?_
            refine k_getR (r := (a + 1)) i_76_104 o_76 rfl (by decide) (ht.1) rfl ?_
            refine k_iload_n i_76_107 rfl ?_
            refine k_iload i_76_108 rfl ?_
            refine k_iast i_76_110 (ht.2.1) (by omega) ?_
            refine k_iinc (ls' := [some (vR (some a)), some (vI cv), some (vI (st + 1)), some (vI k), some (vI x), some (vI 0)]) i_76_111 rfl (by omega) rfl ?_
            refine k_iinc (ls' := [some (vR (some a)), some (vI cv), some (vI (st + 1)), some (vI (k + 1)), some (vI x), some (vI 0)]) i_76_114 rfl (by omega) rfl ?_
            refine k_goto (t := 19) i_76_117 rfl ?_
            have hst : stays K (olderF T) (decide (6 ≤ (tQ T).length)) x = true := by
              unfold stays
              rw [decide_eq_true (show tS (olderF T) x ≤ bears K (olderF T) x by rw [hso, ← hbb, ← hbr]; omega)]
              simp
            have hfk : ((tQ T).take (k + 1).toNat).filter (stays K (olderF T) (decide (6 ≤ (tQ T).length))) = ((tQ T).take k.toNat).filter (stays K (olderF T) (decide (6 ≤ (tQ T).length))) ++ [x] := by
              rw [show (k + 1).toNat = k.toNat + 1 by omega, take_s (by omega), List.filter_append, ← hx]
              simp [hst]
            refine ih (k + 1) _ _ _ _ (by omega) ?_ ?_ ((ho.mu (by omega)).mu (by omega)) (by omega)
            · rw [hfk, List.length_append]; simp only [List.length_cons, List.length_nil]; omega
            rw [show (k + 1).toNat = k.toNat + 1 by omega] at hfk ⊢
            refine ⟨?_, ?_, ?_, ?_, ?_, ?_, ?_, ?_⟩
            · rw [mu_ne (by omega), mu_ne (by omega)]; exact r6
            · rw [mu_ne (by omega), mu_ne (by omega)]; exact r7
            · rw [mu_ne (by omega), mu_ne (by omega)]; exact r8
            · rw [mu_ne (by omega), mu_ne (by omega)]; exact r9
            · rw [mu_ne (by omega), mu_ne (by omega)]; exact r10
            · intro j p hj
              rw [hfk] at hj
              by_cases c1 : j < (((tQ T).take k.toNat).filter (stays K (olderF T) (decide (6 ≤ (tQ T).length)))).length
              · rw [List.getElem?_append_left c1] at hj
                rw [mu_j (by omega), mu_ne (by omega)]
                exact rq1 j p hj
              · have hj2 := (List.getElem?_eq_some_iff.mp hj).1
                simp only [List.length_append, List.length_cons, List.length_nil] at hj2
                have hje : j = (((tQ T).take k.toNat).filter (stays K (olderF T) (decide (6 ≤ (tQ T).length)))).length := by omega
                rw [List.getElem?_append_right (by omega), hje, Nat.sub_self] at hj
                cases hj
                rw [hje, ← hs, mu_s]
            · intro j p hkj hj
              rw [mu_j (by omega), mu_ne (by omega)]
              exact rq2 j p (by omega) hj
            · intro p hp
              obtain ⟨f2, f3, f4, f5⟩ := rp p hp
              refine ⟨by rw [mu_ne (by omega), mu_ne (by omega)]; exact f2, ?_, ?_, by rw [mu_ne (by omega), mu_ne (by omega)]; exact f5⟩
              · rw [mu_ne (by omega), mu_ne (by omega), f3]
                unfold leaveW
                by_cases e : p = x
                · subst e
                  rw [if_neg (fun q => by have := q.2.2; rw [hst] at this; cases this), if_neg (fun q => by have := q.2.2; rw [hst] at this; cases this)]
                · have e3 : (tQ (olderF T)).idxOf p < k.toNat + 1 ↔ (tQ (olderF T)).idxOf p < k.toNat := ⟨fun q => ((idx_s hT.1 (by omega) p).mp q).resolve_right (by rw [← hx]; exact e), fun q => by omega⟩
                  simp only [e3]
              · rw [mu_ne (by omega)]
                by_cases e : p = x
                · subst e
                  rw [mu_s, if_pos (by rw [hix]; omega), e4x]
                · rw [mu_j e, f4]
                  have e3 : (tQ T).idxOf p < k.toNat + 1 ↔ (tQ T).idxOf p < k.toNat := ⟨fun q => ((idx_s hT.1 (by omega) p).mp q).resolve_right (by rw [← hx]; exact e), fun q => by omega⟩
                  simp only [e3]
          · refine k_iload i_76_87 rfl ?_
            refine k_if_ne (t := 103) i_76_89 rfl (fun h89 => absurd h89 (by decide)) (fun h89 => ?_)
            refine k_aload_n i_76_92 rfl ?_
            refine k_getR (r := (a + 3)) i_76_93 o_76 rfl (by decide) (ht.1) rfl ?_
            refine k_iload i_76_96 rfl ?_
            refine k_iconst i_76_98 (by decide) ?_
            refine k_iast i_76_99 (ht.2.2.2.1) (by omega) ?_
            refine k_goto (t := 114) i_76_100 rfl ?_
            refine k_iinc (ls' := [some (vR (some a)), some (vI cv), some (vI st), some (vI (k + 1)), some (vI x), some (vI 0)]) i_76_114 rfl (by omega) rfl ?_
            refine k_goto (t := 19) i_76_117 rfl ?_
            have hst : stays K (olderF T) (decide (6 ≤ (tQ T).length)) x = false := by
              unfold stays
              rw [decide_eq_false (show ¬ tS (olderF T) x ≤ bears K (olderF T) x by rw [hso, ← hbb, ← hbr]; omega)]
              simp only [Bool.or_false, Bool.and_eq_false_iff, decide_eq_false_iff_not]
              omega
            have hfk : ((tQ T).take (k + 1).toNat).filter (stays K (olderF T) (decide (6 ≤ (tQ T).length))) = ((tQ T).take k.toNat).filter (stays K (olderF T) (decide (6 ≤ (tQ T).length))) := by
              rw [show (k + 1).toNat = k.toNat + 1 by omega, take_s (by omega), List.filter_append, ← hx]
              simp [hst]
            refine ih (k + 1) _ _ _ _ (by omega) ?_ ?_ ((ho.mu (by omega)).mu (by omega)) (by omega)
            · rw [hfk]; exact hs
            rw [show (k + 1).toNat = k.toNat + 1 by omega] at hfk ⊢
            refine ⟨?_, ?_, ?_, ?_, ?_, ?_, ?_, ?_⟩
            · rw [mu_ne (by omega), mu_ne (by omega)]; exact r6
            · rw [mu_ne (by omega), mu_ne (by omega)]; exact r7
            · rw [mu_ne (by omega), mu_ne (by omega)]; exact r8
            · rw [mu_ne (by omega), mu_ne (by omega)]; exact r9
            · rw [mu_ne (by omega), mu_ne (by omega)]; exact r10
            · intro j p hj
              rw [hfk] at hj
              rw [mu_ne (by omega), mu_ne (by omega)]
              exact rq1 j p hj
            · intro j p hkj hj
              rw [mu_ne (by omega), mu_ne (by omega)]
              exact rq2 j p (by omega) hj
            · intro p hp
              obtain ⟨f2, f3, f4, f5⟩ := rp p hp
              refine ⟨by rw [mu_ne (by omega), mu_ne (by omega)]; exact f2, ?_, ?_, by rw [mu_ne (by omega), mu_ne (by omega)]; exact f5⟩
              · unfold leaveW
                by_cases e : p = x
                · subst e
                  rw [mu_s, if_pos ⟨Nat.zero_le _, (by show (tQ T).idxOf p < _; rw [hix]; omega), hst⟩]
                · rw [mu_j e, mu_ne (by omega), f3]
                  unfold leaveW
                  have e3 : (tQ (olderF T)).idxOf p < k.toNat + 1 ↔ (tQ (olderF T)).idxOf p < k.toNat := ⟨fun q => ((idx_s hT.1 (by omega) p).mp q).resolve_right (by rw [← hx]; exact e), fun q => by omega⟩
                  simp only [e3]
              · rw [mu_ne (by omega)]
                by_cases e : p = x
                · subst e
                  rw [mu_s, if_pos (by rw [hix]; omega), e4x]
                · rw [mu_j e, f4]
                  have e3 : (tQ T).idxOf p < k.toNat + 1 ↔ (tQ T).idxOf p < k.toNat := ⟨fun q => ((idx_s hT.1 (by omega) p).mp q).resolve_right (by rw [← hx]; exact e), fun q => by omega⟩
                  simp only [e3]
        · refine k_iconst i_76_64 (by decide) ?_
          refine k_goto (t := 69) i_76_65 rfl ?_
          refine k_istore (ls' := [some (vR (some a)), some (vI cv), some (vI st), some (vI k), some (vI x), some (vI 1)]) i_76_69 rfl ?_
          refine k_aload_n i_76_71 rfl ?_
          refine k_getR (r := (a + 4)) i_76_72 o_76 rfl (by decide) (ht.1) rfl ?_
          refine k_iload i_76_75 rfl ?_
          refine k_iald i_76_77 (ht.2.2.2.2.1) (by omega) ?_
          rw [mu_s M (a + 4) (x) ((M (a + 4) x) + 1)]
          refine k_aload_n i_76_78 rfl ?_
          refine k_iload i_76_79 rfl ?_
          refine k_invV (n := 1) (o' := 6) (av := [vR (some a), vI x]) (rest := [vI ((M (a + 4) x) + 1)]) (el := [some (vR (some a)), some (vI x), none]) i_76_81 o_76 rfl v_77 rfl (ht.1) rfl rfl rfl rfl rfl ?_
          refine c_77 ht hrm hKo hK2 hP2 hvx (by rw [hsx]; omega) (fun br hbr => ?_)
          show Ok _ 76 84 [some (vR (some a)), some (vI cv), some (vI st), some (vI k), some (vI x), some (vI 1)] [vI br, vI ((M (a + 4) x) + 1)] (mu M (a + 4) (x) ((M (a + 4) x) + 1)) _
          refine k_icmp_le (t := 103) i_76_84 rfl (fun h84 => ?_) (fun h84 => ?_)
          · refine k_aload_n i_76_103 rfl ?_
            refine k_getR (r := (a + 1)) i_76_104 o_76 rfl (by decide) (ht.1) rfl ?_
            refine k_iload_n i_76_107 rfl ?_
            refine k_iload i_76_108 rfl ?_
            refine k_iast i_76_110 (ht.2.1) (by omega) ?_
            refine k_iinc (ls' := [some (vR (some a)), some (vI cv), some (vI (st + 1)), some (vI k), some (vI x), some (vI 1)]) i_76_111 rfl (by omega) rfl ?_
            refine k_iinc (ls' := [some (vR (some a)), some (vI cv), some (vI (st + 1)), some (vI (k + 1)), some (vI x), some (vI 1)]) i_76_114 rfl (by omega) rfl ?_
            refine k_goto (t := 19) i_76_117 rfl ?_
            have hst : stays K (olderF T) (decide (6 ≤ (tQ T).length)) x = true := by
              unfold stays
              rw [decide_eq_true (show 6 ≤ (tQ T).length by omega), decide_eq_true (show kKd K x = 2 by omega)]
              simp
            have hfk : ((tQ T).take (k + 1).toNat).filter (stays K (olderF T) (decide (6 ≤ (tQ T).length))) = ((tQ T).take k.toNat).filter (stays K (olderF T) (decide (6 ≤ (tQ T).length))) ++ [x] := by
              rw [show (k + 1).toNat = k.toNat + 1 by omega, take_s (by omega), List.filter_append, ← hx]
              simp [hst]
            refine ih (k + 1) _ _ _ _ (by omega) ?_ ?_ ((ho.mu (by omega)).mu (by omega)) (by omega)
            · rw [hfk, List.length_append]; simp only [List.length_cons, List.length_nil]; omega
            rw [show (k + 1).toNat = k.toNat + 1 by omega] at hfk ⊢
            refine ⟨?_, ?_, ?_, ?_, ?_, ?_, ?_, ?_⟩
            · rw [mu_ne (by omega), mu_ne (by omega)]; exact r6
            · rw [mu_ne (by omega), mu_ne (by omega)]; exact r7
            · rw [mu_ne (by omega), mu_ne (by omega)]; exact r8
            · rw [mu_ne (by omega), mu_ne (by omega)]; exact r9
            · rw [mu_ne (by omega), mu_ne (by omega)]; exact r10
            · intro j p hj
              rw [hfk] at hj
              by_cases c1 : j < (((tQ T).take k.toNat).filter (stays K (olderF T) (decide (6 ≤ (tQ T).length)))).length
              · rw [List.getElem?_append_left c1] at hj
                rw [mu_j (by omega), mu_ne (by omega)]
                exact rq1 j p hj
              · have hj2 := (List.getElem?_eq_some_iff.mp hj).1
                simp only [List.length_append, List.length_cons, List.length_nil] at hj2
                have hje : j = (((tQ T).take k.toNat).filter (stays K (olderF T) (decide (6 ≤ (tQ T).length)))).length := by omega
                rw [List.getElem?_append_right (by omega), hje, Nat.sub_self] at hj
                cases hj
                rw [hje, ← hs, mu_s]
            · intro j p hkj hj
              rw [mu_j (by omega), mu_ne (by omega)]
              exact rq2 j p (by omega) hj
            · intro p hp
              obtain ⟨f2, f3, f4, f5⟩ := rp p hp
              refine ⟨by rw [mu_ne (by omega), mu_ne (by omega)]; exact f2, ?_, ?_, by rw [mu_ne (by omega), mu_ne (by omega)]; exact f5⟩
              · rw [mu_ne (by omega), mu_ne (by omega), f3]
                unfold leaveW
                by_cases e : p = x
                · subst e
                  rw [if_neg (fun q => by have := q.2.2; rw [hst] at this; cases this), if_neg (fun q => by have := q.2.2; rw [hst] at this; cases this)]
                · have e3 : (tQ (olderF T)).idxOf p < k.toNat + 1 ↔ (tQ (olderF T)).idxOf p < k.toNat := ⟨fun q => ((idx_s hT.1 (by omega) p).mp q).resolve_right (by rw [← hx]; exact e), fun q => by omega⟩
                  simp only [e3]
              · rw [mu_ne (by omega)]
                by_cases e : p = x
                · subst e
                  rw [mu_s, if_pos (by rw [hix]; omega), e4x]
                · rw [mu_j e, f4]
                  have e3 : (tQ T).idxOf p < k.toNat + 1 ↔ (tQ T).idxOf p < k.toNat := ⟨fun q => ((idx_s hT.1 (by omega) p).mp q).resolve_right (by rw [← hx]; exact e), fun q => by omega⟩
                  simp only [e3]
          · refine k_iload i_76_87 rfl ?_
            refine k_if_ne (t := 103) i_76_89 rfl (fun h89 => ?_) (fun h89 => absurd h89 (by decide))
            refine k_aload_n i_76_103 rfl ?_
            refine k_getR (r := (a + 1)) i_76_104 o_76 rfl (by decide) (ht.1) rfl ?_
            refine k_iload_n i_76_107 rfl ?_
            refine k_iload i_76_108 rfl ?_
            refine k_iast i_76_110 (ht.2.1) (by omega) ?_
            refine k_iinc (ls' := [some (vR (some a)), some (vI cv), some (vI (st + 1)), some (vI k), some (vI x), some (vI 1)]) i_76_111 rfl (by omega) rfl ?_
            refine k_iinc (ls' := [some (vR (some a)), some (vI cv), some (vI (st + 1)), some (vI (k + 1)), some (vI x), some (vI 1)]) i_76_114 rfl (by omega) rfl ?_
            refine k_goto (t := 19) i_76_117 rfl ?_
            have hst : stays K (olderF T) (decide (6 ≤ (tQ T).length)) x = true := by
              unfold stays
              rw [decide_eq_true (show 6 ≤ (tQ T).length by omega), decide_eq_true (show kKd K x = 2 by omega)]
              simp
            have hfk : ((tQ T).take (k + 1).toNat).filter (stays K (olderF T) (decide (6 ≤ (tQ T).length))) = ((tQ T).take k.toNat).filter (stays K (olderF T) (decide (6 ≤ (tQ T).length))) ++ [x] := by
              rw [show (k + 1).toNat = k.toNat + 1 by omega, take_s (by omega), List.filter_append, ← hx]
              simp [hst]
            refine ih (k + 1) _ _ _ _ (by omega) ?_ ?_ ((ho.mu (by omega)).mu (by omega)) (by omega)
            · rw [hfk, List.length_append]; simp only [List.length_cons, List.length_nil]; omega
            rw [show (k + 1).toNat = k.toNat + 1 by omega] at hfk ⊢
            refine ⟨?_, ?_, ?_, ?_, ?_, ?_, ?_, ?_⟩
            · rw [mu_ne (by omega), mu_ne (by omega)]; exact r6
            · rw [mu_ne (by omega), mu_ne (by omega)]; exact r7
            · rw [mu_ne (by omega), mu_ne (by omega)]; exact r8
            · rw [mu_ne (by omega), mu_ne (by omega)]; exact r9
            · rw [mu_ne (by omega), mu_ne (by omega)]; exact r10
            · intro j p hj
              rw [hfk] at hj
              by_cases c1 : j < (((tQ T).take k.toNat).filter (stays K (olderF T) (decide (6 ≤ (tQ T).length)))).length
              · rw [List.getElem?_append_left c1] at hj
                rw [mu_j (by omega), mu_ne (by omega)]
                exact rq1 j p hj
              · have hj2 := (List.getElem?_eq_some_iff.mp hj).1
                simp only [List.length_append, List.length_cons, List.length_nil] at hj2
                have hje : j = (((tQ T).take k.toNat).filter (stays K (olderF T) (decide (6 ≤ (tQ T).length)))).length := by omega
                rw [List.getElem?_append_right (by omega), hje, Nat.sub_self] at hj
                cases hj
                rw [hje, ← hs, mu_s]
            · intro j p hkj hj
              rw [mu_j (by omega), mu_ne (by omega)]
              exact rq2 j p (by omega) hj
            · intro p hp
              obtain ⟨f2, f3, f4, f5⟩ := rp p hp
              refine ⟨by rw [mu_ne (by omega), mu_ne (by omega)]; exact f2, ?_, ?_, by rw [mu_ne (by omega), mu_ne (by omega)]; exact f5⟩
              · rw [mu_ne (by omega), mu_ne (by omega), f3]
                unfold leaveW
                by_cases e : p = x
                · subst e
                  rw [if_neg (fun q => by have := q.2.2; rw [hst] at this; cases this), if_neg (fun q => by have := q.2.2; rw [hst] at this; cases this)]
                · have e3 : (tQ (olderF T)).idxOf p < k.toNat + 1 ↔ (tQ (olderF T)).idxOf p < k.toNat := ⟨fun q => ((idx_s hT.1 (by omega) p).mp q).resolve_right (by rw [← hx]; exact e), fun q => by omega⟩
                  simp only [e3]
              · rw [mu_ne (by omega)]
                by_cases e : p = x
                · subst e
                  rw [mu_s, if_pos (by rw [hix]; omega), e4x]
                · rw [mu_j e, f4]
                  have e3 : (tQ T).idxOf p < k.toNat + 1 ↔ (tQ T).idxOf p < k.toNat := ⟨fun q => ((idx_s hT.1 (by omega) p).mp q).resolve_right (by rw [← hx]; exact e), fun q => by omega⟩
                  simp only [e3]

/-- ElbowQueue$Town.standOn -/
theorem c_76 {d : Nat} {M : Mem} {Q : Option Vv → Mem → Prop} {a rm : Nat} {K : Kt} {m : Int} {T : Tt} (ht : Tw a 20 rm) (hrm : 16 + m ≤ (rm : Int) ∧ (rm : Int) ≤ 28) (hKo : KOk K m) (hK : RepK M 20 K m) (hR : RepC M a K m T) (hT : TOk K m T) (ha : 24 < a) (k : ∀ M', RepC M' a K m (standF K T) → OutT M M' a → Q none M') : Ok (d + 2) 76 0 [some (vR (some a)), none, none, none, none, none] [] M Q := by
  obtain ⟨r6, r7, r8, r9, r10, rq, rp⟩ := id hR
  obtain ⟨u1, u2, u3, u4, u5, u6, u7⟩ := id hT
  obtain ⟨⟨g1, g2, g3, g4, g5, g6, g7, g8⟩, hKp⟩ := id hKo
  refine k_aload_n i_76_0 rfl ?_
  refine k_getI (kz := 9) i_76_1 o_76 rfl (by decide) (ht.1) rfl ?_
  refine k_bipush i_76_4 (by decide) ?_
  refine k_icmp_lt (t := 13) i_76_6 rfl (fun h6 => ?_) (fun h6 => ?_)
  · refine k_iconst i_76_13 (by decide) ?_
    refine k_istore_n (ls' := [some (vR (some a)), some (vI 0), none, none, none, none]) i_76_14 rfl ?_
    refine k_iconst i_76_15 (by decide) ?_
    refine k_istore_n (ls' := [some (vR (some a)), some (vI 0), some (vI 0), none, none, none]) i_76_16 rfl ?_
    refine k_iconst i_76_17 (by decide) ?_
    refine k_istore_n (ls' := [some (vR (some a)), some (vI 0), some (vI 0), some (vI 0), none, none]) i_76_18 rfl ?_
    refine l_76 (cv := 0) ht hrm hKo hT ha hK (by omega) k ((tQ T).length + 1) 0 0 M _ _ (by omega) ?_ ?_ (OutT.rf M a) (by omega)
    · rfl
    refine ⟨r6, r7, r8, r9, r10, ?_, fun j p _ hj => rq j p hj, fun p hp => ?_⟩
    · intro j p hj; simp at hj
    · obtain ⟨f2, f3, f4, f5⟩ := rp p hp
      refine ⟨f2, ?_, ?_, f5⟩
      · rw [f3]; exact (if_neg (fun q => absurd q.2.1 (Nat.not_lt_zero _))).symm
      · rw [f4]; exact (if_neg (Nat.not_lt_zero _)).symm
  · refine k_iconst i_76_9 (by decide) ?_
    refine k_goto (t := 14) i_76_10 rfl ?_
    refine k_istore_n (ls' := [some (vR (some a)), some (vI 1), none, none, none, none]) i_76_14 rfl ?_
    refine k_iconst i_76_15 (by decide) ?_
    refine k_istore_n (ls' := [some (vR (some a)), some (vI 1), some (vI 0), none, none, none]) i_76_16 rfl ?_
    refine k_iconst i_76_17 (by decide) ?_
    refine k_istore_n (ls' := [some (vR (some a)), some (vI 1), some (vI 0), some (vI 0), none, none]) i_76_18 rfl ?_
    refine l_76 (cv := 1) ht hrm hKo hT ha hK (by omega) k ((tQ T).length + 1) 0 0 M _ _ (by omega) ?_ ?_ (OutT.rf M a) (by omega)
    · rfl
    refine ⟨r6, r7, r8, r9, r10, ?_, fun j p _ hj => rq j p hj, fun p hp => ?_⟩
    · intro j p hj; simp at hj
    · obtain ⟨f2, f3, f4, f5⟩ := rp p hp
      refine ⟨f2, ?_, ?_, f5⟩
      · rw [f3]; exact (if_neg (fun q => absurd q.2.1 (Nat.not_lt_zero _))).symm
      · rw [f4]; exact (if_neg (Nat.not_lt_zero _)).symm
end
