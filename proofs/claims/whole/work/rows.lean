section
-- ===== PART A: goes FIRST, ahead of the names: the tables' words, and 'selects' of the private methods out of them =====
/-- a private method of a class that the tables say can be made, by its rows of tables_1 -/
def lw_okq (q : MethodName × Nat) : Prop := (q.1.cls ≠ "java/lang/invoke/MethodHandle" ∧ q.1.cls ≠ "java/lang/invoke/VarHandle") ∧ Cond.instantiable q.1.cls q.2 ∈ tables_1 ∧ Cond.privateMethod q.1 ∈ tables_1 ∧ Cond.instanceMethod q.1 ∈ tables_1
theorem lw_p0 : lw_okq (⟨"DustLand", "finding", "(I)I"⟩, 8) := ⟨⟨by decide +kernel, by decide +kernel⟩, List.mem_of_getElem? (i := 15) (by decide +kernel), List.mem_of_getElem? (i := 177) (by decide +kernel), List.mem_of_getElem? (i := 178) (by decide +kernel)⟩
theorem lw_p1 : lw_okq (⟨"DustLand", "isTenant", "(I)Z"⟩, 8) := ⟨⟨by decide +kernel, by decide +kernel⟩, List.mem_of_getElem? (i := 15) (by decide +kernel), List.mem_of_getElem? (i := 218) (by decide +kernel), List.mem_of_getElem? (i := 219) (by decide +kernel)⟩
theorem lw_p2 : lw_okq (⟨"DustLand$Room", "settle", "(I)V"⟩, 12) := ⟨⟨by decide +kernel, by decide +kernel⟩, List.mem_of_getElem? (i := 23) (by decide +kernel), List.mem_of_getElem? (i := 288) (by decide +kernel), List.mem_of_getElem? (i := 289) (by decide +kernel)⟩
theorem lw_p3 : lw_okq (⟨"DustLand$Room", "blow", "()V"⟩, 12) := ⟨⟨by decide +kernel, by decide +kernel⟩, List.mem_of_getElem? (i := 23) (by decide +kernel), List.mem_of_getElem? (i := 292) (by decide +kernel), List.mem_of_getElem? (i := 293) (by decide +kernel)⟩
theorem lw_p4 : lw_okq (⟨"DustLand$Room", "sweep", "(I)V"⟩, 12) := ⟨⟨by decide +kernel, by decide +kernel⟩, List.mem_of_getElem? (i := 23) (by decide +kernel), List.mem_of_getElem? (i := 296) (by decide +kernel), List.mem_of_getElem? (i := 297) (by decide +kernel)⟩
theorem lw_p5 : lw_okq (⟨"DustLand$Room", "gain", "(II)V"⟩, 12) := ⟨⟨by decide +kernel, by decide +kernel⟩, List.mem_of_getElem? (i := 23) (by decide +kernel), List.mem_of_getElem? (i := 301) (by decide +kernel), List.mem_of_getElem? (i := 302) (by decide +kernel)⟩
theorem lw_p6 : lw_okq (⟨"DustLand$Room", "leaveMarks", "()V"⟩, 12) := ⟨⟨by decide +kernel, by decide +kernel⟩, List.mem_of_getElem? (i := 23) (by decide +kernel), List.mem_of_getElem? (i := 306) (by decide +kernel), List.mem_of_getElem? (i := 307) (by decide +kernel)⟩
theorem lw_p7 : lw_okq (⟨"DustLand$Room", "payRents", "()V"⟩, 12) := ⟨⟨by decide +kernel, by decide +kernel⟩, List.mem_of_getElem? (i := 23) (by decide +kernel), List.mem_of_getElem? (i := 311) (by decide +kernel), List.mem_of_getElem? (i := 312) (by decide +kernel)⟩
theorem lw_p8 : lw_okq (⟨"DustLand", "bestFor", "(IIIII)I"⟩, 8) := ⟨⟨by decide +kernel, by decide +kernel⟩, List.mem_of_getElem? (i := 15) (by decide +kernel), List.mem_of_getElem? (i := 387) (by decide +kernel), List.mem_of_getElem? (i := 388) (by decide +kernel)⟩
theorem lw_p9 : lw_okq (⟨"DustLand", "tryOut", "(III)V"⟩, 8) := ⟨⟨by decide +kernel, by decide +kernel⟩, List.mem_of_getElem? (i := 15) (by decide +kernel), List.mem_of_getElem? (i := 391) (by decide +kernel), List.mem_of_getElem? (i := 392) (by decide +kernel)⟩
theorem lw_p10 : lw_okq (⟨"DustLand", "dustWithFall", "(II)I"⟩, 8) := ⟨⟨by decide +kernel, by decide +kernel⟩, List.mem_of_getElem? (i := 15) (by decide +kernel), List.mem_of_getElem? (i := 407) (by decide +kernel), List.mem_of_getElem? (i := 408) (by decide +kernel)⟩
theorem lw_p11 : lw_okq (⟨"DustLand", "dustSweptBy", "(II)I"⟩, 8) := ⟨⟨by decide +kernel, by decide +kernel⟩, List.mem_of_getElem? (i := 15) (by decide +kernel), List.mem_of_getElem? (i := 419) (by decide +kernel), List.mem_of_getElem? (i := 420) (by decide +kernel)⟩
theorem lw_p12 : lw_okq (⟨"DustLand", "refuseTold", "(II)I"⟩, 8) := ⟨⟨by decide +kernel, by decide +kernel⟩, List.mem_of_getElem? (i := 15) (by decide +kernel), List.mem_of_getElem? (i := 437) (by decide +kernel), List.mem_of_getElem? (i := 438) (by decide +kernel)⟩
theorem lw_p13 : lw_okq (⟨"DustLand", "allThatFit", "(IIII)I"⟩, 8) := ⟨⟨by decide +kernel, by decide +kernel⟩, List.mem_of_getElem? (i := 15) (by decide +kernel), List.mem_of_getElem? (i := 444) (by decide +kernel), List.mem_of_getElem? (i := 445) (by decide +kernel)⟩
theorem lw_p14 : lw_okq (⟨"DustLand", "hasGoodsAsTold", "(ILDustLand$Sheet;)Z"⟩, 8) := ⟨⟨by decide +kernel, by decide +kernel⟩, List.mem_of_getElem? (i := 15) (by decide +kernel), List.mem_of_getElem? (i := 448) (by decide +kernel), List.mem_of_getElem? (i := 449) (by decide +kernel)⟩
theorem lw_p15 : lw_okq (⟨"DustLand$TextReader", "add", "(III)V"⟩, 5) := ⟨⟨by decide +kernel, by decide +kernel⟩, List.mem_of_getElem? (i := 100) (by decide +kernel), List.mem_of_getElem? (i := 583) (by decide +kernel), List.mem_of_getElem? (i := 584) (by decide +kernel)⟩
def lw_privs_1 : List (MethodName × Nat) := [(⟨"DustLand", "finding", "(I)I"⟩, 8), (⟨"DustLand", "isTenant", "(I)Z"⟩, 8), (⟨"DustLand$Room", "settle", "(I)V"⟩, 12), (⟨"DustLand$Room", "blow", "()V"⟩, 12), (⟨"DustLand$Room", "sweep", "(I)V"⟩, 12), (⟨"DustLand$Room", "gain", "(II)V"⟩, 12), (⟨"DustLand$Room", "leaveMarks", "()V"⟩, 12), (⟨"DustLand$Room", "payRents", "()V"⟩, 12), (⟨"DustLand", "bestFor", "(IIIII)I"⟩, 8), (⟨"DustLand", "tryOut", "(III)V"⟩, 8), (⟨"DustLand", "dustWithFall", "(II)I"⟩, 8), (⟨"DustLand", "dustSweptBy", "(II)I"⟩, 8), (⟨"DustLand", "refuseTold", "(II)I"⟩, 8), (⟨"DustLand", "allThatFit", "(IIII)I"⟩, 8), (⟨"DustLand", "hasGoodsAsTold", "(ILDustLand$Sheet;)Z"⟩, 8), (⟨"DustLand$TextReader", "add", "(III)V"⟩, 5)]
theorem lw_r1 : ∀ q ∈ lw_privs_1, lw_okq q := List.forall_mem_cons.mpr ⟨lw_p0, List.forall_mem_cons.mpr ⟨lw_p1, List.forall_mem_cons.mpr ⟨lw_p2, List.forall_mem_cons.mpr ⟨lw_p3, List.forall_mem_cons.mpr ⟨lw_p4, List.forall_mem_cons.mpr ⟨lw_p5, List.forall_mem_cons.mpr ⟨lw_p6, List.forall_mem_cons.mpr ⟨lw_p7, List.forall_mem_cons.mpr ⟨lw_p8, List.forall_mem_cons.mpr ⟨lw_p9, List.forall_mem_cons.mpr ⟨lw_p10, List.forall_mem_cons.mpr ⟨lw_p11, List.forall_mem_cons.mpr ⟨lw_p12, List.forall_mem_cons.mpr ⟨lw_p13, List.forall_mem_cons.mpr ⟨lw_p14, List.forall_mem_cons.mpr ⟨lw_p15, fun _ h => absurd h List.not_mem_nil⟩⟩⟩⟩⟩⟩⟩⟩⟩⟩⟩⟩⟩⟩⟩⟩
theorem lw_p16 : lw_okq (⟨"DustLand$TextReader", "readItem", "(LDustLand$Room;)Z"⟩, 5) := ⟨⟨by decide +kernel, by decide +kernel⟩, List.mem_of_getElem? (i := 100) (by decide +kernel), List.mem_of_getElem? (i := 591) (by decide +kernel), List.mem_of_getElem? (i := 592) (by decide +kernel)⟩
theorem lw_p17 : lw_okq (⟨"DustLand$TextReader", "readTenant", "(LDustLand$Room;I)Z"⟩, 5) := ⟨⟨by decide +kernel, by decide +kernel⟩, List.mem_of_getElem? (i := 100) (by decide +kernel), List.mem_of_getElem? (i := 596) (by decide +kernel), List.mem_of_getElem? (i := 597) (by decide +kernel)⟩
theorem lw_p18 : lw_okq (⟨"DustLand$TextReader", "numberBehind", "(II)I"⟩, 5) := ⟨⟨by decide +kernel, by decide +kernel⟩, List.mem_of_getElem? (i := 100) (by decide +kernel), List.mem_of_getElem? (i := 600) (by decide +kernel), List.mem_of_getElem? (i := 601) (by decide +kernel)⟩
theorem lw_p19 : lw_okq (⟨"DustLand$TextReader", "takeNumber", "(I)I"⟩, 5) := ⟨⟨by decide +kernel, by decide +kernel⟩, List.mem_of_getElem? (i := 100) (by decide +kernel), List.mem_of_getElem? (i := 604) (by decide +kernel), List.mem_of_getElem? (i := 605) (by decide +kernel)⟩
theorem lw_p20 : lw_okq (⟨"DustLand$TextReader", "readDust", "(LDustLand$Room;)Z"⟩, 5) := ⟨⟨by decide +kernel, by decide +kernel⟩, List.mem_of_getElem? (i := 100) (by decide +kernel), List.mem_of_getElem? (i := 609) (by decide +kernel), List.mem_of_getElem? (i := 610) (by decide +kernel)⟩
theorem lw_p21 : lw_okq (⟨"DustLand$TextReader", "readFall", "(LDustLand$Room;)Z"⟩, 5) := ⟨⟨by decide +kernel, by decide +kernel⟩, List.mem_of_getElem? (i := 100) (by decide +kernel), List.mem_of_getElem? (i := 613) (by decide +kernel), List.mem_of_getElem? (i := 614) (by decide +kernel)⟩
theorem lw_p22 : lw_okq (⟨"DustLand$TextReader", "readDraught", "(LDustLand$Room;)Z"⟩, 5) := ⟨⟨by decide +kernel, by decide +kernel⟩, List.mem_of_getElem? (i := 100) (by decide +kernel), List.mem_of_getElem? (i := 617) (by decide +kernel), List.mem_of_getElem? (i := 618) (by decide +kernel)⟩
theorem lw_p23 : lw_okq (⟨"DustLand$TextReader", "takes", "(I)Z"⟩, 5) := ⟨⟨by decide +kernel, by decide +kernel⟩, List.mem_of_getElem? (i := 100) (by decide +kernel), List.mem_of_getElem? (i := 621) (by decide +kernel), List.mem_of_getElem? (i := 622) (by decide +kernel)⟩
theorem lw_p24 : lw_okq (⟨"DustLandModel", "becomes", "(II)I"⟩, 19) := ⟨⟨by decide +kernel, by decide +kernel⟩, List.mem_of_getElem? (i := 700) (by decide +kernel), List.mem_of_getElem? (i := 776) (by decide +kernel), List.mem_of_getElem? (i := 777) (by decide +kernel)⟩
theorem lw_p25 : lw_okq (⟨"DustLandModel", "finds", "(I)I"⟩, 19) := ⟨⟨by decide +kernel, by decide +kernel⟩, List.mem_of_getElem? (i := 700) (by decide +kernel), List.mem_of_getElem? (i := 781) (by decide +kernel), List.mem_of_getElem? (i := 782) (by decide +kernel)⟩
theorem lw_p26 : lw_okq (⟨"DustLandModel", "holderOf", "(I)I"⟩, 19) := ⟨⟨by decide +kernel, by decide +kernel⟩, List.mem_of_getElem? (i := 700) (by decide +kernel), List.mem_of_getElem? (i := 790) (by decide +kernel), List.mem_of_getElem? (i := 791) (by decide +kernel)⟩
theorem lw_p27 : lw_okq (⟨"DustLandModel", "thoseAt", "(I)I"⟩, 19) := ⟨⟨by decide +kernel, by decide +kernel⟩, List.mem_of_getElem? (i := 700) (by decide +kernel), List.mem_of_getElem? (i := 797) (by decide +kernel), List.mem_of_getElem? (i := 798) (by decide +kernel)⟩
theorem lw_p28 : lw_okq (⟨"DustLandModel", "its", "(II)I"⟩, 19) := ⟨⟨by decide +kernel, by decide +kernel⟩, List.mem_of_getElem? (i := 700) (by decide +kernel), List.mem_of_getElem? (i := 801) (by decide +kernel), List.mem_of_getElem? (i := 802) (by decide +kernel)⟩
theorem lw_p29 : lw_okq (⟨"DustLandModel", "adds", "(II)I"⟩, 19) := ⟨⟨by decide +kernel, by decide +kernel⟩, List.mem_of_getElem? (i := 700) (by decide +kernel), List.mem_of_getElem? (i := 823) (by decide +kernel), List.mem_of_getElem? (i := 824) (by decide +kernel)⟩
theorem lw_p30 : lw_okq (⟨"DustLandModel", "isTenant", "(I)Z"⟩, 19) := ⟨⟨by decide +kernel, by decide +kernel⟩, List.mem_of_getElem? (i := 700) (by decide +kernel), List.mem_of_getElem? (i := 831) (by decide +kernel), List.mem_of_getElem? (i := 832) (by decide +kernel)⟩
theorem lw_p31 : lw_okq (⟨"DustLandModel", "leaves", "(I)I"⟩, 19) := ⟨⟨by decide +kernel, by decide +kernel⟩, List.mem_of_getElem? (i := 700) (by decide +kernel), List.mem_of_getElem? (i := 835) (by decide +kernel), List.mem_of_getElem? (i := 836) (by decide +kernel)⟩
def lw_privs_2 : List (MethodName × Nat) := [(⟨"DustLand$TextReader", "readItem", "(LDustLand$Room;)Z"⟩, 5), (⟨"DustLand$TextReader", "readTenant", "(LDustLand$Room;I)Z"⟩, 5), (⟨"DustLand$TextReader", "numberBehind", "(II)I"⟩, 5), (⟨"DustLand$TextReader", "takeNumber", "(I)I"⟩, 5), (⟨"DustLand$TextReader", "readDust", "(LDustLand$Room;)Z"⟩, 5), (⟨"DustLand$TextReader", "readFall", "(LDustLand$Room;)Z"⟩, 5), (⟨"DustLand$TextReader", "readDraught", "(LDustLand$Room;)Z"⟩, 5), (⟨"DustLand$TextReader", "takes", "(I)Z"⟩, 5), (⟨"DustLandModel", "becomes", "(II)I"⟩, 19), (⟨"DustLandModel", "finds", "(I)I"⟩, 19), (⟨"DustLandModel", "holderOf", "(I)I"⟩, 19), (⟨"DustLandModel", "thoseAt", "(I)I"⟩, 19), (⟨"DustLandModel", "its", "(II)I"⟩, 19), (⟨"DustLandModel", "adds", "(II)I"⟩, 19), (⟨"DustLandModel", "isTenant", "(I)Z"⟩, 19), (⟨"DustLandModel", "leaves", "(I)I"⟩, 19)]
theorem lw_r2 : ∀ q ∈ lw_privs_2, lw_okq q := List.forall_mem_cons.mpr ⟨lw_p16, List.forall_mem_cons.mpr ⟨lw_p17, List.forall_mem_cons.mpr ⟨lw_p18, List.forall_mem_cons.mpr ⟨lw_p19, List.forall_mem_cons.mpr ⟨lw_p20, List.forall_mem_cons.mpr ⟨lw_p21, List.forall_mem_cons.mpr ⟨lw_p22, List.forall_mem_cons.mpr ⟨lw_p23, List.forall_mem_cons.mpr ⟨lw_p24, List.forall_mem_cons.mpr ⟨lw_p25, List.forall_mem_cons.mpr ⟨lw_p26, List.forall_mem_cons.mpr ⟨lw_p27, List.forall_mem_cons.mpr ⟨lw_p28, List.forall_mem_cons.mpr ⟨lw_p29, List.forall_mem_cons.mpr ⟨lw_p30, List.forall_mem_cons.mpr ⟨lw_p31, fun _ h => absurd h List.not_mem_nil⟩⟩⟩⟩⟩⟩⟩⟩⟩⟩⟩⟩⟩⟩⟩⟩
theorem lw_p32 : lw_okq (⟨"DustLandModel", "sweeps", "(I)I"⟩, 19) := ⟨⟨by decide +kernel, by decide +kernel⟩, List.mem_of_getElem? (i := 700) (by decide +kernel), List.mem_of_getElem? (i := 839) (by decide +kernel), List.mem_of_getElem? (i := 840) (by decide +kernel)⟩
theorem lw_p33 : lw_okq (⟨"DustLandModel", "heldBy", "(I)I"⟩, 19) := ⟨⟨by decide +kernel, by decide +kernel⟩, List.mem_of_getElem? (i := 700) (by decide +kernel), List.mem_of_getElem? (i := 843) (by decide +kernel), List.mem_of_getElem? (i := 844) (by decide +kernel)⟩
theorem lw_p34 : lw_okq (⟨"DustLandModel", "marksOf", "(I)I"⟩, 19) := ⟨⟨by decide +kernel, by decide +kernel⟩, List.mem_of_getElem? (i := 700) (by decide +kernel), List.mem_of_getElem? (i := 847) (by decide +kernel), List.mem_of_getElem? (i := 848) (by decide +kernel)⟩
theorem lw_p35 : lw_okq (⟨"DustLandModel", "swaps", "(II)I"⟩, 19) := ⟨⟨by decide +kernel, by decide +kernel⟩, List.mem_of_getElem? (i := 700) (by decide +kernel), List.mem_of_getElem? (i := 868) (by decide +kernel), List.mem_of_getElem? (i := 869) (by decide +kernel)⟩
theorem lw_p36 : lw_okq (⟨"DustLandModel", "blows", "(II)I"⟩, 19) := ⟨⟨by decide +kernel, by decide +kernel⟩, List.mem_of_getElem? (i := 700) (by decide +kernel), List.mem_of_getElem? (i := 877) (by decide +kernel), List.mem_of_getElem? (i := 878) (by decide +kernel)⟩
theorem lw_p37 : lw_okq (⟨"DustLandModel", "goesOn", "(I)V"⟩, 19) := ⟨⟨by decide +kernel, by decide +kernel⟩, List.mem_of_getElem? (i := 700) (by decide +kernel), List.mem_of_getElem? (i := 894) (by decide +kernel), List.mem_of_getElem? (i := 895) (by decide +kernel)⟩
theorem lw_p38 : lw_okq (⟨"DustLandModel", "day", "()V"⟩, 19) := ⟨⟨by decide +kernel, by decide +kernel⟩, List.mem_of_getElem? (i := 700) (by decide +kernel), List.mem_of_getElem? (i := 898) (by decide +kernel), List.mem_of_getElem? (i := 899) (by decide +kernel)⟩
theorem lw_p39 : lw_okq (⟨"DustLandModel", "draughts", "()V"⟩, 19) := ⟨⟨by decide +kernel, by decide +kernel⟩, List.mem_of_getElem? (i := 700) (by decide +kernel), List.mem_of_getElem? (i := 902) (by decide +kernel), List.mem_of_getElem? (i := 903) (by decide +kernel)⟩
theorem lw_p40 : lw_okq (⟨"DustLandModel", "sweep", "(I)V"⟩, 19) := ⟨⟨by decide +kernel, by decide +kernel⟩, List.mem_of_getElem? (i := 700) (by decide +kernel), List.mem_of_getElem? (i := 906) (by decide +kernel), List.mem_of_getElem? (i := 907) (by decide +kernel)⟩
theorem lw_p41 : lw_okq (⟨"DustLandModel", "gets", "(II)V"⟩, 19) := ⟨⟨by decide +kernel, by decide +kernel⟩, List.mem_of_getElem? (i := 700) (by decide +kernel), List.mem_of_getElem? (i := 910) (by decide +kernel), List.mem_of_getElem? (i := 911) (by decide +kernel)⟩
theorem lw_p42 : lw_okq (⟨"DustLandModel", "marks", "(I)V"⟩, 19) := ⟨⟨by decide +kernel, by decide +kernel⟩, List.mem_of_getElem? (i := 700) (by decide +kernel), List.mem_of_getElem? (i := 914) (by decide +kernel), List.mem_of_getElem? (i := 915) (by decide +kernel)⟩
theorem lw_p43 : lw_okq (⟨"DustLandModel", "dustAll", "()I"⟩, 19) := ⟨⟨by decide +kernel, by decide +kernel⟩, List.mem_of_getElem? (i := 700) (by decide +kernel), List.mem_of_getElem? (i := 918) (by decide +kernel), List.mem_of_getElem? (i := 919) (by decide +kernel)⟩
theorem lw_p44 : lw_okq (⟨"DustLandModel", "goodsAll", "()I"⟩, 19) := ⟨⟨by decide +kernel, by decide +kernel⟩, List.mem_of_getElem? (i := 700) (by decide +kernel), List.mem_of_getElem? (i := 926) (by decide +kernel), List.mem_of_getElem? (i := 927) (by decide +kernel)⟩
theorem lw_p45 : lw_okq (⟨"DustLandModel", "heldOnes", "()I"⟩, 19) := ⟨⟨by decide +kernel, by decide +kernel⟩, List.mem_of_getElem? (i := 700) (by decide +kernel), List.mem_of_getElem? (i := 930) (by decide +kernel), List.mem_of_getElem? (i := 931) (by decide +kernel)⟩
theorem lw_p46 : lw_okq (⟨"DustLandModel", "landless", "()I"⟩, 19) := ⟨⟨by decide +kernel, by decide +kernel⟩, List.mem_of_getElem? (i := 700) (by decide +kernel), List.mem_of_getElem? (i := 934) (by decide +kernel), List.mem_of_getElem? (i := 935) (by decide +kernel)⟩
theorem lw_p47 : lw_okq (⟨"DustLandModel", "richest", "()I"⟩, 19) := ⟨⟨by decide +kernel, by decide +kernel⟩, List.mem_of_getElem? (i := 700) (by decide +kernel), List.mem_of_getElem? (i := 938) (by decide +kernel), List.mem_of_getElem? (i := 939) (by decide +kernel)⟩
def lw_privs_3 : List (MethodName × Nat) := [(⟨"DustLandModel", "sweeps", "(I)I"⟩, 19), (⟨"DustLandModel", "heldBy", "(I)I"⟩, 19), (⟨"DustLandModel", "marksOf", "(I)I"⟩, 19), (⟨"DustLandModel", "swaps", "(II)I"⟩, 19), (⟨"DustLandModel", "blows", "(II)I"⟩, 19), (⟨"DustLandModel", "goesOn", "(I)V"⟩, 19), (⟨"DustLandModel", "day", "()V"⟩, 19), (⟨"DustLandModel", "draughts", "()V"⟩, 19), (⟨"DustLandModel", "sweep", "(I)V"⟩, 19), (⟨"DustLandModel", "gets", "(II)V"⟩, 19), (⟨"DustLandModel", "marks", "(I)V"⟩, 19), (⟨"DustLandModel", "dustAll", "()I"⟩, 19), (⟨"DustLandModel", "goodsAll", "()I"⟩, 19), (⟨"DustLandModel", "heldOnes", "()I"⟩, 19), (⟨"DustLandModel", "landless", "()I"⟩, 19), (⟨"DustLandModel", "richest", "()I"⟩, 19)]
theorem lw_r3 : ∀ q ∈ lw_privs_3, lw_okq q := List.forall_mem_cons.mpr ⟨lw_p32, List.forall_mem_cons.mpr ⟨lw_p33, List.forall_mem_cons.mpr ⟨lw_p34, List.forall_mem_cons.mpr ⟨lw_p35, List.forall_mem_cons.mpr ⟨lw_p36, List.forall_mem_cons.mpr ⟨lw_p37, List.forall_mem_cons.mpr ⟨lw_p38, List.forall_mem_cons.mpr ⟨lw_p39, List.forall_mem_cons.mpr ⟨lw_p40, List.forall_mem_cons.mpr ⟨lw_p41, List.forall_mem_cons.mpr ⟨lw_p42, List.forall_mem_cons.mpr ⟨lw_p43, List.forall_mem_cons.mpr ⟨lw_p44, List.forall_mem_cons.mpr ⟨lw_p45, List.forall_mem_cons.mpr ⟨lw_p46, List.forall_mem_cons.mpr ⟨lw_p47, fun _ h => absurd h List.not_mem_nil⟩⟩⟩⟩⟩⟩⟩⟩⟩⟩⟩⟩⟩⟩⟩⟩
theorem lw_p48 : lw_okq (⟨"DustLandModel", "laysAside", "()V"⟩, 19) := ⟨⟨by decide +kernel, by decide +kernel⟩, List.mem_of_getElem? (i := 700) (by decide +kernel), List.mem_of_getElem? (i := 950) (by decide +kernel), List.mem_of_getElem? (i := 951) (by decide +kernel)⟩
theorem lw_p49 : lw_okq (⟨"DustLandModel", "takesBack", "(I)I"⟩, 19) := ⟨⟨by decide +kernel, by decide +kernel⟩, List.mem_of_getElem? (i := 700) (by decide +kernel), List.mem_of_getElem? (i := 954) (by decide +kernel), List.mem_of_getElem? (i := 955) (by decide +kernel)⟩
theorem lw_p50 : lw_okq (⟨"DustLandModel", "goodsBehind", "(II)I"⟩, 19) := ⟨⟨by decide +kernel, by decide +kernel⟩, List.mem_of_getElem? (i := 700) (by decide +kernel), List.mem_of_getElem? (i := 962) (by decide +kernel), List.mem_of_getElem? (i := 963) (by decide +kernel)⟩
theorem lw_p51 : lw_okq (⟨"DustLandModel", "orNone", "(I)I"⟩, 19) := ⟨⟨by decide +kernel, by decide +kernel⟩, List.mem_of_getElem? (i := 700) (by decide +kernel), List.mem_of_getElem? (i := 974) (by decide +kernel), List.mem_of_getElem? (i := 975) (by decide +kernel)⟩
theorem lw_p52 : lw_okq (⟨"DustLandModel", "isOtherwise", "()Z"⟩, 19) := ⟨⟨by decide +kernel, by decide +kernel⟩, List.mem_of_getElem? (i := 700) (by decide +kernel), List.mem_of_getElem? (i := 983) (by decide +kernel), List.mem_of_getElem? (i := 984) (by decide +kernel)⟩
theorem lw_p53 : lw_okq (⟨"DustLandModel", "richestBy", "(IIIII)I"⟩, 19) := ⟨⟨by decide +kernel, by decide +kernel⟩, List.mem_of_getElem? (i := 700) (by decide +kernel), List.mem_of_getElem? (i := 998) (by decide +kernel), List.mem_of_getElem? (i := 999) (by decide +kernel)⟩
theorem lw_p54 : lw_okq (⟨"DustLandModel", "dustBehind", "(I)I"⟩, 19) := ⟨⟨by decide +kernel, by decide +kernel⟩, List.mem_of_getElem? (i := 700) (by decide +kernel), List.mem_of_getElem? (i := 1014) (by decide +kernel), List.mem_of_getElem? (i := 1015) (by decide +kernel)⟩
theorem lw_p55 : lw_okq (⟨"DustLandModel", "dustWith", "(II)I"⟩, 19) := ⟨⟨by decide +kernel, by decide +kernel⟩, List.mem_of_getElem? (i := 700) (by decide +kernel), List.mem_of_getElem? (i := 1030) (by decide +kernel), List.mem_of_getElem? (i := 1031) (by decide +kernel)⟩
theorem lw_p56 : lw_okq (⟨"DustLandModel", "wrongTold", "(II)I"⟩, 19) := ⟨⟨by decide +kernel, by decide +kernel⟩, List.mem_of_getElem? (i := 700) (by decide +kernel), List.mem_of_getElem? (i := 1042) (by decide +kernel), List.mem_of_getElem? (i := 1043) (by decide +kernel)⟩
theorem lw_p57 : lw_okq (⟨"DustLandModel", "wrong", "(I)I"⟩, 19) := ⟨⟨by decide +kernel, by decide +kernel⟩, List.mem_of_getElem? (i := 700) (by decide +kernel), List.mem_of_getElem? (i := 1046) (by decide +kernel), List.mem_of_getElem? (i := 1047) (by decide +kernel)⟩
theorem lw_p58 : lw_okq (⟨"DustLandModel", "fitsBy", "(IIII)I"⟩, 19) := ⟨⟨by decide +kernel, by decide +kernel⟩, List.mem_of_getElem? (i := 700) (by decide +kernel), List.mem_of_getElem? (i := 1054) (by decide +kernel), List.mem_of_getElem? (i := 1055) (by decide +kernel)⟩
theorem lw_p59 : lw_okq (⟨"DustLandModel", "isTold", "(II)Z"⟩, 19) := ⟨⟨by decide +kernel, by decide +kernel⟩, List.mem_of_getElem? (i := 700) (by decide +kernel), List.mem_of_getElem? (i := 1058) (by decide +kernel), List.mem_of_getElem? (i := 1059) (by decide +kernel)⟩
theorem lw_p60 : lw_okq (⟨"DustLandModel", "draw", "()I"⟩, 19) := ⟨⟨by decide +kernel, by decide +kernel⟩, List.mem_of_getElem? (i := 700) (by decide +kernel), List.mem_of_getElem? (i := 1070) (by decide +kernel), List.mem_of_getElem? (i := 1071) (by decide +kernel)⟩
theorem lw_p61 : lw_okq (⟨"DustLandModel", "saves", "()V"⟩, 19) := ⟨⟨by decide +kernel, by decide +kernel⟩, List.mem_of_getElem? (i := 700) (by decide +kernel), List.mem_of_getElem? (i := 1097) (by decide +kernel), List.mem_of_getElem? (i := 1098) (by decide +kernel)⟩
theorem lw_p62 : lw_okq (⟨"DustLandModel", "token", "()V"⟩, 19) := ⟨⟨by decide +kernel, by decide +kernel⟩, List.mem_of_getElem? (i := 700) (by decide +kernel), List.mem_of_getElem? (i := 1101) (by decide +kernel), List.mem_of_getElem? (i := 1102) (by decide +kernel)⟩
theorem lw_p63 : lw_okq (⟨"DustLandModel", "byteAt", "(I)I"⟩, 19) := ⟨⟨by decide +kernel, by decide +kernel⟩, List.mem_of_getElem? (i := 700) (by decide +kernel), List.mem_of_getElem? (i := 1105) (by decide +kernel), List.mem_of_getElem? (i := 1106) (by decide +kernel)⟩
def lw_privs_4 : List (MethodName × Nat) := [(⟨"DustLandModel", "laysAside", "()V"⟩, 19), (⟨"DustLandModel", "takesBack", "(I)I"⟩, 19), (⟨"DustLandModel", "goodsBehind", "(II)I"⟩, 19), (⟨"DustLandModel", "orNone", "(I)I"⟩, 19), (⟨"DustLandModel", "isOtherwise", "()Z"⟩, 19), (⟨"DustLandModel", "richestBy", "(IIIII)I"⟩, 19), (⟨"DustLandModel", "dustBehind", "(I)I"⟩, 19), (⟨"DustLandModel", "dustWith", "(II)I"⟩, 19), (⟨"DustLandModel", "wrongTold", "(II)I"⟩, 19), (⟨"DustLandModel", "wrong", "(I)I"⟩, 19), (⟨"DustLandModel", "fitsBy", "(IIII)I"⟩, 19), (⟨"DustLandModel", "isTold", "(II)Z"⟩, 19), (⟨"DustLandModel", "draw", "()I"⟩, 19), (⟨"DustLandModel", "saves", "()V"⟩, 19), (⟨"DustLandModel", "token", "()V"⟩, 19), (⟨"DustLandModel", "byteAt", "(I)I"⟩, 19)]
theorem lw_r4 : ∀ q ∈ lw_privs_4, lw_okq q := List.forall_mem_cons.mpr ⟨lw_p48, List.forall_mem_cons.mpr ⟨lw_p49, List.forall_mem_cons.mpr ⟨lw_p50, List.forall_mem_cons.mpr ⟨lw_p51, List.forall_mem_cons.mpr ⟨lw_p52, List.forall_mem_cons.mpr ⟨lw_p53, List.forall_mem_cons.mpr ⟨lw_p54, List.forall_mem_cons.mpr ⟨lw_p55, List.forall_mem_cons.mpr ⟨lw_p56, List.forall_mem_cons.mpr ⟨lw_p57, List.forall_mem_cons.mpr ⟨lw_p58, List.forall_mem_cons.mpr ⟨lw_p59, List.forall_mem_cons.mpr ⟨lw_p60, List.forall_mem_cons.mpr ⟨lw_p61, List.forall_mem_cons.mpr ⟨lw_p62, List.forall_mem_cons.mpr ⟨lw_p63, fun _ h => absurd h List.not_mem_nil⟩⟩⟩⟩⟩⟩⟩⟩⟩⟩⟩⟩⟩⟩⟩⟩
theorem lw_p64 : lw_okq (⟨"DustLandModel", "item", "()V"⟩, 19) := ⟨⟨by decide +kernel, by decide +kernel⟩, List.mem_of_getElem? (i := 700) (by decide +kernel), List.mem_of_getElem? (i := 1119) (by decide +kernel), List.mem_of_getElem? (i := 1120) (by decide +kernel)⟩
theorem lw_p65 : lw_okq (⟨"DustLandModel", "kindHere", "()I"⟩, 19) := ⟨⟨by decide +kernel, by decide +kernel⟩, List.mem_of_getElem? (i := 700) (by decide +kernel), List.mem_of_getElem? (i := 1123) (by decide +kernel), List.mem_of_getElem? (i := 1124) (by decide +kernel)⟩
theorem lw_p66 : lw_okq (⟨"DustLandModel", "word", "()J"⟩, 19) := ⟨⟨by decide +kernel, by decide +kernel⟩, List.mem_of_getElem? (i := 700) (by decide +kernel), List.mem_of_getElem? (i := 1127) (by decide +kernel), List.mem_of_getElem? (i := 1128) (by decide +kernel)⟩
theorem lw_p67 : lw_okq (⟨"DustLandModel", "tenantItem", "(I)V"⟩, 19) := ⟨⟨by decide +kernel, by decide +kernel⟩, List.mem_of_getElem? (i := 700) (by decide +kernel), List.mem_of_getElem? (i := 1140) (by decide +kernel), List.mem_of_getElem? (i := 1141) (by decide +kernel)⟩
theorem lw_p68 : lw_okq (⟨"DustLandModel", "must", "(Z)V"⟩, 19) := ⟨⟨by decide +kernel, by decide +kernel⟩, List.mem_of_getElem? (i := 700) (by decide +kernel), List.mem_of_getElem? (i := 1144) (by decide +kernel), List.mem_of_getElem? (i := 1145) (by decide +kernel)⟩
theorem lw_p69 : lw_okq (⟨"DustLandModel", "perhaps", "(JII)V"⟩, 19) := ⟨⟨by decide +kernel, by decide +kernel⟩, List.mem_of_getElem? (i := 700) (by decide +kernel), List.mem_of_getElem? (i := 1149) (by decide +kernel), List.mem_of_getElem? (i := 1150) (by decide +kernel)⟩
theorem lw_p70 : lw_okq (⟨"DustLandModel", "number", "(II)V"⟩, 19) := ⟨⟨by decide +kernel, by decide +kernel⟩, List.mem_of_getElem? (i := 700) (by decide +kernel), List.mem_of_getElem? (i := 1153) (by decide +kernel), List.mem_of_getElem? (i := 1154) (by decide +kernel)⟩
theorem lw_p71 : lw_okq (⟨"DustLandModel", "dustItem", "()V"⟩, 19) := ⟨⟨by decide +kernel, by decide +kernel⟩, List.mem_of_getElem? (i := 700) (by decide +kernel), List.mem_of_getElem? (i := 1160) (by decide +kernel), List.mem_of_getElem? (i := 1161) (by decide +kernel)⟩
theorem lw_p72 : lw_okq (⟨"DustLandModel", "draughtItem", "()V"⟩, 19) := ⟨⟨by decide +kernel, by decide +kernel⟩, List.mem_of_getElem? (i := 700) (by decide +kernel), List.mem_of_getElem? (i := 1165) (by decide +kernel), List.mem_of_getElem? (i := 1166) (by decide +kernel)⟩
theorem lw_p73 : lw_okq (⟨"DustLandModel", "putsBack", "()V"⟩, 19) := ⟨⟨by decide +kernel, by decide +kernel⟩, List.mem_of_getElem? (i := 700) (by decide +kernel), List.mem_of_getElem? (i := 1170) (by decide +kernel), List.mem_of_getElem? (i := 1171) (by decide +kernel)⟩
theorem lw_p74 : lw_okq (⟨"DustLandModel", "heldSpots", "()I"⟩, 19) := ⟨⟨by decide +kernel, by decide +kernel⟩, List.mem_of_getElem? (i := 700) (by decide +kernel), List.mem_of_getElem? (i := 1230) (by decide +kernel), List.mem_of_getElem? (i := 1231) (by decide +kernel)⟩
def lw_privs_5 : List (MethodName × Nat) := [(⟨"DustLandModel", "item", "()V"⟩, 19), (⟨"DustLandModel", "kindHere", "()I"⟩, 19), (⟨"DustLandModel", "word", "()J"⟩, 19), (⟨"DustLandModel", "tenantItem", "(I)V"⟩, 19), (⟨"DustLandModel", "must", "(Z)V"⟩, 19), (⟨"DustLandModel", "perhaps", "(JII)V"⟩, 19), (⟨"DustLandModel", "number", "(II)V"⟩, 19), (⟨"DustLandModel", "dustItem", "()V"⟩, 19), (⟨"DustLandModel", "draughtItem", "()V"⟩, 19), (⟨"DustLandModel", "putsBack", "()V"⟩, 19), (⟨"DustLandModel", "heldSpots", "()I"⟩, 19)]
theorem lw_r5 : ∀ q ∈ lw_privs_5, lw_okq q := List.forall_mem_cons.mpr ⟨lw_p64, List.forall_mem_cons.mpr ⟨lw_p65, List.forall_mem_cons.mpr ⟨lw_p66, List.forall_mem_cons.mpr ⟨lw_p67, List.forall_mem_cons.mpr ⟨lw_p68, List.forall_mem_cons.mpr ⟨lw_p69, List.forall_mem_cons.mpr ⟨lw_p70, List.forall_mem_cons.mpr ⟨lw_p71, List.forall_mem_cons.mpr ⟨lw_p72, List.forall_mem_cons.mpr ⟨lw_p73, List.forall_mem_cons.mpr ⟨lw_p74, fun _ h => absurd h List.not_mem_nil⟩⟩⟩⟩⟩⟩⟩⟩⟩⟩⟩
def lw_privs : List (MethodName × Nat) := lw_privs_1 ++ (lw_privs_2 ++ (lw_privs_3 ++ (lw_privs_4 ++ (lw_privs_5))))
def lw_tbl : List Cond := k2_sels lw_privs ++ tables_1
theorem lw_privs_ok : ∀ q ∈ lw_privs, lw_okq q := by
  show ∀ q ∈ lw_privs_1 ++ (lw_privs_2 ++ (lw_privs_3 ++ (lw_privs_4 ++ (lw_privs_5)))), lw_okq q
  exact List.forall_mem_append.mpr ⟨lw_r1, List.forall_mem_append.mpr ⟨lw_r2, List.forall_mem_append.mpr ⟨lw_r3, List.forall_mem_append.mpr ⟨lw_r4, lw_r5⟩⟩⟩⟩
end
section
/-! ===== BEGIN printed: names, fields, word lists, decode rows ===== -/
def RX0 : String := "DustLand$Room"
def TX0 : u_T := fun k => match k with
  | 0 => ("DustLand$Room", "dust", "[I", true)
  | 1 => ("DustLand$Room", "blown", "[I", true)
  | 2 => ("DustLand$Room", "kind", "[I", true)
  | 3 => ("DustLand$Room", "at", "[I", true)
  | 4 => ("DustLand$Room", "goods", "[I", true)
  | 5 => ("DustLand$Room", "marks", "[I", true)
  | 6 => ("DustLand$Room", "spots", "[I", true)
  | 7 => ("DustLand$Room", "tenants", "I", false)
  | 8 => ("DustLand$Room", "fall", "I", false)
  | 9 => ("DustLand$Room", "wind", "I", false)
  | 10 => ("DustLand$Room", "day", "I", false)
  | _ => ("DustLand$Room", "z", "I", false)
def tyX0 : Nat → FieldType := fun k => match k with
  | 0 => .array .int
  | 1 => .array .int
  | 2 => .array .int
  | 3 => .array .int
  | 4 => .array .int
  | 5 => .array .int
  | 6 => .array .int
  | 7 => .int
  | 8 => .int
  | 9 => .int
  | 10 => .int
  | _ => .int
theorem nmX0 : ∀ a, a < 12 → ∀ b, b < 12 → a ≠ b → (TX0 a).2.1 ≠ (TX0 b).2.1 := by decide +kernel
theorem tyX0_ok : ∀ k, k < 12 → parseFieldDescriptor (TX0 k).2.2.1 = some (tyX0 k) := by decide +kernel
abbrev cX0_init : ByteArray := prog_2_method_1_code
def yX0_init : MethodName := ⟨RX0, "<init>", "()V"⟩
abbrev cX0_become : ByteArray := prog_2_method_2_code
def yX0_become : MethodName := ⟨RX0, "become", "(LDustLand$Room;)V"⟩
abbrev cX0_addTenant : ByteArray := prog_2_method_3_code
def yX0_addTenant : MethodName := ⟨RX0, "addTenant", "(II)I"⟩
abbrev cX0_changePlaces : ByteArray := prog_2_method_4_code
def yX0_changePlaces : MethodName := ⟨RX0, "changePlaces", "(II)V"⟩
abbrev cX0_blowAway : ByteArray := prog_2_method_5_code
def yX0_blowAway : MethodName := ⟨RX0, "blowAway", "(II)I"⟩
abbrev cX0_draw : ByteArray := prog_2_method_6_code
def yX0_draw : MethodName := ⟨RX0, "draw", "()I"⟩
abbrev cX0_holderOf : ByteArray := prog_2_method_7_code
def yX0_holderOf : MethodName := ⟨RX0, "holderOf", "(I)I"⟩
abbrev cX0_greatestMark : ByteArray := prog_2_method_8_code
def yX0_greatestMark : MethodName := ⟨RX0, "greatestMark", "(I)I"⟩
abbrev cX0_sittersAt : ByteArray := prog_2_method_9_code
def yX0_sittersAt : MethodName := ⟨RX0, "sittersAt", "(I)I"⟩
abbrev cX0_heldBy : ByteArray := prog_2_method_10_code
def yX0_heldBy : MethodName := ⟨RX0, "heldBy", "(I)I"⟩
abbrev cX0_heldSurfaces : ByteArray := prog_2_method_11_code
def yX0_heldSurfaces : MethodName := ⟨RX0, "heldSurfaces", "()I"⟩
abbrev cX0_landless : ByteArray := prog_2_method_12_code
def yX0_landless : MethodName := ⟨RX0, "landless", "()I"⟩
abbrev cX0_isHeldLike : ByteArray := prog_2_method_13_code
def yX0_isHeldLike : MethodName := ⟨RX0, "isHeldLike", "(LDustLand$Room;)Z"⟩
abbrev cX0_marksOf : ByteArray := prog_2_method_14_code
def yX0_marksOf : MethodName := ⟨RX0, "marksOf", "(I)I"⟩
abbrev cX0_richest : ByteArray := prog_2_method_15_code
def yX0_richest : MethodName := ⟨RX0, "richest", "()I"⟩
abbrev cX0_allDust : ByteArray := prog_2_method_16_code
def yX0_allDust : MethodName := ⟨RX0, "allDust", "()I"⟩
abbrev cX0_allGoods : ByteArray := prog_2_method_17_code
def yX0_allGoods : MethodName := ⟨RX0, "allGoods", "()I"⟩
abbrev cX0_usedSpots : ByteArray := prog_2_method_18_code
def yX0_usedSpots : MethodName := ⟨RX0, "usedSpots", "()I"⟩
abbrev cX0_leavesOf : ByteArray := prog_2_method_19_code
def yX0_leavesOf : MethodName := ⟨RX0, "leavesOf", "(I)I"⟩
abbrev cX0_passDays : ByteArray := prog_2_method_20_code
def yX0_passDays : MethodName := ⟨RX0, "passDays", "(I)V"⟩
abbrev cX0_passDay : ByteArray := prog_2_method_21_code
def yX0_passDay : MethodName := ⟨RX0, "passDay", "()V"⟩
abbrev cX0_settleDays : ByteArray := prog_2_method_22_code
def yX0_settleDays : MethodName := ⟨RX0, "settleDays", "(II)V"⟩
abbrev cX0_settle : ByteArray := prog_2_method_23_code
def yX0_settle : MethodName := ⟨RX0, "settle", "(I)V"⟩
abbrev cX0_blow : ByteArray := prog_2_method_24_code
def yX0_blow : MethodName := ⟨RX0, "blow", "()V"⟩
abbrev cX0_sweep : ByteArray := prog_2_method_25_code
def yX0_sweep : MethodName := ⟨RX0, "sweep", "(I)V"⟩
abbrev cX0_leaveMarks : ByteArray := prog_2_method_26_code
def yX0_leaveMarks : MethodName := ⟨RX0, "leaveMarks", "()V"⟩
abbrev cX0_payRents : ByteArray := prog_2_method_27_code
def yX0_payRents : MethodName := ⟨RX0, "payRents", "()V"⟩
abbrev cX0_gain : ByteArray := prog_2_method_28_code
def yX0_gain : MethodName := ⟨RX0, "gain", "(II)V"⟩
def RX1 : String := "DustLand$Sheet"
def TX1 : u_T := fun k => match k with
  | 0 => ("DustLand$Sheet", "numbers", "[I", true)
  | 1 => ("DustLand$Sheet", "bits", "I", false)
  | _ => ("DustLand$Sheet", "length", "I", false)
def tyX1 : Nat → FieldType := fun k => match k with
  | 0 => .array .int
  | 1 => .int
  | _ => .int
theorem nmX1 : ∀ a, a < 3 → ∀ b, b < 3 → a ≠ b → (TX1 a).2.1 ≠ (TX1 b).2.1 := by decide +kernel
theorem tyX1_ok : ∀ k, k < 3 → parseFieldDescriptor (TX1 k).2.2.1 = some (tyX1 k) := by decide +kernel
abbrev cX1_init : ByteArray := prog_3_method_1_code
def yX1_init : MethodName := ⟨RX1, "<init>", "()V"⟩
abbrev cX1_renew : ByteArray := prog_3_method_2_code
def yX1_renew : MethodName := ⟨RX1, "renew", "(II)I"⟩
abbrev cX1_put : ByteArray := prog_3_method_3_code
def yX1_put : MethodName := ⟨RX1, "put", "(II)V"⟩
abbrev cX1_has : ByteArray := prog_3_method_4_code
def yX1_has : MethodName := ⟨RX1, "has", "(II)Z"⟩
def RX2 : String := "DustLand$Tape"
def TX2 : u_T := fun k => match k with
  | 0 => ("DustLand$Tape", "bytes", "[I", true)
  | _ => ("DustLand$Tape", "length", "I", false)
def tyX2 : Nat → FieldType := fun k => match k with
  | 0 => .array .int
  | _ => .int
theorem nmX2 : ∀ a, a < 2 → ∀ b, b < 2 → a ≠ b → (TX2 a).2.1 ≠ (TX2 b).2.1 := by decide +kernel
theorem tyX2_ok : ∀ k, k < 2 → parseFieldDescriptor (TX2 k).2.2.1 = some (tyX2 k) := by decide +kernel
abbrev cX2_init : ByteArray := prog_4_method_1_code
def yX2_init : MethodName := ⟨RX2, "<init>", "()V"⟩
abbrev cX2_append : ByteArray := prog_4_method_2_code
def yX2_append : MethodName := ⟨RX2, "append", "(II)V"⟩
abbrev cX2_endOfRun : ByteArray := prog_4_method_3_code
def yX2_endOfRun : MethodName := ⟨RX2, "endOfRun", "(I)I"⟩
abbrev cX2_spells : ByteArray := prog_4_method_4_code
def yX2_spells : MethodName := ⟨RX2, "spells", "(Ljava/lang/String;II)Z"⟩
def RX3 : String := "DustLand$TextReader"
def TX3 : u_T := fun k => match k with
  | 0 => ("DustLand$TextReader", "types", "[I", true)
  | 1 => ("DustLand$TextReader", "starts", "[I", true)
  | 2 => ("DustLand$TextReader", "values", "[I", true)
  | 3 => ("DustLand$TextReader", "tokens", "I", false)
  | _ => ("DustLand$TextReader", "next", "I", false)
def tyX3 : Nat → FieldType := fun k => match k with
  | 0 => .array .int
  | 1 => .array .int
  | 2 => .array .int
  | 3 => .int
  | _ => .int
theorem nmX3 : ∀ a, a < 5 → ∀ b, b < 5 → a ≠ b → (TX3 a).2.1 ≠ (TX3 b).2.1 := by decide +kernel
theorem tyX3_ok : ∀ k, k < 5 → parseFieldDescriptor (TX3 k).2.2.1 = some (tyX3 k) := by decide +kernel
abbrev cX3_init : ByteArray := prog_5_method_1_code
def yX3_init : MethodName := ⟨RX3, "<init>", "()V"⟩
abbrev cX3_split : ByteArray := prog_5_method_2_code
def yX3_split : MethodName := ⟨RX3, "split", "(LDustLand$Tape;)V"⟩
abbrev cX3_add : ByteArray := prog_5_method_3_code
def yX3_add : MethodName := ⟨RX3, "add", "(III)V"⟩
abbrev cX3_typeOf : ByteArray := prog_5_method_4_code
def yX3_typeOf : MethodName := ⟨RX3, "typeOf", "(I)I"⟩
abbrev cX3_valueAt : ByteArray := prog_5_method_5_code
def yX3_valueAt : MethodName := ⟨RX3, "valueAt", "(LDustLand$Tape;II)I"⟩
abbrev cX3_wordAt : ByteArray := prog_5_method_6_code
def yX3_wordAt : MethodName := ⟨RX3, "wordAt", "(LDustLand$Tape;I)I"⟩
abbrev cX3_numberAt : ByteArray := prog_5_method_7_code
def yX3_numberAt : MethodName := ⟨RX3, "numberAt", "(LDustLand$Tape;I)I"⟩
abbrev cX3_nameOf : ByteArray := prog_5_method_8_code
def yX3_nameOf : MethodName := ⟨RX3, "nameOf", "(I)Ljava/lang/String;"⟩
abbrev cX3_readInto : ByteArray := prog_5_method_9_code
def yX3_readInto : MethodName := ⟨RX3, "readInto", "(LDustLand$Room;)I"⟩
abbrev cX3_readItem : ByteArray := prog_5_method_10_code
def yX3_readItem : MethodName := ⟨RX3, "readItem", "(LDustLand$Room;)Z"⟩
abbrev cX3_readTenant : ByteArray := prog_5_method_11_code
def yX3_readTenant : MethodName := ⟨RX3, "readTenant", "(LDustLand$Room;I)Z"⟩
abbrev cX3_readDust : ByteArray := prog_5_method_12_code
def yX3_readDust : MethodName := ⟨RX3, "readDust", "(LDustLand$Room;)Z"⟩
abbrev cX3_readFall : ByteArray := prog_5_method_13_code
def yX3_readFall : MethodName := ⟨RX3, "readFall", "(LDustLand$Room;)Z"⟩
abbrev cX3_readDraught : ByteArray := prog_5_method_14_code
def yX3_readDraught : MethodName := ⟨RX3, "readDraught", "(LDustLand$Room;)Z"⟩
abbrev cX3_takes : ByteArray := prog_5_method_15_code
def yX3_takes : MethodName := ⟨RX3, "takes", "(I)Z"⟩
abbrev cX3_numberBehind : ByteArray := prog_5_method_16_code
def yX3_numberBehind : MethodName := ⟨RX3, "numberBehind", "(II)I"⟩
abbrev cX3_takeNumber : ByteArray := prog_5_method_17_code
def yX3_takeNumber : MethodName := ⟨RX3, "takeNumber", "(I)I"⟩
def RX4 : String := "DustLand"
def TX4 : u_T := fun k => match k with
  | 0 => ("DustLand", "room", "LDustLand$Room;", true)
  | 1 => ("DustLand", "trial", "LDustLand$Room;", true)
  | 2 => ("DustLand", "kept", "LDustLand$Room;", true)
  | 3 => ("DustLand", "isKept", "Z", false)
  | 4 => ("DustLand", "tape", "LDustLand$Tape;", true)
  | 5 => ("DustLand", "reader", "LDustLand$TextReader;", true)
  | 6 => ("DustLand", "sheets", "[LDustLand$Sheet;", true)
  | _ => ("DustLand", "findings", "[I", true)
def tyX4 : Nat → FieldType := fun k => match k with
  | 0 => .object "DustLand$Room"
  | 1 => .object "DustLand$Room"
  | 2 => .object "DustLand$Room"
  | 3 => .boolean
  | 4 => .object "DustLand$Tape"
  | 5 => .object "DustLand$TextReader"
  | 6 => .array (.object "DustLand$Sheet")
  | _ => .array .int
theorem nmX4 : ∀ a, a < 8 → ∀ b, b < 8 → a ≠ b → (TX4 a).2.1 ≠ (TX4 b).2.1 := by decide +kernel
theorem tyX4_ok : ∀ k, k < 8 → parseFieldDescriptor (TX4 k).2.2.1 = some (tyX4 k) := by decide +kernel
abbrev cX4_init : ByteArray := prog_1_method_1_code
def yX4_init : MethodName := ⟨RX4, "<init>", "()V"⟩
abbrev cX4_dust : ByteArray := prog_1_method_2_code
def yX4_dust : MethodName := ⟨RX4, "dust", "(II)I"⟩
abbrev cX4_surface : ByteArray := prog_1_method_3_code
def yX4_surface : MethodName := ⟨RX4, "surface", "(II)I"⟩
abbrev cX4_law : ByteArray := prog_1_method_4_code
def yX4_law : MethodName := ⟨RX4, "law", "(II)I"⟩
abbrev cX4_tenant : ByteArray := prog_1_method_5_code
def yX4_tenant : MethodName := ⟨RX4, "tenant", "(II)I"⟩
abbrev cX4_of : ByteArray := prog_1_method_6_code
def yX4_of : MethodName := ⟨RX4, "of", "(II)I"⟩
abbrev cX4_change : ByteArray := prog_1_method_7_code
def yX4_change : MethodName := ⟨RX4, "change", "(III)I"⟩
abbrev cX4_mark : ByteArray := prog_1_method_8_code
def yX4_mark : MethodName := ⟨RX4, "mark", "(II)I"⟩
abbrev cX4_charter : ByteArray := prog_1_method_9_code
def yX4_charter : MethodName := ⟨RX4, "charter", "(III)I"⟩
abbrev cX4_swap : ByteArray := prog_1_method_10_code
def yX4_swap : MethodName := ⟨RX4, "swap", "(II)I"⟩
abbrev cX4_sneeze : ByteArray := prog_1_method_11_code
def yX4_sneeze : MethodName := ⟨RX4, "sneeze", "(II)I"⟩
abbrev cX4_go : ByteArray := prog_1_method_12_code
def yX4_go : MethodName := ⟨RX4, "go", "(I)I"⟩
abbrev cX4_now : ByteArray := prog_1_method_13_code
def yX4_now : MethodName := ⟨RX4, "now", "(I)I"⟩
abbrev cX4_ahead : ByteArray := prog_1_method_14_code
def yX4_ahead : MethodName := ⟨RX4, "ahead", "(II)I"⟩
abbrev cX4_goods : ByteArray := prog_1_method_15_code
def yX4_goods : MethodName := ⟨RX4, "goods", "(II)I"⟩
abbrev cX4_holder : ByteArray := prog_1_method_16_code
def yX4_holder : MethodName := ⟨RX4, "holder", "(II)I"⟩
abbrev cX4_when : ByteArray := prog_1_method_17_code
def yX4_when : MethodName := ⟨RX4, "when", "(II)I"⟩
abbrev cX4_clash : ByteArray := prog_1_method_18_code
def yX4_clash : MethodName := ⟨RX4, "clash", "()I"⟩
abbrev cX4_rich : ByteArray := prog_1_method_19_code
def yX4_rich : MethodName := ⟨RX4, "rich", "(II)I"⟩
abbrev cX4_seat : ByteArray := prog_1_method_20_code
def yX4_seat : MethodName := ⟨RX4, "seat", "(II)I"⟩
abbrev cX4_kindFor : ByteArray := prog_1_method_21_code
def yX4_kindFor : MethodName := ⟨RX4, "kindFor", "(II)I"⟩
abbrev cX4_draught : ByteArray := prog_1_method_22_code
def yX4_draught : MethodName := ⟨RX4, "draught", "(II)I"⟩
abbrev cX4_fallFor : ByteArray := prog_1_method_23_code
def yX4_fallFor : MethodName := ⟨RX4, "fallFor", "(II)I"⟩
abbrev cX4_swapFor : ByteArray := prog_1_method_24_code
def yX4_swapFor : MethodName := ⟨RX4, "swapFor", "(II)I"⟩
abbrev cX4_brooms : ByteArray := prog_1_method_25_code
def yX4_brooms : MethodName := ⟨RX4, "brooms", "(II)I"⟩
abbrev cX4_without : ByteArray := prog_1_method_26_code
def yX4_without : MethodName := ⟨RX4, "without", "(I)I"⟩
abbrev cX4_fits : ByteArray := prog_1_method_27_code
def yX4_fits : MethodName := ⟨RX4, "fits", "(II)I"⟩
abbrev cX4_kinds : ByteArray := prog_1_method_28_code
def yX4_kinds : MethodName := ⟨RX4, "kinds", "(II)I"⟩
abbrev cX4_sneezes : ByteArray := prog_1_method_29_code
def yX4_sneezes : MethodName := ⟨RX4, "sneezes", "(I)I"⟩
abbrev cX4_odds : ByteArray := prog_1_method_30_code
def yX4_odds : MethodName := ⟨RX4, "odds", "(II)J"⟩
abbrev cX4_seed : ByteArray := prog_1_method_31_code
def yX4_seed : MethodName := ⟨RX4, "seed", "(I)I"⟩
abbrev cX4_feed : ByteArray := prog_1_method_32_code
def yX4_feed : MethodName := ⟨RX4, "feed", "(II)I"⟩
abbrev cX4_wipe : ByteArray := prog_1_method_33_code
def yX4_wipe : MethodName := ⟨RX4, "wipe", "()I"⟩
abbrev cX4_text : ByteArray := prog_1_method_34_code
def yX4_text : MethodName := ⟨RX4, "text", "()I"⟩
abbrev cX4_hold : ByteArray := prog_1_method_35_code
def yX4_hold : MethodName := ⟨RX4, "hold", "(II)I"⟩
abbrev cX4_as : ByteArray := prog_1_method_36_code
def yX4_as : MethodName := ⟨RX4, "as", "(II)I"⟩
abbrev cX4_sheet : ByteArray := prog_1_method_37_code
def yX4_sheet : MethodName := ⟨RX4, "sheet", "(III)I"⟩
abbrev cX4_write : ByteArray := prog_1_method_38_code
def yX4_write : MethodName := ⟨RX4, "write", "(III)I"⟩
abbrev cX4_copy : ByteArray := prog_1_method_39_code
def yX4_copy : MethodName := ⟨RX4, "copy", "(IIIII)I"⟩
abbrev cX4_load : ByteArray := prog_1_method_40_code
def yX4_load : MethodName := ⟨RX4, "load", "(I)I"⟩
abbrev cX4_judge : ByteArray := prog_1_method_41_code
def yX4_judge : MethodName := ⟨RX4, "judge", "(I)I"⟩
abbrev cX4_image : ByteArray := prog_1_method_42_code
def yX4_image : MethodName := ⟨RX4, "image", "()I"⟩
abbrev cX4_undo : ByteArray := prog_1_method_43_code
def yX4_undo : MethodName := ⟨RX4, "undo", "()I"⟩
abbrev cX4_tear : ByteArray := prog_1_method_44_code
def yX4_tear : MethodName := ⟨RX4, "tear", "()I"⟩
abbrev cX4_count : ByteArray := prog_1_method_45_code
def yX4_count : MethodName := ⟨RX4, "count", "(I)I"⟩
abbrev cX4_status : ByteArray := prog_1_method_46_code
def yX4_status : MethodName := ⟨RX4, "status", "(I)I"⟩
abbrev cX4_finding : ByteArray := prog_1_method_47_code
def yX4_finding : MethodName := ⟨RX4, "finding", "(I)I"⟩
abbrev cX4_isWithin : ByteArray := prog_1_method_48_code
def yX4_isWithin : MethodName := ⟨RX4, "isWithin", "(III)Z"⟩
abbrev cX4_isSurface : ByteArray := prog_1_method_49_code
def yX4_isSurface : MethodName := ⟨RX4, "isSurface", "(I)Z"⟩
abbrev cX4_isKind : ByteArray := prog_1_method_50_code
def yX4_isKind : MethodName := ⟨RX4, "isKind", "(I)Z"⟩
abbrev cX4_isSpot : ByteArray := prog_1_method_51_code
def yX4_isSpot : MethodName := ⟨RX4, "isSpot", "(I)Z"⟩
abbrev cX4_isSheet : ByteArray := prog_1_method_52_code
def yX4_isSheet : MethodName := ⟨RX4, "isSheet", "(I)Z"⟩
abbrev cX4_isTenant : ByteArray := prog_1_method_53_code
def yX4_isTenant : MethodName := ⟨RX4, "isTenant", "(I)Z"⟩
abbrev cX4_put : ByteArray := prog_1_method_54_code
def yX4_put : MethodName := ⟨RX4, "put", "([III)I"⟩
abbrev cX4_sumOf : ByteArray := prog_1_method_55_code
def yX4_sumOf : MethodName := ⟨RX4, "sumOf", "([I)I"⟩
abbrev cX4_isOfKind : ByteArray := prog_1_method_56_code
def yX4_isOfKind : MethodName := ⟨RX4, "isOfKind", "(II)Z"⟩
abbrev cX4_greatestDivisor : ByteArray := prog_1_method_57_code
def yX4_greatestDivisor : MethodName := ⟨RX4, "greatestDivisor", "(II)I"⟩
abbrev cX4_tryOut : ByteArray := prog_1_method_58_code
def yX4_tryOut : MethodName := ⟨RX4, "tryOut", "(III)V"⟩
abbrev cX4_bestFor : ByteArray := prog_1_method_59_code
def yX4_bestFor : MethodName := ⟨RX4, "bestFor", "(IIIII)I"⟩
abbrev cX4_dustWithFall : ByteArray := prog_1_method_60_code
def yX4_dustWithFall : MethodName := ⟨RX4, "dustWithFall", "(II)I"⟩
abbrev cX4_dustSweptBy : ByteArray := prog_1_method_61_code
def yX4_dustSweptBy : MethodName := ⟨RX4, "dustSweptBy", "(II)I"⟩
abbrev cX4_refuseTold : ByteArray := prog_1_method_62_code
def yX4_refuseTold : MethodName := ⟨RX4, "refuseTold", "(II)I"⟩
abbrev cX4_allThatFit : ByteArray := prog_1_method_63_code
def yX4_allThatFit : MethodName := ⟨RX4, "allThatFit", "(IIII)I"⟩
abbrev cX4_hasGoodsAsTold : ByteArray := prog_1_method_64_code
def yX4_hasGoodsAsTold : MethodName := ⟨RX4, "hasGoodsAsTold", "(ILDustLand$Sheet;)Z"⟩
def RX5 : String := "DustLandModel"
def TX5 : u_T := fun k => match k with
  | 0 => ("DustLandModel", "s", "[I", true)
  | 1 => ("DustLandModel", "keptS", "[I", true)
  | 2 => ("DustLandModel", "other", "[I", true)
  | 3 => ("DustLandModel", "aside", "[I", true)
  | 4 => ("DustLandModel", "statuses", "[I", true)
  | 5 => ("DustLandModel", "isKept", "Z", false)
  | 6 => ("DustLandModel", "sweepers", "I", false)
  | 7 => ("DustLandModel", "then", "[I", true)
  | 8 => ("DustLandModel", "held", "[I", true)
  | 9 => ("DustLandModel", "tape", "[I", true)
  | 10 => ("DustLandModel", "taped", "I", false)
  | 11 => ("DustLandModel", "from", "I", false)
  | 12 => ("DustLandModel", "to", "I", false)
  | 13 => ("DustLandModel", "value", "I", false)
  | 14 => ("DustLandModel", "isWrong", "Z", false)
  | 15 => ("DustLandModel", "bitsOf", "[I", true)
  | 16 => ("DustLandModel", "sizeOf", "[I", true)
  | 17 => ("DustLandModel", "numbers", "[I", true)
  | _ => ("DustLandModel", "moved", "[I", true)
def tyX5 : Nat → FieldType := fun k => match k with
  | 0 => .array .int
  | 1 => .array .int
  | 2 => .array .int
  | 3 => .array .int
  | 4 => .array .int
  | 5 => .boolean
  | 6 => .int
  | 7 => .array .int
  | 8 => .array .int
  | 9 => .array .int
  | 10 => .int
  | 11 => .int
  | 12 => .int
  | 13 => .int
  | 14 => .boolean
  | 15 => .array .int
  | 16 => .array .int
  | 17 => .array .int
  | _ => .array .int
theorem nmX5 : ∀ a, a < 19 → ∀ b, b < 19 → a ≠ b → (TX5 a).2.1 ≠ (TX5 b).2.1 := by decide +kernel
theorem tyX5_ok : ∀ k, k < 19 → parseFieldDescriptor (TX5 k).2.2.1 = some (tyX5 k) := by decide +kernel
abbrev cX5_init : ByteArray := prog_7_method_1_code
def yX5_init : MethodName := ⟨RX5, "<init>", "()V"⟩
abbrev cX5_in : ByteArray := prog_7_method_2_code
def yX5_in : MethodName := ⟨RX5, "in", "(JJJ)Z"⟩
abbrev cX5_finds : ByteArray := prog_7_method_3_code
def yX5_finds : MethodName := ⟨RX5, "finds", "(I)I"⟩
abbrev cX5_saves : ByteArray := prog_7_method_4_code
def yX5_saves : MethodName := ⟨RX5, "saves", "()V"⟩
abbrev cX5_putsBack : ByteArray := prog_7_method_5_code
def yX5_putsBack : MethodName := ⟨RX5, "putsBack", "()V"⟩
abbrev cX5_laysAside : ByteArray := prog_7_method_6_code
def yX5_laysAside : MethodName := ⟨RX5, "laysAside", "()V"⟩
abbrev cX5_takesBack : ByteArray := prog_7_method_7_code
def yX5_takesBack : MethodName := ⟨RX5, "takesBack", "(I)I"⟩
abbrev cX5_becomes : ByteArray := prog_7_method_8_code
def yX5_becomes : MethodName := ⟨RX5, "becomes", "(II)I"⟩
abbrev cX5_isSurface : ByteArray := prog_7_method_9_code
def yX5_isSurface : MethodName := ⟨RX5, "isSurface", "(I)Z"⟩
abbrev cX5_isTenant : ByteArray := prog_7_method_10_code
def yX5_isTenant : MethodName := ⟨RX5, "isTenant", "(I)Z"⟩
abbrev cX5_place : ByteArray := prog_7_method_11_code
def yX5_place : MethodName := ⟨RX5, "place", "(II)I"⟩
abbrev cX5_its : ByteArray := prog_7_method_12_code
def yX5_its : MethodName := ⟨RX5, "its", "(II)I"⟩
abbrev cX5_markAt : ByteArray := prog_7_method_13_code
def yX5_markAt : MethodName := ⟨RX5, "markAt", "(II)I"⟩
abbrev cX5_heldTo : ByteArray := prog_7_method_14_code
def yX5_heldTo : MethodName := ⟨RX5, "heldTo", "(II)I"⟩
abbrev cX5_round : ByteArray := prog_7_method_15_code
def yX5_round : MethodName := ⟨RX5, "round", "(I)I"⟩
abbrev cX5_dust : ByteArray := prog_7_method_16_code
def yX5_dust : MethodName := ⟨RX5, "dust", "(II)I"⟩
abbrev cX5_holderOf : ByteArray := prog_7_method_17_code
def yX5_holderOf : MethodName := ⟨RX5, "holderOf", "(I)I"⟩
abbrev cX5_thoseAt : ByteArray := prog_7_method_18_code
def yX5_thoseAt : MethodName := ⟨RX5, "thoseAt", "(I)I"⟩
abbrev cX5_surface : ByteArray := prog_7_method_19_code
def yX5_surface : MethodName := ⟨RX5, "surface", "(II)I"⟩
abbrev cX5_law : ByteArray := prog_7_method_20_code
def yX5_law : MethodName := ⟨RX5, "law", "(II)I"⟩
abbrev cX5_adds : ByteArray := prog_7_method_21_code
def yX5_adds : MethodName := ⟨RX5, "adds", "(II)I"⟩
abbrev cX5_isKind : ByteArray := prog_7_method_22_code
def yX5_isKind : MethodName := ⟨RX5, "isKind", "(I)Z"⟩
abbrev cX5_tenant : ByteArray := prog_7_method_23_code
def yX5_tenant : MethodName := ⟨RX5, "tenant", "(II)I"⟩
abbrev cX5_leaves : ByteArray := prog_7_method_24_code
def yX5_leaves : MethodName := ⟨RX5, "leaves", "(I)I"⟩
abbrev cX5_sweeps : ByteArray := prog_7_method_25_code
def yX5_sweeps : MethodName := ⟨RX5, "sweeps", "(I)I"⟩
abbrev cX5_heldBy : ByteArray := prog_7_method_26_code
def yX5_heldBy : MethodName := ⟨RX5, "heldBy", "(I)I"⟩
abbrev cX5_marksOf : ByteArray := prog_7_method_27_code
def yX5_marksOf : MethodName := ⟨RX5, "marksOf", "(I)I"⟩
abbrev cX5_of : ByteArray := prog_7_method_28_code
def yX5_of : MethodName := ⟨RX5, "of", "(II)I"⟩
abbrev cX5_change : ByteArray := prog_7_method_29_code
def yX5_change : MethodName := ⟨RX5, "change", "(III)I"⟩
abbrev cX5_mark : ByteArray := prog_7_method_30_code
def yX5_mark : MethodName := ⟨RX5, "mark", "(II)I"⟩
abbrev cX5_charter : ByteArray := prog_7_method_31_code
def yX5_charter : MethodName := ⟨RX5, "charter", "(III)I"⟩
abbrev cX5_swaps : ByteArray := prog_7_method_32_code
def yX5_swaps : MethodName := ⟨RX5, "swaps", "(II)I"⟩
abbrev cX5_swap : ByteArray := prog_7_method_33_code
def yX5_swap : MethodName := ⟨RX5, "swap", "(II)I"⟩
abbrev cX5_blows : ByteArray := prog_7_method_34_code
def yX5_blows : MethodName := ⟨RX5, "blows", "(II)I"⟩
abbrev cX5_sneeze : ByteArray := prog_7_method_35_code
def yX5_sneeze : MethodName := ⟨RX5, "sneeze", "(II)I"⟩
abbrev cX5_draughts : ByteArray := prog_7_method_36_code
def yX5_draughts : MethodName := ⟨RX5, "draughts", "()V"⟩
abbrev cX5_gets : ByteArray := prog_7_method_37_code
def yX5_gets : MethodName := ⟨RX5, "gets", "(II)V"⟩
abbrev cX5_sweep : ByteArray := prog_7_method_38_code
def yX5_sweep : MethodName := ⟨RX5, "sweep", "(I)V"⟩
abbrev cX5_marks : ByteArray := prog_7_method_39_code
def yX5_marks : MethodName := ⟨RX5, "marks", "(I)V"⟩
abbrev cX5_day : ByteArray := prog_7_method_40_code
def yX5_day : MethodName := ⟨RX5, "day", "()V"⟩
abbrev cX5_goesOn : ByteArray := prog_7_method_41_code
def yX5_goesOn : MethodName := ⟨RX5, "goesOn", "(I)V"⟩
abbrev cX5_dustAll : ByteArray := prog_7_method_42_code
def yX5_dustAll : MethodName := ⟨RX5, "dustAll", "()I"⟩
abbrev cX5_goodsAll : ByteArray := prog_7_method_43_code
def yX5_goodsAll : MethodName := ⟨RX5, "goodsAll", "()I"⟩
abbrev cX5_go : ByteArray := prog_7_method_44_code
def yX5_go : MethodName := ⟨RX5, "go", "(I)I"⟩
abbrev cX5_heldOnes : ByteArray := prog_7_method_45_code
def yX5_heldOnes : MethodName := ⟨RX5, "heldOnes", "()I"⟩
abbrev cX5_landless : ByteArray := prog_7_method_46_code
def yX5_landless : MethodName := ⟨RX5, "landless", "()I"⟩
abbrev cX5_richest : ByteArray := prog_7_method_47_code
def yX5_richest : MethodName := ⟨RX5, "richest", "()I"⟩
abbrev cX5_now : ByteArray := prog_7_method_48_code
def yX5_now : MethodName := ⟨RX5, "now", "(I)I"⟩
abbrev cX5_isAhead : ByteArray := prog_7_method_49_code
def yX5_isAhead : MethodName := ⟨RX5, "isAhead", "(I)Z"⟩
abbrev cX5_ahead : ByteArray := prog_7_method_50_code
def yX5_ahead : MethodName := ⟨RX5, "ahead", "(II)I"⟩
abbrev cX5_goodsBehind : ByteArray := prog_7_method_51_code
def yX5_goodsBehind : MethodName := ⟨RX5, "goodsBehind", "(II)I"⟩
abbrev cX5_goods : ByteArray := prog_7_method_52_code
def yX5_goods : MethodName := ⟨RX5, "goods", "(II)I"⟩
abbrev cX5_holder : ByteArray := prog_7_method_53_code
def yX5_holder : MethodName := ⟨RX5, "holder", "(II)I"⟩
abbrev cX5_orNone : ByteArray := prog_7_method_54_code
def yX5_orNone : MethodName := ⟨RX5, "orNone", "(I)I"⟩
abbrev cX5_when : ByteArray := prog_7_method_55_code
def yX5_when : MethodName := ⟨RX5, "when", "(II)I"⟩
abbrev cX5_isOtherwise : ByteArray := prog_7_method_56_code
def yX5_isOtherwise : MethodName := ⟨RX5, "isOtherwise", "()Z"⟩
abbrev cX5_clash : ByteArray := prog_7_method_57_code
def yX5_clash : MethodName := ⟨RX5, "clash", "()I"⟩
abbrev cX5_rich : ByteArray := prog_7_method_58_code
def yX5_rich : MethodName := ⟨RX5, "rich", "(II)I"⟩
abbrev cX5_isSoon : ByteArray := prog_7_method_59_code
def yX5_isSoon : MethodName := ⟨RX5, "isSoon", "(I)Z"⟩
abbrev cX5_richestBy : ByteArray := prog_7_method_60_code
def yX5_richestBy : MethodName := ⟨RX5, "richestBy", "(IIIII)I"⟩
abbrev cX5_seat : ByteArray := prog_7_method_61_code
def yX5_seat : MethodName := ⟨RX5, "seat", "(II)I"⟩
abbrev cX5_kindFor : ByteArray := prog_7_method_62_code
def yX5_kindFor : MethodName := ⟨RX5, "kindFor", "(II)I"⟩
abbrev cX5_draught : ByteArray := prog_7_method_63_code
def yX5_draught : MethodName := ⟨RX5, "draught", "(II)I"⟩
abbrev cX5_dustBehind : ByteArray := prog_7_method_64_code
def yX5_dustBehind : MethodName := ⟨RX5, "dustBehind", "(I)I"⟩
abbrev cX5_fallFor : ByteArray := prog_7_method_65_code
def yX5_fallFor : MethodName := ⟨RX5, "fallFor", "(II)I"⟩
abbrev cX5_swapFor : ByteArray := prog_7_method_66_code
def yX5_swapFor : MethodName := ⟨RX5, "swapFor", "(II)I"⟩
abbrev cX5_ones : ByteArray := prog_7_method_67_code
def yX5_ones : MethodName := ⟨RX5, "ones", "(I)I"⟩
abbrev cX5_dustWith : ByteArray := prog_7_method_68_code
def yX5_dustWith : MethodName := ⟨RX5, "dustWith", "(II)I"⟩
abbrev cX5_brooms : ByteArray := prog_7_method_69_code
def yX5_brooms : MethodName := ⟨RX5, "brooms", "(II)I"⟩
abbrev cX5_without : ByteArray := prog_7_method_70_code
def yX5_without : MethodName := ⟨RX5, "without", "(I)I"⟩
abbrev cX5_isTold : ByteArray := prog_7_method_71_code
def yX5_isTold : MethodName := ⟨RX5, "isTold", "(II)Z"⟩
abbrev cX5_fitsBy : ByteArray := prog_7_method_72_code
def yX5_fitsBy : MethodName := ⟨RX5, "fitsBy", "(IIII)I"⟩
abbrev cX5_wrongTold : ByteArray := prog_7_method_73_code
def yX5_wrongTold : MethodName := ⟨RX5, "wrongTold", "(II)I"⟩
abbrev cX5_fits : ByteArray := prog_7_method_74_code
def yX5_fits : MethodName := ⟨RX5, "fits", "(II)I"⟩
abbrev cX5_kinds : ByteArray := prog_7_method_75_code
def yX5_kinds : MethodName := ⟨RX5, "kinds", "(II)I"⟩
abbrev cX5_draw : ByteArray := prog_7_method_76_code
def yX5_draw : MethodName := ⟨RX5, "draw", "()I"⟩
abbrev cX5_sneezes : ByteArray := prog_7_method_77_code
def yX5_sneezes : MethodName := ⟨RX5, "sneezes", "(I)I"⟩
abbrev cX5_odds : ByteArray := prog_7_method_78_code
def yX5_odds : MethodName := ⟨RX5, "odds", "(II)J"⟩
abbrev cX5_seed : ByteArray := prog_7_method_79_code
def yX5_seed : MethodName := ⟨RX5, "seed", "(I)I"⟩
abbrev cX5_feed : ByteArray := prog_7_method_80_code
def yX5_feed : MethodName := ⟨RX5, "feed", "(II)I"⟩
abbrev cX5_wipe : ByteArray := prog_7_method_81_code
def yX5_wipe : MethodName := ⟨RX5, "wipe", "()I"⟩
abbrev cX5_byteAt : ByteArray := prog_7_method_82_code
def yX5_byteAt : MethodName := ⟨RX5, "byteAt", "(I)I"⟩
abbrev cX5_isLetter : ByteArray := prog_7_method_83_code
def yX5_isLetter : MethodName := ⟨RX5, "isLetter", "(I)Z"⟩
abbrev cX5_isDigit : ByteArray := prog_7_method_84_code
def yX5_isDigit : MethodName := ⟨RX5, "isDigit", "(I)Z"⟩
abbrev cX5_token : ByteArray := prog_7_method_85_code
def yX5_token : MethodName := ⟨RX5, "token", "()V"⟩
abbrev cX5_must : ByteArray := prog_7_method_86_code
def yX5_must : MethodName := ⟨RX5, "must", "(Z)V"⟩
abbrev cX5_word : ByteArray := prog_7_method_87_code
def yX5_word : MethodName := ⟨RX5, "word", "()J"⟩
abbrev cX5_number : ByteArray := prog_7_method_88_code
def yX5_number : MethodName := ⟨RX5, "number", "(II)V"⟩
abbrev cX5_kindHere : ByteArray := prog_7_method_89_code
def yX5_kindHere : MethodName := ⟨RX5, "kindHere", "()I"⟩
abbrev cX5_perhaps : ByteArray := prog_7_method_90_code
def yX5_perhaps : MethodName := ⟨RX5, "perhaps", "(JII)V"⟩
abbrev cX5_tenantItem : ByteArray := prog_7_method_91_code
def yX5_tenantItem : MethodName := ⟨RX5, "tenantItem", "(I)V"⟩
abbrev cX5_dustItem : ByteArray := prog_7_method_92_code
def yX5_dustItem : MethodName := ⟨RX5, "dustItem", "()V"⟩
abbrev cX5_draughtItem : ByteArray := prog_7_method_93_code
def yX5_draughtItem : MethodName := ⟨RX5, "draughtItem", "()V"⟩
abbrev cX5_item : ByteArray := prog_7_method_94_code
def yX5_item : MethodName := ⟨RX5, "item", "()V"⟩
abbrev cX5_text : ByteArray := prog_7_method_95_code
def yX5_text : MethodName := ⟨RX5, "text", "()I"⟩
abbrev cX5_isSpot : ByteArray := prog_7_method_96_code
def yX5_isSpot : MethodName := ⟨RX5, "isSpot", "(I)Z"⟩
abbrev cX5_hold : ByteArray := prog_7_method_97_code
def yX5_hold : MethodName := ⟨RX5, "hold", "(II)I"⟩
abbrev cX5_above : ByteArray := prog_7_method_98_code
def yX5_above : MethodName := ⟨RX5, "above", "(I)I"⟩
abbrev cX5_as : ByteArray := prog_7_method_99_code
def yX5_as : MethodName := ⟨RX5, "as", "(II)I"⟩
abbrev cX5_isOne : ByteArray := prog_7_method_100_code
def yX5_isOne : MethodName := ⟨RX5, "isOne", "(I)Z"⟩
abbrev cX5_sheet : ByteArray := prog_7_method_101_code
def yX5_sheet : MethodName := ⟨RX5, "sheet", "(III)I"⟩
abbrev cX5_narrowed : ByteArray := prog_7_method_102_code
def yX5_narrowed : MethodName := ⟨RX5, "narrowed", "(II)I"⟩
abbrev cX5_wrong : ByteArray := prog_7_method_103_code
def yX5_wrong : MethodName := ⟨RX5, "wrong", "(I)I"⟩
abbrev cX5_write : ByteArray := prog_7_method_104_code
def yX5_write : MethodName := ⟨RX5, "write", "(III)I"⟩
abbrev cX5_copy : ByteArray := prog_7_method_105_code
def yX5_copy : MethodName := ⟨RX5, "copy", "(IIIII)I"⟩
abbrev cX5_load : ByteArray := prog_7_method_106_code
def yX5_load : MethodName := ⟨RX5, "load", "(I)I"⟩
abbrev cX5_judge : ByteArray := prog_7_method_107_code
def yX5_judge : MethodName := ⟨RX5, "judge", "(I)I"⟩
abbrev cX5_image : ByteArray := prog_7_method_108_code
def yX5_image : MethodName := ⟨RX5, "image", "()I"⟩
abbrev cX5_undo : ByteArray := prog_7_method_109_code
def yX5_undo : MethodName := ⟨RX5, "undo", "()I"⟩
abbrev cX5_tear : ByteArray := prog_7_method_110_code
def yX5_tear : MethodName := ⟨RX5, "tear", "()I"⟩
abbrev cX5_heldSpots : ByteArray := prog_7_method_111_code
def yX5_heldSpots : MethodName := ⟨RX5, "heldSpots", "()I"⟩
abbrev cX5_count : ByteArray := prog_7_method_112_code
def yX5_count : MethodName := ⟨RX5, "count", "(I)I"⟩
abbrev cX5_status : ByteArray := prog_7_method_113_code
def yX5_status : MethodName := ⟨RX5, "status", "(I)I"⟩
def RJ6 : String := "java/lang/Integer"
def TJ6 : u_T := fun k => match k with
  | _ => ("", "", "", false)
def tyJ6 : Nat → FieldType := fun k => match k with
  | _ => .int
theorem nmJ6 : ∀ a, a < 0 → ∀ b, b < 0 → a ≠ b → (TJ6 a).2.1 ≠ (TJ6 b).2.1 := by decide +kernel
theorem tyJ6_ok : ∀ k, k < 0 → parseFieldDescriptor (TJ6 k).2.2.1 = some (tyJ6 k) := by decide +kernel
abbrev cJ6_bitCount_0f7a4 : ByteArray := prog_8_method_49_code
def yJ6_bitCount_0f7a4 : MethodName := ⟨RJ6, "bitCount", "(I)I"⟩
def RJ9 : String := "java/lang/Math"
def TJ9 : u_T := fun k => match k with
  | _ => ("", "", "", false)
def tyJ9 : Nat → FieldType := fun k => match k with
  | _ => .int
theorem nmJ9 : ∀ a, a < 0 → ∀ b, b < 0 → a ≠ b → (TJ9 a).2.1 ≠ (TJ9 b).2.1 := by decide +kernel
theorem tyJ9_ok : ∀ k, k < 0 → parseFieldDescriptor (TJ9 k).2.2.1 = some (tyJ9 k) := by decide +kernel
abbrev cJ9_floorMod_7cf53 : ByteArray := prog_9_method_50_code
def yJ9_floorMod_7cf53 : MethodName := ⟨RJ9, "floorMod", "(II)I"⟩
abbrev cJ9_min_7cf53 : ByteArray := prog_9_method_69_code
def yJ9_min_7cf53 : MethodName := ⟨RJ9, "min", "(II)I"⟩
def RJ0 : String := "java/lang/String"
def TJ0 : u_T := fun k => match k with
  | _ => ("", "", "", false)
def tyJ0 : Nat → FieldType := fun k => match k with
  | _ => .int
theorem nmJ0 : ∀ a, a < 0 → ∀ b, b < 0 → a ≠ b → (TJ0 a).2.1 ≠ (TJ0 b).2.1 := by decide +kernel
theorem tyJ0_ok : ∀ k, k < 0 → parseFieldDescriptor (TJ0 k).2.2.1 = some (tyJ0 k) := by decide +kernel
abbrev cJ0_length_8abf5 : ByteArray := prog_10_method_54_code
def yJ0_length_8abf5 : MethodName := ⟨RJ0, "length", "()I"⟩
abbrev cJ0_charAt_5068e : ByteArray := prog_10_method_56_code
def yJ0_charAt_5068e : MethodName := ⟨RJ0, "charAt", "(I)C"⟩
abbrev cJ0_coder_7d493 : ByteArray := prog_10_method_152_code
def yJ0_coder_7d493 : MethodName := ⟨RJ0, "coder", "()B"⟩
abbrev cJ0_isLatin1_aae02 : ByteArray := prog_10_method_154_code
def yJ0_isLatin1_aae02 : MethodName := ⟨RJ0, "isLatin1", "()Z"⟩
abbrev cJ0_checkIndex_df160 : ByteArray := prog_10_method_155_code
def yJ0_checkIndex_df160 : MethodName := ⟨RJ0, "checkIndex", "(II)V"⟩
def RJ1 : String := "java/lang/StringLatin1"
def TJ1 : u_T := fun k => match k with
  | _ => ("", "", "", false)
def tyJ1 : Nat → FieldType := fun k => match k with
  | _ => .int
theorem nmJ1 : ∀ a, a < 0 → ∀ b, b < 0 → a ≠ b → (TJ1 a).2.1 ≠ (TJ1 b).2.1 := by decide +kernel
theorem tyJ1_ok : ∀ k, k < 0 → parseFieldDescriptor (TJ1 k).2.2.1 = some (tyJ1 k) := by decide +kernel
abbrev cJ1_charAt_3b067 : ByteArray := prog_11_method_2_code
def yJ1_charAt_3b067 : MethodName := ⟨RJ1, "charAt", "([BI)C"⟩
def RJ2 : String := "java/lang/StringUTF16"
def TJ2 : u_T := fun k => match k with
  | _ => ("", "", "", false)
def tyJ2 : Nat → FieldType := fun k => match k with
  | _ => .int
theorem nmJ2 : ∀ a, a < 0 → ∀ b, b < 0 → a ≠ b → (TJ2 a).2.1 ≠ (TJ2 b).2.1 := by decide +kernel
theorem tyJ2_ok : ∀ k, k < 0 → parseFieldDescriptor (TJ2 k).2.2.1 = some (tyJ2 k) := by decide +kernel
abbrev cJ2_getChar_3b067 : ByteArray := prog_12_method_5_code
def yJ2_getChar_3b067 : MethodName := ⟨RJ2, "getChar", "([BI)C"⟩
abbrev cJ2_length_9d52b : ByteArray := prog_12_method_6_code
def yJ2_length_9d52b : MethodName := ⟨RJ2, "length", "([B)I"⟩
abbrev cJ2_charAt_3b067 : ByteArray := prog_12_method_83_code
def yJ2_charAt_3b067 : MethodName := ⟨RJ2, "charAt", "([BI)C"⟩
abbrev cJ2_checkIndex_2214a : ByteArray := prog_12_method_91_code
def yJ2_checkIndex_2214a : MethodName := ⟨RJ2, "checkIndex", "(I[B)V"⟩
def RJ10 : String := "java/lang/System"
def TJ10 : u_T := fun k => match k with
  | _ => ("", "", "", false)
def tyJ10 : Nat → FieldType := fun k => match k with
  | _ => .int
theorem nmJ10 : ∀ a, a < 0 → ∀ b, b < 0 → a ≠ b → (TJ10 a).2.1 ≠ (TJ10 b).2.1 := by decide +kernel
theorem tyJ10_ok : ∀ k, k < 0 → parseFieldDescriptor (TJ10 k).2.2.1 = some (tyJ10 k) := by decide +kernel
def RJ3 : String := "jdk/internal/util/Preconditions"
def TJ3 : u_T := fun k => match k with
  | _ => ("", "", "", false)
def tyJ3 : Nat → FieldType := fun k => match k with
  | _ => .int
theorem nmJ3 : ∀ a, a < 0 → ∀ b, b < 0 → a ≠ b → (TJ3 a).2.1 ≠ (TJ3 b).2.1 := by decide +kernel
theorem tyJ3_ok : ∀ k, k < 0 → parseFieldDescriptor (TJ3 k).2.2.1 = some (tyJ3 k) := by decide +kernel
abbrev cJ3_checkIndex_8e157 : ByteArray := prog_14_method_11_code
def yJ3_checkIndex_8e157 : MethodName := ⟨RJ3, "checkIndex", "(IILjava/util/function/BiFunction;)I"⟩
def RL : String := "DustLandLaw"
abbrev cL_law : ByteArray := code
def yL_law : MethodName := ⟨RL, "law", "([I)Z"⟩
end
section
def tbl : List Cond := lw_tbl.filter goodWord
theorem tbl_at {w : Cond} (i : Nat) (h : lw_tbl[i]? = some w) (hg : goodWord w = true) : w ∈ tbl := List.mem_filter.mpr ⟨List.mem_of_getElem? h, hg⟩
theorem tbl_in {ws : List Cond} (ps : List Nat) (hp : ws = ps.filterMap (fun i => lw_tbl[i]?)) (h : ws.all goodWord = true) : ∀ w ∈ ws, w ∈ tbl := by
  intro w hw
  have h1 := List.all_eq_true.mp h w hw
  rw [hp] at hw
  obtain ⟨i, -, hi⟩ := List.mem_filterMap.mp hw
  exact tbl_at i hi h1
theorem tbl_good : ∀ w ∈ tbl, (w.onTables && w.keeps) = true ∨ ∃ ty, w = .arrayClass ty := fun w hw => good_of_word (List.mem_filter.mp hw).2
theorem tbl_law {args : Array Value} {s : State} (h : ∀ w ∈ lw_tbl, w.before args s = true) : ∀ w ∈ tbl, w.before args s = true := fun w hw => h w (List.mem_filter.mp hw).1
theorem inX0 : ∀ w ∈ u_ws RX0 TX0 12, w ∈ tbl := tbl_in [132, 134, 136, 138, 140, 142, 144, 146, 148, 150, 152, 154] (by decide +kernel) (by decide +kernel)
theorem inX1 : ∀ w ∈ u_ws RX1 TX1 3, w ∈ tbl := tbl_in [209, 211, 213] (by decide +kernel) (by decide +kernel)
theorem inX2 : ∀ w ∈ u_ws RX2 TX2 2, w ∈ tbl := tbl_in [169, 171] (by decide +kernel) (by decide +kernel)
theorem inX3 : ∀ w ∈ u_ws RX3 TX3 5, w ∈ tbl := tbl_in [185, 187, 189, 191, 193] (by decide +kernel) (by decide +kernel)
theorem inX4 : ∀ w ∈ u_ws RX4 TX4 8, w ∈ tbl := tbl_in [224, 226, 228, 230, 232, 234, 236, 238] (by decide +kernel) (by decide +kernel)
theorem inX5 : ∀ w ∈ u_ws RX5 TX5 19, w ∈ tbl := tbl_in [799, 801, 803, 805, 807, 809, 811, 813, 815, 817, 819, 821, 823, 825, 827, 829, 831, 833, 835] (by decide +kernel) (by decide +kernel)
theorem t_0 : (Cond.selects RX4 yX4_finding yX4_finding : Cond) ∈ tbl := tbl_at 0 (by decide +kernel) rfl
theorem t_1 : (Cond.selects RX4 yX4_isTenant yX4_isTenant : Cond) ∈ tbl := tbl_at 1 (by decide +kernel) rfl
theorem t_2 : (Cond.selects RX0 yX0_settle yX0_settle : Cond) ∈ tbl := tbl_at 2 (by decide +kernel) rfl
theorem t_3 : (Cond.selects RX0 yX0_blow yX0_blow : Cond) ∈ tbl := tbl_at 3 (by decide +kernel) rfl
theorem t_4 : (Cond.selects RX0 yX0_sweep yX0_sweep : Cond) ∈ tbl := tbl_at 4 (by decide +kernel) rfl
theorem t_5 : (Cond.selects RX0 yX0_gain yX0_gain : Cond) ∈ tbl := tbl_at 5 (by decide +kernel) rfl
theorem t_6 : (Cond.selects RX0 yX0_leaveMarks yX0_leaveMarks : Cond) ∈ tbl := tbl_at 6 (by decide +kernel) rfl
theorem t_7 : (Cond.selects RX0 yX0_payRents yX0_payRents : Cond) ∈ tbl := tbl_at 7 (by decide +kernel) rfl
theorem t_8 : (Cond.selects RX4 yX4_bestFor yX4_bestFor : Cond) ∈ tbl := tbl_at 8 (by decide +kernel) rfl
theorem t_9 : (Cond.selects RX4 yX4_tryOut yX4_tryOut : Cond) ∈ tbl := tbl_at 9 (by decide +kernel) rfl
theorem t_10 : (Cond.selects RX4 yX4_dustWithFall yX4_dustWithFall : Cond) ∈ tbl := tbl_at 10 (by decide +kernel) rfl
theorem t_11 : (Cond.selects RX4 yX4_dustSweptBy yX4_dustSweptBy : Cond) ∈ tbl := tbl_at 11 (by decide +kernel) rfl
theorem t_12 : (Cond.selects RX4 yX4_refuseTold yX4_refuseTold : Cond) ∈ tbl := tbl_at 12 (by decide +kernel) rfl
theorem t_13 : (Cond.selects RX4 yX4_allThatFit yX4_allThatFit : Cond) ∈ tbl := tbl_at 13 (by decide +kernel) rfl
theorem t_14 : (Cond.selects RX4 yX4_hasGoodsAsTold yX4_hasGoodsAsTold : Cond) ∈ tbl := tbl_at 14 (by decide +kernel) rfl
theorem t_15 : (Cond.selects RX3 yX3_add yX3_add : Cond) ∈ tbl := tbl_at 15 (by decide +kernel) rfl
theorem t_16 : (Cond.selects RX3 yX3_readItem yX3_readItem : Cond) ∈ tbl := tbl_at 16 (by decide +kernel) rfl
theorem t_17 : (Cond.selects RX3 yX3_readTenant yX3_readTenant : Cond) ∈ tbl := tbl_at 17 (by decide +kernel) rfl
theorem t_18 : (Cond.selects RX3 yX3_numberBehind yX3_numberBehind : Cond) ∈ tbl := tbl_at 18 (by decide +kernel) rfl
theorem t_19 : (Cond.selects RX3 yX3_takeNumber yX3_takeNumber : Cond) ∈ tbl := tbl_at 19 (by decide +kernel) rfl
theorem t_20 : (Cond.selects RX3 yX3_readDust yX3_readDust : Cond) ∈ tbl := tbl_at 20 (by decide +kernel) rfl
theorem t_21 : (Cond.selects RX3 yX3_readFall yX3_readFall : Cond) ∈ tbl := tbl_at 21 (by decide +kernel) rfl
theorem t_22 : (Cond.selects RX3 yX3_readDraught yX3_readDraught : Cond) ∈ tbl := tbl_at 22 (by decide +kernel) rfl
theorem t_23 : (Cond.selects RX3 yX3_takes yX3_takes : Cond) ∈ tbl := tbl_at 23 (by decide +kernel) rfl
theorem t_24 : (Cond.selects RX5 yX5_becomes yX5_becomes : Cond) ∈ tbl := tbl_at 24 (by decide +kernel) rfl
theorem t_25 : (Cond.selects RX5 yX5_finds yX5_finds : Cond) ∈ tbl := tbl_at 25 (by decide +kernel) rfl
theorem t_26 : (Cond.selects RX5 yX5_holderOf yX5_holderOf : Cond) ∈ tbl := tbl_at 26 (by decide +kernel) rfl
theorem t_27 : (Cond.selects RX5 yX5_thoseAt yX5_thoseAt : Cond) ∈ tbl := tbl_at 27 (by decide +kernel) rfl
theorem t_28 : (Cond.selects RX5 yX5_its yX5_its : Cond) ∈ tbl := tbl_at 28 (by decide +kernel) rfl
theorem t_29 : (Cond.selects RX5 yX5_adds yX5_adds : Cond) ∈ tbl := tbl_at 29 (by decide +kernel) rfl
theorem t_30 : (Cond.selects RX5 yX5_isTenant yX5_isTenant : Cond) ∈ tbl := tbl_at 30 (by decide +kernel) rfl
theorem t_31 : (Cond.selects RX5 yX5_leaves yX5_leaves : Cond) ∈ tbl := tbl_at 31 (by decide +kernel) rfl
theorem t_32 : (Cond.selects RX5 yX5_sweeps yX5_sweeps : Cond) ∈ tbl := tbl_at 32 (by decide +kernel) rfl
theorem t_33 : (Cond.selects RX5 yX5_heldBy yX5_heldBy : Cond) ∈ tbl := tbl_at 33 (by decide +kernel) rfl
theorem t_34 : (Cond.selects RX5 yX5_marksOf yX5_marksOf : Cond) ∈ tbl := tbl_at 34 (by decide +kernel) rfl
theorem t_35 : (Cond.selects RX5 yX5_swaps yX5_swaps : Cond) ∈ tbl := tbl_at 35 (by decide +kernel) rfl
theorem t_36 : (Cond.selects RX5 yX5_blows yX5_blows : Cond) ∈ tbl := tbl_at 36 (by decide +kernel) rfl
theorem t_37 : (Cond.selects RX5 yX5_goesOn yX5_goesOn : Cond) ∈ tbl := tbl_at 37 (by decide +kernel) rfl
theorem t_38 : (Cond.selects RX5 yX5_day yX5_day : Cond) ∈ tbl := tbl_at 38 (by decide +kernel) rfl
theorem t_39 : (Cond.selects RX5 yX5_draughts yX5_draughts : Cond) ∈ tbl := tbl_at 39 (by decide +kernel) rfl
theorem t_40 : (Cond.selects RX5 yX5_sweep yX5_sweep : Cond) ∈ tbl := tbl_at 40 (by decide +kernel) rfl
theorem t_41 : (Cond.selects RX5 yX5_gets yX5_gets : Cond) ∈ tbl := tbl_at 41 (by decide +kernel) rfl
theorem t_42 : (Cond.selects RX5 yX5_marks yX5_marks : Cond) ∈ tbl := tbl_at 42 (by decide +kernel) rfl
theorem t_43 : (Cond.selects RX5 yX5_dustAll yX5_dustAll : Cond) ∈ tbl := tbl_at 43 (by decide +kernel) rfl
theorem t_44 : (Cond.selects RX5 yX5_goodsAll yX5_goodsAll : Cond) ∈ tbl := tbl_at 44 (by decide +kernel) rfl
theorem t_45 : (Cond.selects RX5 yX5_heldOnes yX5_heldOnes : Cond) ∈ tbl := tbl_at 45 (by decide +kernel) rfl
theorem t_46 : (Cond.selects RX5 yX5_landless yX5_landless : Cond) ∈ tbl := tbl_at 46 (by decide +kernel) rfl
theorem t_47 : (Cond.selects RX5 yX5_richest yX5_richest : Cond) ∈ tbl := tbl_at 47 (by decide +kernel) rfl
theorem t_48 : (Cond.selects RX5 yX5_laysAside yX5_laysAside : Cond) ∈ tbl := tbl_at 48 (by decide +kernel) rfl
theorem t_49 : (Cond.selects RX5 yX5_takesBack yX5_takesBack : Cond) ∈ tbl := tbl_at 49 (by decide +kernel) rfl
theorem t_50 : (Cond.selects RX5 yX5_goodsBehind yX5_goodsBehind : Cond) ∈ tbl := tbl_at 50 (by decide +kernel) rfl
theorem t_51 : (Cond.selects RX5 yX5_orNone yX5_orNone : Cond) ∈ tbl := tbl_at 51 (by decide +kernel) rfl
theorem t_52 : (Cond.selects RX5 yX5_isOtherwise yX5_isOtherwise : Cond) ∈ tbl := tbl_at 52 (by decide +kernel) rfl
theorem t_53 : (Cond.selects RX5 yX5_richestBy yX5_richestBy : Cond) ∈ tbl := tbl_at 53 (by decide +kernel) rfl
theorem t_54 : (Cond.selects RX5 yX5_dustBehind yX5_dustBehind : Cond) ∈ tbl := tbl_at 54 (by decide +kernel) rfl
theorem t_55 : (Cond.selects RX5 yX5_dustWith yX5_dustWith : Cond) ∈ tbl := tbl_at 55 (by decide +kernel) rfl
theorem t_56 : (Cond.selects RX5 yX5_wrongTold yX5_wrongTold : Cond) ∈ tbl := tbl_at 56 (by decide +kernel) rfl
theorem t_57 : (Cond.selects RX5 yX5_wrong yX5_wrong : Cond) ∈ tbl := tbl_at 57 (by decide +kernel) rfl
theorem t_58 : (Cond.selects RX5 yX5_fitsBy yX5_fitsBy : Cond) ∈ tbl := tbl_at 58 (by decide +kernel) rfl
theorem t_59 : (Cond.selects RX5 yX5_isTold yX5_isTold : Cond) ∈ tbl := tbl_at 59 (by decide +kernel) rfl
theorem t_60 : (Cond.selects RX5 yX5_draw yX5_draw : Cond) ∈ tbl := tbl_at 60 (by decide +kernel) rfl
theorem t_61 : (Cond.selects RX5 yX5_saves yX5_saves : Cond) ∈ tbl := tbl_at 61 (by decide +kernel) rfl
theorem t_62 : (Cond.selects RX5 yX5_token yX5_token : Cond) ∈ tbl := tbl_at 62 (by decide +kernel) rfl
theorem t_63 : (Cond.selects RX5 yX5_byteAt yX5_byteAt : Cond) ∈ tbl := tbl_at 63 (by decide +kernel) rfl
theorem t_64 : (Cond.selects RX5 yX5_item yX5_item : Cond) ∈ tbl := tbl_at 64 (by decide +kernel) rfl
theorem t_65 : (Cond.selects RX5 yX5_kindHere yX5_kindHere : Cond) ∈ tbl := tbl_at 65 (by decide +kernel) rfl
theorem t_66 : (Cond.selects RX5 yX5_word yX5_word : Cond) ∈ tbl := tbl_at 66 (by decide +kernel) rfl
theorem t_67 : (Cond.selects RX5 yX5_tenantItem yX5_tenantItem : Cond) ∈ tbl := tbl_at 67 (by decide +kernel) rfl
theorem t_68 : (Cond.selects RX5 yX5_must yX5_must : Cond) ∈ tbl := tbl_at 68 (by decide +kernel) rfl
theorem t_69 : (Cond.selects RX5 yX5_perhaps yX5_perhaps : Cond) ∈ tbl := tbl_at 69 (by decide +kernel) rfl
theorem t_70 : (Cond.selects RX5 yX5_number yX5_number : Cond) ∈ tbl := tbl_at 70 (by decide +kernel) rfl
theorem t_71 : (Cond.selects RX5 yX5_dustItem yX5_dustItem : Cond) ∈ tbl := tbl_at 71 (by decide +kernel) rfl
theorem t_72 : (Cond.selects RX5 yX5_draughtItem yX5_draughtItem : Cond) ∈ tbl := tbl_at 72 (by decide +kernel) rfl
theorem t_73 : (Cond.selects RX5 yX5_putsBack yX5_putsBack : Cond) ∈ tbl := tbl_at 73 (by decide +kernel) rfl
theorem t_74 : (Cond.selects RX5 yX5_heldSpots yX5_heldSpots : Cond) ∈ tbl := tbl_at 74 (by decide +kernel) rfl
theorem t_75 : (Cond.initialized RL : Cond) ∈ tbl := tbl_at 75 (by decide +kernel) rfl
theorem t_76 : (Cond.initialized RX4 : Cond) ∈ tbl := tbl_at 76 (by decide +kernel) rfl
theorem t_77 : (Cond.initialized RX0 : Cond) ∈ tbl := tbl_at 77 (by decide +kernel) rfl
theorem t_78 : (Cond.initialized RX2 : Cond) ∈ tbl := tbl_at 78 (by decide +kernel) rfl
theorem t_79 : (Cond.initialized RX3 : Cond) ∈ tbl := tbl_at 79 (by decide +kernel) rfl
theorem t_80 : (Cond.initialized RX1 : Cond) ∈ tbl := tbl_at 80 (by decide +kernel) rfl
theorem t_81 : (Cond.initialized RX5 : Cond) ∈ tbl := tbl_at 81 (by decide +kernel) rfl
theorem t_82 : (Cond.initialized RJ9 : Cond) ∈ tbl := tbl_at 82 (by decide +kernel) rfl
theorem t_83 : (Cond.initialized RJ10 : Cond) ∈ tbl := tbl_at 83 (by decide +kernel) rfl
theorem t_84 : (Cond.initialized RJ6 : Cond) ∈ tbl := tbl_at 84 (by decide +kernel) rfl
theorem t_85 : (Cond.initialized RJ0 : Cond) ∈ tbl := tbl_at 85 (by decide +kernel) rfl
theorem t_86 : (Cond.initialized RJ1 : Cond) ∈ tbl := tbl_at 86 (by decide +kernel) rfl
theorem t_87 : (Cond.initialized RJ3 : Cond) ∈ tbl := tbl_at 87 (by decide +kernel) rfl
theorem t_88 : (Cond.initialized RJ2 : Cond) ∈ tbl := tbl_at 88 (by decide +kernel) rfl
theorem t_89 : (Cond.classLink RL 7 RX4 : Cond) ∈ tbl := tbl_at 89 (by decide +kernel) rfl
theorem t_90 : (Cond.instantiable RX4 8 : Cond) ∈ tbl := tbl_at 90 (by decide +kernel) rfl
theorem t_91 : (Cond.methodLink RL 9 yX4_init : Cond) ∈ tbl := tbl_at 91 (by decide +kernel) rfl
theorem t_92 : (Cond.instanceMethod yX4_init : Cond) ∈ tbl := tbl_at 92 (by decide +kernel) rfl
theorem t_93 : (Cond.code yX4_init cX4_init 2 none : Cond) ∈ tbl := tbl_at 93 (by decide +kernel) rfl
theorem t_94 : (Cond.methodLink RX4 3 objectInit : Cond) ∈ tbl := tbl_at 94 (by decide +kernel) rfl
theorem t_95 : (Cond.instanceMethod objectInit : Cond) ∈ tbl := tbl_at 95 (by decide +kernel) rfl
theorem t_96 : (Cond.code objectInit object_method_1_code 1 none : Cond) ∈ tbl := tbl_at 96 (by decide +kernel) rfl
theorem t_97 : (Cond.classLink RX4 9 RX0 : Cond) ∈ tbl := tbl_at 97 (by decide +kernel) rfl
theorem t_98 : (Cond.instantiable RX0 12 : Cond) ∈ tbl := tbl_at 98 (by decide +kernel) rfl
theorem t_99 : (Cond.methodLink RX4 11 yX0_init : Cond) ∈ tbl := tbl_at 99 (by decide +kernel) rfl
theorem t_100 : (Cond.instanceMethod yX0_init : Cond) ∈ tbl := tbl_at 100 (by decide +kernel) rfl
theorem t_101 : (Cond.code yX0_init cX0_init 2 none : Cond) ∈ tbl := tbl_at 101 (by decide +kernel) rfl
theorem t_102 : (Cond.methodLink RX0 3 objectInit : Cond) ∈ tbl := tbl_at 102 (by decide +kernel) rfl
theorem t_103 : (Cond.fieldLink RX0 9 "DustLand$Room" "dust" "[I" : Cond) ∈ tbl := tbl_at 103 (by decide +kernel) rfl
theorem t_104 : (Cond.fieldLink RX4 63 "DustLand$Room" "dust" "[I" : Cond) ∈ tbl := tbl_at 104 (by decide +kernel) rfl
theorem t_105 : (Cond.fieldLink RX3 142 "DustLand$Room" "dust" "[I" : Cond) ∈ tbl := tbl_at 105 (by decide +kernel) rfl
theorem t_106 : (Cond.fieldLink RX0 15 "DustLand$Room" "blown" "[I" : Cond) ∈ tbl := tbl_at 106 (by decide +kernel) rfl
theorem t_107 : (Cond.fieldLink RX0 18 "DustLand$Room" "kind" "[I" : Cond) ∈ tbl := tbl_at 107 (by decide +kernel) rfl
theorem t_108 : (Cond.fieldLink RX4 95 "DustLand$Room" "kind" "[I" : Cond) ∈ tbl := tbl_at 108 (by decide +kernel) rfl
theorem t_109 : (Cond.fieldLink RX0 21 "DustLand$Room" "at" "[I" : Cond) ∈ tbl := tbl_at 109 (by decide +kernel) rfl
theorem t_110 : (Cond.fieldLink RX4 98 "DustLand$Room" "at" "[I" : Cond) ∈ tbl := tbl_at 110 (by decide +kernel) rfl
theorem t_111 : (Cond.fieldLink RX0 24 "DustLand$Room" "goods" "[I" : Cond) ∈ tbl := tbl_at 111 (by decide +kernel) rfl
theorem t_112 : (Cond.fieldLink RX4 101 "DustLand$Room" "goods" "[I" : Cond) ∈ tbl := tbl_at 112 (by decide +kernel) rfl
theorem t_113 : (Cond.fieldLink RX3 135 "DustLand$Room" "goods" "[I" : Cond) ∈ tbl := tbl_at 113 (by decide +kernel) rfl
theorem t_114 : (Cond.fieldLink RX0 27 "DustLand$Room" "marks" "[I" : Cond) ∈ tbl := tbl_at 114 (by decide +kernel) rfl
theorem t_115 : (Cond.fieldLink RX4 121 "DustLand$Room" "marks" "[I" : Cond) ∈ tbl := tbl_at 115 (by decide +kernel) rfl
theorem t_116 : (Cond.fieldLink RX3 137 "DustLand$Room" "marks" "[I" : Cond) ∈ tbl := tbl_at 116 (by decide +kernel) rfl
theorem t_117 : (Cond.fieldLink RX0 30 "DustLand$Room" "spots" "[I" : Cond) ∈ tbl := tbl_at 117 (by decide +kernel) rfl
theorem t_118 : (Cond.fieldLink RX4 216 "DustLand$Room" "spots" "[I" : Cond) ∈ tbl := tbl_at 118 (by decide +kernel) rfl
theorem t_119 : (Cond.fieldLink RX0 46 "DustLand$Room" "tenants" "I" : Cond) ∈ tbl := tbl_at 119 (by decide +kernel) rfl
theorem t_120 : (Cond.fieldLink RX4 85 "DustLand$Room" "tenants" "I" : Cond) ∈ tbl := tbl_at 120 (by decide +kernel) rfl
theorem t_121 : (Cond.fieldLink RX3 124 "DustLand$Room" "tenants" "I" : Cond) ∈ tbl := tbl_at 121 (by decide +kernel) rfl
theorem t_122 : (Cond.fieldLink RX0 33 "DustLand$Room" "fall" "I" : Cond) ∈ tbl := tbl_at 122 (by decide +kernel) rfl
theorem t_123 : (Cond.fieldLink RX4 75 "DustLand$Room" "fall" "I" : Cond) ∈ tbl := tbl_at 123 (by decide +kernel) rfl
theorem t_124 : (Cond.fieldLink RX3 144 "DustLand$Room" "fall" "I" : Cond) ∈ tbl := tbl_at 124 (by decide +kernel) rfl
theorem t_125 : (Cond.fieldLink RX0 49 "DustLand$Room" "wind" "I" : Cond) ∈ tbl := tbl_at 125 (by decide +kernel) rfl
theorem t_126 : (Cond.fieldLink RX4 79 "DustLand$Room" "wind" "I" : Cond) ∈ tbl := tbl_at 126 (by decide +kernel) rfl
theorem t_127 : (Cond.fieldLink RX3 146 "DustLand$Room" "wind" "I" : Cond) ∈ tbl := tbl_at 127 (by decide +kernel) rfl
theorem t_128 : (Cond.fieldLink RX0 52 "DustLand$Room" "day" "I" : Cond) ∈ tbl := tbl_at 128 (by decide +kernel) rfl
theorem t_129 : (Cond.fieldLink RX4 131 "DustLand$Room" "day" "I" : Cond) ∈ tbl := tbl_at 129 (by decide +kernel) rfl
theorem t_130 : (Cond.fieldLink RX0 37 "DustLand$Room" "z" "I" : Cond) ∈ tbl := tbl_at 130 (by decide +kernel) rfl
theorem t_131 : (Cond.fieldLink RX4 196 "DustLand$Room" "z" "I" : Cond) ∈ tbl := tbl_at 131 (by decide +kernel) rfl
theorem t_157 : (Cond.arrayClass FieldType.int : Cond) ∈ tbl := tbl_at 157 (by decide +kernel) rfl
theorem t_158 : (Cond.classLink RX4 26 RX2 : Cond) ∈ tbl := tbl_at 158 (by decide +kernel) rfl
theorem t_159 : (Cond.instantiable RX2 2 : Cond) ∈ tbl := tbl_at 159 (by decide +kernel) rfl
theorem t_161 : (Cond.instanceMethod yX2_init : Cond) ∈ tbl := tbl_at 161 (by decide +kernel) rfl
theorem t_162 : (Cond.code yX2_init cX2_init 1 none : Cond) ∈ tbl := tbl_at 162 (by decide +kernel) rfl
theorem t_163 : (Cond.methodLink RX2 3 objectInit : Cond) ∈ tbl := tbl_at 163 (by decide +kernel) rfl
theorem t_164 : (Cond.fieldLink RX2 9 "DustLand$Tape" "bytes" "[I" : Cond) ∈ tbl := tbl_at 164 (by decide +kernel) rfl
theorem t_165 : (Cond.fieldLink RX3 33 "DustLand$Tape" "bytes" "[I" : Cond) ∈ tbl := tbl_at 165 (by decide +kernel) rfl
theorem t_166 : (Cond.fieldLink RX2 15 "DustLand$Tape" "length" "I" : Cond) ∈ tbl := tbl_at 166 (by decide +kernel) rfl
theorem t_167 : (Cond.fieldLink RX3 28 "DustLand$Tape" "length" "I" : Cond) ∈ tbl := tbl_at 167 (by decide +kernel) rfl
theorem t_168 : (Cond.fieldLink RX4 199 "DustLand$Tape" "length" "I" : Cond) ∈ tbl := tbl_at 168 (by decide +kernel) rfl
theorem t_174 : (Cond.classLink RX4 33 RX3 : Cond) ∈ tbl := tbl_at 174 (by decide +kernel) rfl
theorem t_175 : (Cond.instantiable RX3 5 : Cond) ∈ tbl := tbl_at 175 (by decide +kernel) rfl
theorem t_177 : (Cond.instanceMethod yX3_init : Cond) ∈ tbl := tbl_at 177 (by decide +kernel) rfl
theorem t_178 : (Cond.code yX3_init cX3_init 1 none : Cond) ∈ tbl := tbl_at 178 (by decide +kernel) rfl
theorem t_179 : (Cond.methodLink RX3 3 objectInit : Cond) ∈ tbl := tbl_at 179 (by decide +kernel) rfl
theorem t_180 : (Cond.fieldLink RX3 9 "DustLand$TextReader" "types" "[I" : Cond) ∈ tbl := tbl_at 180 (by decide +kernel) rfl
theorem t_181 : (Cond.fieldLink RX3 15 "DustLand$TextReader" "starts" "[I" : Cond) ∈ tbl := tbl_at 181 (by decide +kernel) rfl
theorem t_182 : (Cond.fieldLink RX3 18 "DustLand$TextReader" "values" "[I" : Cond) ∈ tbl := tbl_at 182 (by decide +kernel) rfl
theorem t_183 : (Cond.fieldLink RX3 21 "DustLand$TextReader" "tokens" "I" : Cond) ∈ tbl := tbl_at 183 (by decide +kernel) rfl
theorem t_184 : (Cond.fieldLink RX3 25 "DustLand$TextReader" "next" "I" : Cond) ∈ tbl := tbl_at 184 (by decide +kernel) rfl
theorem t_196 : (Cond.classLink RX4 40 RX1 : Cond) ∈ tbl := tbl_at 196 (by decide +kernel) rfl
theorem t_198 : (Cond.instantiable RX1 3 : Cond) ∈ tbl := tbl_at 198 (by decide +kernel) rfl
theorem t_200 : (Cond.instanceMethod yX1_init : Cond) ∈ tbl := tbl_at 200 (by decide +kernel) rfl
theorem t_201 : (Cond.code yX1_init cX1_init 1 none : Cond) ∈ tbl := tbl_at 201 (by decide +kernel) rfl
theorem t_202 : (Cond.methodLink RX1 3 objectInit : Cond) ∈ tbl := tbl_at 202 (by decide +kernel) rfl
theorem t_203 : (Cond.fieldLink RX1 9 "DustLand$Sheet" "numbers" "[I" : Cond) ∈ tbl := tbl_at 203 (by decide +kernel) rfl
theorem t_204 : (Cond.fieldLink RX4 238 "DustLand$Sheet" "numbers" "[I" : Cond) ∈ tbl := tbl_at 204 (by decide +kernel) rfl
theorem t_205 : (Cond.fieldLink RX1 15 "DustLand$Sheet" "bits" "I" : Cond) ∈ tbl := tbl_at 205 (by decide +kernel) rfl
theorem t_206 : (Cond.fieldLink RX4 229 "DustLand$Sheet" "bits" "I" : Cond) ∈ tbl := tbl_at 206 (by decide +kernel) rfl
theorem t_207 : (Cond.fieldLink RX1 19 "DustLand$Sheet" "length" "I" : Cond) ∈ tbl := tbl_at 207 (by decide +kernel) rfl
theorem t_208 : (Cond.fieldLink RX4 232 "DustLand$Sheet" "length" "I" : Cond) ∈ tbl := tbl_at 208 (by decide +kernel) rfl
theorem t_216 : (Cond.fieldLink RX4 12 "DustLand" "room" "LDustLand$Room;" : Cond) ∈ tbl := tbl_at 216 (by decide +kernel) rfl
theorem t_217 : (Cond.fieldLink RX4 16 "DustLand" "trial" "LDustLand$Room;" : Cond) ∈ tbl := tbl_at 217 (by decide +kernel) rfl
theorem t_218 : (Cond.fieldLink RX4 19 "DustLand" "kept" "LDustLand$Room;" : Cond) ∈ tbl := tbl_at 218 (by decide +kernel) rfl
theorem t_219 : (Cond.fieldLink RX4 22 "DustLand" "isKept" "Z" : Cond) ∈ tbl := tbl_at 219 (by decide +kernel) rfl
theorem t_220 : (Cond.fieldLink RX4 29 "DustLand" "tape" "LDustLand$Tape;" : Cond) ∈ tbl := tbl_at 220 (by decide +kernel) rfl
theorem t_221 : (Cond.fieldLink RX4 36 "DustLand" "reader" "LDustLand$TextReader;" : Cond) ∈ tbl := tbl_at 221 (by decide +kernel) rfl
theorem t_222 : (Cond.fieldLink RX4 42 "DustLand" "sheets" "[LDustLand$Sheet;" : Cond) ∈ tbl := tbl_at 222 (by decide +kernel) rfl
theorem t_223 : (Cond.fieldLink RX4 47 "DustLand" "findings" "[I" : Cond) ∈ tbl := tbl_at 223 (by decide +kernel) rfl
theorem t_241 : (Cond.methodLink RL 13 yX4_dust : Cond) ∈ tbl := tbl_at 241 (by decide +kernel) rfl
theorem t_242 : (Cond.instanceMethod yX4_dust : Cond) ∈ tbl := tbl_at 242 (by decide +kernel) rfl
theorem t_243 : (Cond.selects RX4 yX4_dust yX4_dust : Cond) ∈ tbl := tbl_at 243 (by decide +kernel) rfl
theorem t_244 : (Cond.code yX4_dust cX4_dust 4 (some FieldType.int) : Cond) ∈ tbl := tbl_at 244 (by decide +kernel) rfl
theorem t_245 : (Cond.methodLink RX4 51 yX4_isSurface : Cond) ∈ tbl := tbl_at 245 (by decide +kernel) rfl
theorem t_246 : (Cond.static yX4_isSurface : Cond) ∈ tbl := tbl_at 246 (by decide +kernel) rfl
theorem t_247 : (Cond.code yX4_isSurface cX4_isSurface 1 (some FieldType.boolean) : Cond) ∈ tbl := tbl_at 247 (by decide +kernel) rfl
theorem t_248 : (Cond.methodLink RX4 55 yX4_isWithin : Cond) ∈ tbl := tbl_at 248 (by decide +kernel) rfl
theorem t_249 : (Cond.static yX4_isWithin : Cond) ∈ tbl := tbl_at 249 (by decide +kernel) rfl
theorem t_250 : (Cond.code yX4_isWithin cX4_isWithin 3 (some FieldType.boolean) : Cond) ∈ tbl := tbl_at 250 (by decide +kernel) rfl
theorem t_251 : (Cond.methodLink RX4 59 yX4_finding : Cond) ∈ tbl := tbl_at 251 (by decide +kernel) rfl
theorem t_253 : (Cond.instanceMethod yX4_finding : Cond) ∈ tbl := tbl_at 253 (by decide +kernel) rfl
theorem t_254 : (Cond.code yX4_finding cX4_finding 2 (some FieldType.int) : Cond) ∈ tbl := tbl_at 254 (by decide +kernel) rfl
theorem t_255 : (Cond.constant RX4 254 (-1000001) : Cond) ∈ tbl := tbl_at 255 (by decide +kernel) rfl
theorem t_256 : (Cond.methodLink RL 18 yX4_surface : Cond) ∈ tbl := tbl_at 256 (by decide +kernel) rfl
theorem t_257 : (Cond.instanceMethod yX4_surface : Cond) ∈ tbl := tbl_at 257 (by decide +kernel) rfl
theorem t_258 : (Cond.selects RX4 yX4_surface yX4_surface : Cond) ∈ tbl := tbl_at 258 (by decide +kernel) rfl
theorem t_259 : (Cond.code yX4_surface cX4_surface 3 (some FieldType.int) : Cond) ∈ tbl := tbl_at 259 (by decide +kernel) rfl
theorem t_260 : (Cond.methodLink RX4 66 yX0_holderOf : Cond) ∈ tbl := tbl_at 260 (by decide +kernel) rfl
theorem t_261 : (Cond.instanceMethod yX0_holderOf : Cond) ∈ tbl := tbl_at 261 (by decide +kernel) rfl
theorem t_262 : (Cond.selects RX0 yX0_holderOf yX0_holderOf : Cond) ∈ tbl := tbl_at 262 (by decide +kernel) rfl
theorem t_263 : (Cond.code yX0_holderOf cX0_holderOf 6 (some FieldType.int) : Cond) ∈ tbl := tbl_at 263 (by decide +kernel) rfl
theorem t_264 : (Cond.methodLink RX4 69 yX0_sittersAt : Cond) ∈ tbl := tbl_at 264 (by decide +kernel) rfl
theorem t_265 : (Cond.instanceMethod yX0_sittersAt : Cond) ∈ tbl := tbl_at 265 (by decide +kernel) rfl
theorem t_266 : (Cond.selects RX0 yX0_sittersAt yX0_sittersAt : Cond) ∈ tbl := tbl_at 266 (by decide +kernel) rfl
theorem t_267 : (Cond.code yX0_sittersAt cX0_sittersAt 4 (some FieldType.int) : Cond) ∈ tbl := tbl_at 267 (by decide +kernel) rfl
theorem t_268 : (Cond.methodLink RX4 72 yX0_greatestMark : Cond) ∈ tbl := tbl_at 268 (by decide +kernel) rfl
theorem t_269 : (Cond.instanceMethod yX0_greatestMark : Cond) ∈ tbl := tbl_at 269 (by decide +kernel) rfl
theorem t_270 : (Cond.selects RX0 yX0_greatestMark yX0_greatestMark : Cond) ∈ tbl := tbl_at 270 (by decide +kernel) rfl
theorem t_271 : (Cond.code yX0_greatestMark cX0_greatestMark 3 (some FieldType.int) : Cond) ∈ tbl := tbl_at 271 (by decide +kernel) rfl
theorem t_272 : (Cond.methodLink RX0 65 yX0_holderOf : Cond) ∈ tbl := tbl_at 272 (by decide +kernel) rfl
theorem t_273 : (Cond.methodLink RL 22 yX4_law : Cond) ∈ tbl := tbl_at 273 (by decide +kernel) rfl
theorem t_274 : (Cond.instanceMethod yX4_law : Cond) ∈ tbl := tbl_at 274 (by decide +kernel) rfl
theorem t_275 : (Cond.selects RX4 yX4_law yX4_law : Cond) ∈ tbl := tbl_at 275 (by decide +kernel) rfl
theorem t_276 : (Cond.code yX4_law cX4_law 4 (some FieldType.int) : Cond) ∈ tbl := tbl_at 276 (by decide +kernel) rfl
theorem t_277 : (Cond.methodLink RL 26 yX4_tenant : Cond) ∈ tbl := tbl_at 277 (by decide +kernel) rfl
theorem t_278 : (Cond.instanceMethod yX4_tenant : Cond) ∈ tbl := tbl_at 278 (by decide +kernel) rfl
theorem t_279 : (Cond.selects RX4 yX4_tenant yX4_tenant : Cond) ∈ tbl := tbl_at 279 (by decide +kernel) rfl
theorem t_280 : (Cond.code yX4_tenant cX4_tenant 3 (some FieldType.int) : Cond) ∈ tbl := tbl_at 280 (by decide +kernel) rfl
theorem t_281 : (Cond.methodLink RX4 82 yX4_isKind : Cond) ∈ tbl := tbl_at 281 (by decide +kernel) rfl
theorem t_282 : (Cond.static yX4_isKind : Cond) ∈ tbl := tbl_at 282 (by decide +kernel) rfl
theorem t_283 : (Cond.code yX4_isKind cX4_isKind 1 (some FieldType.boolean) : Cond) ∈ tbl := tbl_at 283 (by decide +kernel) rfl
theorem t_284 : (Cond.methodLink RX4 88 yX0_addTenant : Cond) ∈ tbl := tbl_at 284 (by decide +kernel) rfl
theorem t_285 : (Cond.instanceMethod yX0_addTenant : Cond) ∈ tbl := tbl_at 285 (by decide +kernel) rfl
theorem t_286 : (Cond.selects RX0 yX0_addTenant yX0_addTenant : Cond) ∈ tbl := tbl_at 286 (by decide +kernel) rfl
theorem t_287 : (Cond.code yX0_addTenant cX0_addTenant 5 (some FieldType.int) : Cond) ∈ tbl := tbl_at 287 (by decide +kernel) rfl
theorem t_288 : (Cond.methodLink RL 30 yX4_of : Cond) ∈ tbl := tbl_at 288 (by decide +kernel) rfl
theorem t_289 : (Cond.instanceMethod yX4_of : Cond) ∈ tbl := tbl_at 289 (by decide +kernel) rfl
theorem t_290 : (Cond.selects RX4 yX4_of yX4_of : Cond) ∈ tbl := tbl_at 290 (by decide +kernel) rfl
theorem t_291 : (Cond.code yX4_of cX4_of 3 (some FieldType.int) : Cond) ∈ tbl := tbl_at 291 (by decide +kernel) rfl
theorem t_292 : (Cond.methodLink RX4 92 yX4_isTenant : Cond) ∈ tbl := tbl_at 292 (by decide +kernel) rfl
theorem t_294 : (Cond.instanceMethod yX4_isTenant : Cond) ∈ tbl := tbl_at 294 (by decide +kernel) rfl
theorem t_295 : (Cond.code yX4_isTenant cX4_isTenant 2 (some FieldType.boolean) : Cond) ∈ tbl := tbl_at 295 (by decide +kernel) rfl
theorem t_296 : (Cond.methodLink RX4 104 yX0_leavesOf : Cond) ∈ tbl := tbl_at 296 (by decide +kernel) rfl
theorem t_297 : (Cond.instanceMethod yX0_leavesOf : Cond) ∈ tbl := tbl_at 297 (by decide +kernel) rfl
theorem t_298 : (Cond.selects RX0 yX0_leavesOf yX0_leavesOf : Cond) ∈ tbl := tbl_at 298 (by decide +kernel) rfl
theorem t_299 : (Cond.code yX0_leavesOf cX0_leavesOf 4 (some FieldType.int) : Cond) ∈ tbl := tbl_at 299 (by decide +kernel) rfl
theorem t_302 : (Cond.fieldLink RX4 107 "DustLand" "SWEEPS" "[I" : Cond) ∈ tbl := tbl_at 302 (by decide +kernel) rfl
theorem t_304 : (Cond.methodLink RX4 110 yX0_heldBy : Cond) ∈ tbl := tbl_at 304 (by decide +kernel) rfl
theorem t_305 : (Cond.instanceMethod yX0_heldBy : Cond) ∈ tbl := tbl_at 305 (by decide +kernel) rfl
theorem t_306 : (Cond.selects RX0 yX0_heldBy yX0_heldBy : Cond) ∈ tbl := tbl_at 306 (by decide +kernel) rfl
theorem t_307 : (Cond.code yX0_heldBy cX0_heldBy 4 (some FieldType.int) : Cond) ∈ tbl := tbl_at 307 (by decide +kernel) rfl
theorem t_308 : (Cond.methodLink RX4 113 yX0_marksOf : Cond) ∈ tbl := tbl_at 308 (by decide +kernel) rfl
theorem t_309 : (Cond.instanceMethod yX0_marksOf : Cond) ∈ tbl := tbl_at 309 (by decide +kernel) rfl
theorem t_310 : (Cond.selects RX0 yX0_marksOf yX0_marksOf : Cond) ∈ tbl := tbl_at 310 (by decide +kernel) rfl
theorem t_311 : (Cond.code yX0_marksOf cX0_marksOf 4 (some FieldType.int) : Cond) ∈ tbl := tbl_at 311 (by decide +kernel) rfl
theorem t_312 : (Cond.methodLink RL 34 yX4_change : Cond) ∈ tbl := tbl_at 312 (by decide +kernel) rfl
theorem t_313 : (Cond.instanceMethod yX4_change : Cond) ∈ tbl := tbl_at 313 (by decide +kernel) rfl
theorem t_314 : (Cond.selects RX4 yX4_change yX4_change : Cond) ∈ tbl := tbl_at 314 (by decide +kernel) rfl
theorem t_315 : (Cond.code yX4_change cX4_change 4 (some FieldType.int) : Cond) ∈ tbl := tbl_at 315 (by decide +kernel) rfl
theorem t_316 : (Cond.methodLink RX4 116 yX4_put : Cond) ∈ tbl := tbl_at 316 (by decide +kernel) rfl
theorem t_317 : (Cond.static yX4_put : Cond) ∈ tbl := tbl_at 317 (by decide +kernel) rfl
theorem t_318 : (Cond.code yX4_put cX4_put 4 (some FieldType.int) : Cond) ∈ tbl := tbl_at 318 (by decide +kernel) rfl
theorem t_319 : (Cond.constant RX4 120 (99999) : Cond) ∈ tbl := tbl_at 319 (by decide +kernel) rfl
theorem t_320 : (Cond.methodLink RL 39 yX4_mark : Cond) ∈ tbl := tbl_at 320 (by decide +kernel) rfl
theorem t_321 : (Cond.instanceMethod yX4_mark : Cond) ∈ tbl := tbl_at 321 (by decide +kernel) rfl
theorem t_322 : (Cond.selects RX4 yX4_mark yX4_mark : Cond) ∈ tbl := tbl_at 322 (by decide +kernel) rfl
theorem t_323 : (Cond.code yX4_mark cX4_mark 3 (some FieldType.int) : Cond) ∈ tbl := tbl_at 323 (by decide +kernel) rfl
theorem t_324 : (Cond.methodLink RL 43 yX4_charter : Cond) ∈ tbl := tbl_at 324 (by decide +kernel) rfl
theorem t_325 : (Cond.instanceMethod yX4_charter : Cond) ∈ tbl := tbl_at 325 (by decide +kernel) rfl
theorem t_326 : (Cond.selects RX4 yX4_charter yX4_charter : Cond) ∈ tbl := tbl_at 326 (by decide +kernel) rfl
theorem t_327 : (Cond.code yX4_charter cX4_charter 4 (some FieldType.int) : Cond) ∈ tbl := tbl_at 327 (by decide +kernel) rfl
theorem t_328 : (Cond.methodLink RL 47 yX4_swap : Cond) ∈ tbl := tbl_at 328 (by decide +kernel) rfl
theorem t_329 : (Cond.instanceMethod yX4_swap : Cond) ∈ tbl := tbl_at 329 (by decide +kernel) rfl
theorem t_330 : (Cond.selects RX4 yX4_swap yX4_swap : Cond) ∈ tbl := tbl_at 330 (by decide +kernel) rfl
theorem t_331 : (Cond.code yX4_swap cX4_swap 3 (some FieldType.int) : Cond) ∈ tbl := tbl_at 331 (by decide +kernel) rfl
theorem t_332 : (Cond.methodLink RX4 124 yX0_changePlaces : Cond) ∈ tbl := tbl_at 332 (by decide +kernel) rfl
theorem t_333 : (Cond.instanceMethod yX0_changePlaces : Cond) ∈ tbl := tbl_at 333 (by decide +kernel) rfl
theorem t_334 : (Cond.selects RX0 yX0_changePlaces yX0_changePlaces : Cond) ∈ tbl := tbl_at 334 (by decide +kernel) rfl
theorem t_335 : (Cond.code yX0_changePlaces cX0_changePlaces 4 none : Cond) ∈ tbl := tbl_at 335 (by decide +kernel) rfl
theorem t_336 : (Cond.methodLink RL 51 yX4_sneeze : Cond) ∈ tbl := tbl_at 336 (by decide +kernel) rfl
theorem t_337 : (Cond.instanceMethod yX4_sneeze : Cond) ∈ tbl := tbl_at 337 (by decide +kernel) rfl
theorem t_338 : (Cond.selects RX4 yX4_sneeze yX4_sneeze : Cond) ∈ tbl := tbl_at 338 (by decide +kernel) rfl
theorem t_339 : (Cond.code yX4_sneeze cX4_sneeze 3 (some FieldType.int) : Cond) ∈ tbl := tbl_at 339 (by decide +kernel) rfl
theorem t_340 : (Cond.methodLink RX4 128 yX0_blowAway : Cond) ∈ tbl := tbl_at 340 (by decide +kernel) rfl
theorem t_341 : (Cond.instanceMethod yX0_blowAway : Cond) ∈ tbl := tbl_at 341 (by decide +kernel) rfl
theorem t_342 : (Cond.selects RX0 yX0_blowAway yX0_blowAway : Cond) ∈ tbl := tbl_at 342 (by decide +kernel) rfl
theorem t_343 : (Cond.code yX0_blowAway cX0_blowAway 5 (some FieldType.int) : Cond) ∈ tbl := tbl_at 343 (by decide +kernel) rfl
theorem t_344 : (Cond.methodLink RX0 55 yJ9_floorMod_7cf53 : Cond) ∈ tbl := tbl_at 344 (by decide +kernel) rfl
theorem t_345 : (Cond.static yJ9_floorMod_7cf53 : Cond) ∈ tbl := tbl_at 345 (by decide +kernel) rfl
theorem t_346 : (Cond.code yJ9_floorMod_7cf53 cJ9_floorMod_7cf53 3 (some FieldType.int) : Cond) ∈ tbl := tbl_at 346 (by decide +kernel) rfl
theorem t_347 : (Cond.methodLink RX0 61 yJ9_min_7cf53 : Cond) ∈ tbl := tbl_at 347 (by decide +kernel) rfl
theorem t_348 : (Cond.static yJ9_min_7cf53 : Cond) ∈ tbl := tbl_at 348 (by decide +kernel) rfl
theorem t_349 : (Cond.code yJ9_min_7cf53 cJ9_min_7cf53 2 (some FieldType.int) : Cond) ∈ tbl := tbl_at 349 (by decide +kernel) rfl
theorem t_350 : (Cond.methodLink RL 55 yX4_go : Cond) ∈ tbl := tbl_at 350 (by decide +kernel) rfl
theorem t_351 : (Cond.instanceMethod yX4_go : Cond) ∈ tbl := tbl_at 351 (by decide +kernel) rfl
theorem t_352 : (Cond.selects RX4 yX4_go yX4_go : Cond) ∈ tbl := tbl_at 352 (by decide +kernel) rfl
theorem t_353 : (Cond.code yX4_go cX4_go 2 (some FieldType.int) : Cond) ∈ tbl := tbl_at 353 (by decide +kernel) rfl
theorem t_354 : (Cond.methodLink RX4 134 yX0_passDays : Cond) ∈ tbl := tbl_at 354 (by decide +kernel) rfl
theorem t_355 : (Cond.instanceMethod yX0_passDays : Cond) ∈ tbl := tbl_at 355 (by decide +kernel) rfl
theorem t_356 : (Cond.selects RX0 yX0_passDays yX0_passDays : Cond) ∈ tbl := tbl_at 356 (by decide +kernel) rfl
theorem t_357 : (Cond.code yX0_passDays cX0_passDays 3 none : Cond) ∈ tbl := tbl_at 357 (by decide +kernel) rfl
theorem t_358 : (Cond.methodLink RX0 79 yX0_passDay : Cond) ∈ tbl := tbl_at 358 (by decide +kernel) rfl
theorem t_359 : (Cond.instanceMethod yX0_passDay : Cond) ∈ tbl := tbl_at 359 (by decide +kernel) rfl
theorem t_360 : (Cond.selects RX0 yX0_passDay yX0_passDay : Cond) ∈ tbl := tbl_at 360 (by decide +kernel) rfl
theorem t_361 : (Cond.code yX0_passDay cX0_passDay 1 none : Cond) ∈ tbl := tbl_at 361 (by decide +kernel) rfl
theorem t_362 : (Cond.methodLink RX0 82 yX0_settle : Cond) ∈ tbl := tbl_at 362 (by decide +kernel) rfl
theorem t_364 : (Cond.instanceMethod yX0_settle : Cond) ∈ tbl := tbl_at 364 (by decide +kernel) rfl
theorem t_365 : (Cond.code yX0_settle cX0_settle 3 none : Cond) ∈ tbl := tbl_at 365 (by decide +kernel) rfl
theorem t_366 : (Cond.methodLink RX0 93 yX0_blow : Cond) ∈ tbl := tbl_at 366 (by decide +kernel) rfl
theorem t_368 : (Cond.instanceMethod yX0_blow : Cond) ∈ tbl := tbl_at 368 (by decide +kernel) rfl
theorem t_369 : (Cond.code yX0_blow cX0_blow 2 none : Cond) ∈ tbl := tbl_at 369 (by decide +kernel) rfl
theorem t_370 : (Cond.methodLink RX0 96 yX0_sweep : Cond) ∈ tbl := tbl_at 370 (by decide +kernel) rfl
theorem t_372 : (Cond.instanceMethod yX0_sweep : Cond) ∈ tbl := tbl_at 372 (by decide +kernel) rfl
theorem t_373 : (Cond.code yX0_sweep cX0_sweep 4 none : Cond) ∈ tbl := tbl_at 373 (by decide +kernel) rfl
theorem t_375 : (Cond.methodLink RX0 102 yX0_gain : Cond) ∈ tbl := tbl_at 375 (by decide +kernel) rfl
theorem t_377 : (Cond.instanceMethod yX0_gain : Cond) ∈ tbl := tbl_at 377 (by decide +kernel) rfl
theorem t_378 : (Cond.code yX0_gain cX0_gain 4 none : Cond) ∈ tbl := tbl_at 378 (by decide +kernel) rfl
theorem t_379 : (Cond.constant RX0 92 (99999) : Cond) ∈ tbl := tbl_at 379 (by decide +kernel) rfl
theorem t_380 : (Cond.methodLink RX0 86 yX0_leaveMarks : Cond) ∈ tbl := tbl_at 380 (by decide +kernel) rfl
theorem t_382 : (Cond.instanceMethod yX0_leaveMarks : Cond) ∈ tbl := tbl_at 382 (by decide +kernel) rfl
theorem t_383 : (Cond.code yX0_leaveMarks cX0_leaveMarks 5 none : Cond) ∈ tbl := tbl_at 383 (by decide +kernel) rfl
theorem t_384 : (Cond.methodLink RX0 106 yX0_leavesOf : Cond) ∈ tbl := tbl_at 384 (by decide +kernel) rfl
theorem t_385 : (Cond.methodLink RX0 89 yX0_payRents : Cond) ∈ tbl := tbl_at 385 (by decide +kernel) rfl
theorem t_387 : (Cond.instanceMethod yX0_payRents : Cond) ∈ tbl := tbl_at 387 (by decide +kernel) rfl
theorem t_388 : (Cond.code yX0_payRents cX0_payRents 3 none : Cond) ∈ tbl := tbl_at 388 (by decide +kernel) rfl
theorem t_389 : (Cond.methodLink RX4 138 yX0_allDust : Cond) ∈ tbl := tbl_at 389 (by decide +kernel) rfl
theorem t_390 : (Cond.instanceMethod yX0_allDust : Cond) ∈ tbl := tbl_at 390 (by decide +kernel) rfl
theorem t_391 : (Cond.selects RX0 yX0_allDust yX0_allDust : Cond) ∈ tbl := tbl_at 391 (by decide +kernel) rfl
theorem t_392 : (Cond.code yX0_allDust cX0_allDust 1 (some FieldType.int) : Cond) ∈ tbl := tbl_at 392 (by decide +kernel) rfl
theorem t_394 : (Cond.static yX4_sumOf : Cond) ∈ tbl := tbl_at 394 (by decide +kernel) rfl
theorem t_395 : (Cond.code yX4_sumOf cX4_sumOf 6 (some FieldType.int) : Cond) ∈ tbl := tbl_at 395 (by decide +kernel) rfl
theorem t_396 : (Cond.methodLink RL 60 yX4_now : Cond) ∈ tbl := tbl_at 396 (by decide +kernel) rfl
theorem t_397 : (Cond.instanceMethod yX4_now : Cond) ∈ tbl := tbl_at 397 (by decide +kernel) rfl
theorem t_398 : (Cond.selects RX4 yX4_now yX4_now : Cond) ∈ tbl := tbl_at 398 (by decide +kernel) rfl
theorem t_399 : (Cond.code yX4_now cX4_now 2 (some FieldType.int) : Cond) ∈ tbl := tbl_at 399 (by decide +kernel) rfl
theorem t_400 : (Cond.methodLink RX4 142 yX0_allGoods : Cond) ∈ tbl := tbl_at 400 (by decide +kernel) rfl
theorem t_401 : (Cond.instanceMethod yX0_allGoods : Cond) ∈ tbl := tbl_at 401 (by decide +kernel) rfl
theorem t_402 : (Cond.selects RX0 yX0_allGoods yX0_allGoods : Cond) ∈ tbl := tbl_at 402 (by decide +kernel) rfl
theorem t_403 : (Cond.code yX0_allGoods cX0_allGoods 3 (some FieldType.int) : Cond) ∈ tbl := tbl_at 403 (by decide +kernel) rfl
theorem t_404 : (Cond.methodLink RX4 145 yX0_heldSurfaces : Cond) ∈ tbl := tbl_at 404 (by decide +kernel) rfl
theorem t_405 : (Cond.instanceMethod yX0_heldSurfaces : Cond) ∈ tbl := tbl_at 405 (by decide +kernel) rfl
theorem t_406 : (Cond.selects RX0 yX0_heldSurfaces yX0_heldSurfaces : Cond) ∈ tbl := tbl_at 406 (by decide +kernel) rfl
theorem t_407 : (Cond.code yX0_heldSurfaces cX0_heldSurfaces 1 (some FieldType.int) : Cond) ∈ tbl := tbl_at 407 (by decide +kernel) rfl
theorem t_408 : (Cond.methodLink RX0 69 yX0_heldBy : Cond) ∈ tbl := tbl_at 408 (by decide +kernel) rfl
theorem t_409 : (Cond.methodLink RX4 148 yX0_landless : Cond) ∈ tbl := tbl_at 409 (by decide +kernel) rfl
theorem t_410 : (Cond.instanceMethod yX0_landless : Cond) ∈ tbl := tbl_at 410 (by decide +kernel) rfl
theorem t_411 : (Cond.selects RX0 yX0_landless yX0_landless : Cond) ∈ tbl := tbl_at 411 (by decide +kernel) rfl
theorem t_412 : (Cond.code yX0_landless cX0_landless 4 (some FieldType.int) : Cond) ∈ tbl := tbl_at 412 (by decide +kernel) rfl
theorem t_413 : (Cond.methodLink RX4 151 yX0_richest : Cond) ∈ tbl := tbl_at 413 (by decide +kernel) rfl
theorem t_414 : (Cond.instanceMethod yX0_richest : Cond) ∈ tbl := tbl_at 414 (by decide +kernel) rfl
theorem t_415 : (Cond.selects RX0 yX0_richest yX0_richest : Cond) ∈ tbl := tbl_at 415 (by decide +kernel) rfl
theorem t_416 : (Cond.code yX0_richest cX0_richest 3 (some FieldType.int) : Cond) ∈ tbl := tbl_at 416 (by decide +kernel) rfl
theorem t_417 : (Cond.methodLink RL 64 yX4_ahead : Cond) ∈ tbl := tbl_at 417 (by decide +kernel) rfl
theorem t_418 : (Cond.instanceMethod yX4_ahead : Cond) ∈ tbl := tbl_at 418 (by decide +kernel) rfl
theorem t_419 : (Cond.selects RX4 yX4_ahead yX4_ahead : Cond) ∈ tbl := tbl_at 419 (by decide +kernel) rfl
theorem t_420 : (Cond.code yX4_ahead cX4_ahead 3 (some FieldType.int) : Cond) ∈ tbl := tbl_at 420 (by decide +kernel) rfl
theorem t_421 : (Cond.methodLink RX4 154 yX0_become : Cond) ∈ tbl := tbl_at 421 (by decide +kernel) rfl
theorem t_422 : (Cond.instanceMethod yX0_become : Cond) ∈ tbl := tbl_at 422 (by decide +kernel) rfl
theorem t_423 : (Cond.selects RX0 yX0_become yX0_become : Cond) ∈ tbl := tbl_at 423 (by decide +kernel) rfl
theorem t_424 : (Cond.code yX0_become cX0_become 2 none : Cond) ∈ tbl := tbl_at 424 (by decide +kernel) rfl
theorem t_425 : (Cond.methodLink RX0 40 ⟨"java/lang/System", "arraycopy", "(Ljava/lang/Object;ILjava/lang/Object;II)V"⟩ : Cond) ∈ tbl := tbl_at 425 (by decide +kernel) rfl
theorem t_426 : (Cond.static ⟨"java/lang/System", "arraycopy", "(Ljava/lang/Object;ILjava/lang/Object;II)V"⟩ : Cond) ∈ tbl := tbl_at 426 (by decide +kernel) rfl
theorem t_427 : (Cond.native ⟨"java/lang/System", "arraycopy", "(Ljava/lang/Object;ILjava/lang/Object;II)V"⟩ : Cond) ∈ tbl := tbl_at 427 (by decide +kernel) rfl
theorem t_428 : (Cond.methodLink RX4 158 yX0_settleDays : Cond) ∈ tbl := tbl_at 428 (by decide +kernel) rfl
theorem t_429 : (Cond.instanceMethod yX0_settleDays : Cond) ∈ tbl := tbl_at 429 (by decide +kernel) rfl
theorem t_430 : (Cond.selects RX0 yX0_settleDays yX0_settleDays : Cond) ∈ tbl := tbl_at 430 (by decide +kernel) rfl
theorem t_431 : (Cond.code yX0_settleDays cX0_settleDays 4 none : Cond) ∈ tbl := tbl_at 431 (by decide +kernel) rfl
theorem t_432 : (Cond.methodLink RL 68 yX4_goods : Cond) ∈ tbl := tbl_at 432 (by decide +kernel) rfl
theorem t_433 : (Cond.instanceMethod yX4_goods : Cond) ∈ tbl := tbl_at 433 (by decide +kernel) rfl
theorem t_434 : (Cond.selects RX4 yX4_goods yX4_goods : Cond) ∈ tbl := tbl_at 434 (by decide +kernel) rfl
theorem t_435 : (Cond.code yX4_goods cX4_goods 3 (some FieldType.int) : Cond) ∈ tbl := tbl_at 435 (by decide +kernel) rfl
theorem t_436 : (Cond.methodLink RL 72 yX4_holder : Cond) ∈ tbl := tbl_at 436 (by decide +kernel) rfl
theorem t_437 : (Cond.instanceMethod yX4_holder : Cond) ∈ tbl := tbl_at 437 (by decide +kernel) rfl
theorem t_438 : (Cond.selects RX4 yX4_holder yX4_holder : Cond) ∈ tbl := tbl_at 438 (by decide +kernel) rfl
theorem t_439 : (Cond.code yX4_holder cX4_holder 3 (some FieldType.int) : Cond) ∈ tbl := tbl_at 439 (by decide +kernel) rfl
theorem t_440 : (Cond.methodLink RL 76 yX4_when : Cond) ∈ tbl := tbl_at 440 (by decide +kernel) rfl
theorem t_441 : (Cond.instanceMethod yX4_when : Cond) ∈ tbl := tbl_at 441 (by decide +kernel) rfl
theorem t_442 : (Cond.selects RX4 yX4_when yX4_when : Cond) ∈ tbl := tbl_at 442 (by decide +kernel) rfl
theorem t_443 : (Cond.code yX4_when cX4_when 4 (some FieldType.int) : Cond) ∈ tbl := tbl_at 443 (by decide +kernel) rfl
theorem t_444 : (Cond.methodLink RX4 161 yX0_passDay : Cond) ∈ tbl := tbl_at 444 (by decide +kernel) rfl
theorem t_445 : (Cond.methodLink RL 80 yX4_clash : Cond) ∈ tbl := tbl_at 445 (by decide +kernel) rfl
theorem t_446 : (Cond.instanceMethod yX4_clash : Cond) ∈ tbl := tbl_at 446 (by decide +kernel) rfl
theorem t_447 : (Cond.selects RX4 yX4_clash yX4_clash : Cond) ∈ tbl := tbl_at 447 (by decide +kernel) rfl
theorem t_448 : (Cond.code yX4_clash cX4_clash 2 (some FieldType.int) : Cond) ∈ tbl := tbl_at 448 (by decide +kernel) rfl
theorem t_449 : (Cond.methodLink RX4 164 yX0_isHeldLike : Cond) ∈ tbl := tbl_at 449 (by decide +kernel) rfl
theorem t_450 : (Cond.instanceMethod yX0_isHeldLike : Cond) ∈ tbl := tbl_at 450 (by decide +kernel) rfl
theorem t_451 : (Cond.selects RX0 yX0_isHeldLike yX0_isHeldLike : Cond) ∈ tbl := tbl_at 451 (by decide +kernel) rfl
theorem t_452 : (Cond.code yX0_isHeldLike cX0_isHeldLike 3 (some FieldType.boolean) : Cond) ∈ tbl := tbl_at 452 (by decide +kernel) rfl
theorem t_453 : (Cond.methodLink RL 85 yX4_rich : Cond) ∈ tbl := tbl_at 453 (by decide +kernel) rfl
theorem t_454 : (Cond.instanceMethod yX4_rich : Cond) ∈ tbl := tbl_at 454 (by decide +kernel) rfl
theorem t_455 : (Cond.selects RX4 yX4_rich yX4_rich : Cond) ∈ tbl := tbl_at 455 (by decide +kernel) rfl
theorem t_456 : (Cond.code yX4_rich cX4_rich 4 (some FieldType.int) : Cond) ∈ tbl := tbl_at 456 (by decide +kernel) rfl
theorem t_457 : (Cond.methodLink RL 89 yX4_seat : Cond) ∈ tbl := tbl_at 457 (by decide +kernel) rfl
theorem t_458 : (Cond.instanceMethod yX4_seat : Cond) ∈ tbl := tbl_at 458 (by decide +kernel) rfl
theorem t_459 : (Cond.selects RX4 yX4_seat yX4_seat : Cond) ∈ tbl := tbl_at 459 (by decide +kernel) rfl
theorem t_460 : (Cond.code yX4_seat cX4_seat 3 (some FieldType.int) : Cond) ∈ tbl := tbl_at 460 (by decide +kernel) rfl
theorem t_461 : (Cond.methodLink RX4 168 yX4_bestFor : Cond) ∈ tbl := tbl_at 461 (by decide +kernel) rfl
theorem t_463 : (Cond.instanceMethod yX4_bestFor : Cond) ∈ tbl := tbl_at 463 (by decide +kernel) rfl
theorem t_464 : (Cond.code yX4_bestFor cX4_bestFor 9 (some FieldType.int) : Cond) ∈ tbl := tbl_at 464 (by decide +kernel) rfl
theorem t_465 : (Cond.methodLink RX4 258 yX4_tryOut : Cond) ∈ tbl := tbl_at 465 (by decide +kernel) rfl
theorem t_467 : (Cond.instanceMethod yX4_tryOut : Cond) ∈ tbl := tbl_at 467 (by decide +kernel) rfl
theorem t_468 : (Cond.code yX4_tryOut cX4_tryOut 4 none : Cond) ∈ tbl := tbl_at 468 (by decide +kernel) rfl
theorem t_469 : (Cond.methodLink RL 93 yX4_kindFor : Cond) ∈ tbl := tbl_at 469 (by decide +kernel) rfl
theorem t_470 : (Cond.instanceMethod yX4_kindFor : Cond) ∈ tbl := tbl_at 470 (by decide +kernel) rfl
theorem t_471 : (Cond.selects RX4 yX4_kindFor yX4_kindFor : Cond) ∈ tbl := tbl_at 471 (by decide +kernel) rfl
theorem t_472 : (Cond.code yX4_kindFor cX4_kindFor 3 (some FieldType.int) : Cond) ∈ tbl := tbl_at 472 (by decide +kernel) rfl
theorem t_473 : (Cond.methodLink RL 97 yX4_draught : Cond) ∈ tbl := tbl_at 473 (by decide +kernel) rfl
theorem t_474 : (Cond.instanceMethod yX4_draught : Cond) ∈ tbl := tbl_at 474 (by decide +kernel) rfl
theorem t_475 : (Cond.selects RX4 yX4_draught yX4_draught : Cond) ∈ tbl := tbl_at 475 (by decide +kernel) rfl
theorem t_476 : (Cond.code yX4_draught cX4_draught 3 (some FieldType.int) : Cond) ∈ tbl := tbl_at 476 (by decide +kernel) rfl
theorem t_477 : (Cond.methodLink RL 101 yX4_fallFor : Cond) ∈ tbl := tbl_at 477 (by decide +kernel) rfl
theorem t_478 : (Cond.instanceMethod yX4_fallFor : Cond) ∈ tbl := tbl_at 478 (by decide +kernel) rfl
theorem t_479 : (Cond.selects RX4 yX4_fallFor yX4_fallFor : Cond) ∈ tbl := tbl_at 479 (by decide +kernel) rfl
theorem t_480 : (Cond.code yX4_fallFor cX4_fallFor 6 (some FieldType.int) : Cond) ∈ tbl := tbl_at 480 (by decide +kernel) rfl
theorem t_481 : (Cond.methodLink RX4 172 yX4_dustWithFall : Cond) ∈ tbl := tbl_at 481 (by decide +kernel) rfl
theorem t_483 : (Cond.instanceMethod yX4_dustWithFall : Cond) ∈ tbl := tbl_at 483 (by decide +kernel) rfl
theorem t_484 : (Cond.code yX4_dustWithFall cX4_dustWithFall 3 (some FieldType.int) : Cond) ∈ tbl := tbl_at 484 (by decide +kernel) rfl
theorem t_485 : (Cond.methodLink RL 105 yX4_swapFor : Cond) ∈ tbl := tbl_at 485 (by decide +kernel) rfl
theorem t_486 : (Cond.instanceMethod yX4_swapFor : Cond) ∈ tbl := tbl_at 486 (by decide +kernel) rfl
theorem t_487 : (Cond.selects RX4 yX4_swapFor yX4_swapFor : Cond) ∈ tbl := tbl_at 487 (by decide +kernel) rfl
theorem t_488 : (Cond.code yX4_swapFor cX4_swapFor 3 (some FieldType.int) : Cond) ∈ tbl := tbl_at 488 (by decide +kernel) rfl
theorem t_489 : (Cond.methodLink RL 109 yX4_brooms : Cond) ∈ tbl := tbl_at 489 (by decide +kernel) rfl
theorem t_490 : (Cond.instanceMethod yX4_brooms : Cond) ∈ tbl := tbl_at 490 (by decide +kernel) rfl
theorem t_491 : (Cond.selects RX4 yX4_brooms yX4_brooms : Cond) ∈ tbl := tbl_at 491 (by decide +kernel) rfl
theorem t_492 : (Cond.code yX4_brooms cX4_brooms 6 (some FieldType.int) : Cond) ∈ tbl := tbl_at 492 (by decide +kernel) rfl
theorem t_493 : (Cond.methodLink RX4 175 yX4_dustSweptBy : Cond) ∈ tbl := tbl_at 493 (by decide +kernel) rfl
theorem t_495 : (Cond.instanceMethod yX4_dustSweptBy : Cond) ∈ tbl := tbl_at 495 (by decide +kernel) rfl
theorem t_496 : (Cond.code yX4_dustSweptBy cX4_dustSweptBy 3 (some FieldType.int) : Cond) ∈ tbl := tbl_at 496 (by decide +kernel) rfl
theorem t_497 : (Cond.methodLink RX4 178 yJ6_bitCount_0f7a4 : Cond) ∈ tbl := tbl_at 497 (by decide +kernel) rfl
theorem t_498 : (Cond.static yJ6_bitCount_0f7a4 : Cond) ∈ tbl := tbl_at 498 (by decide +kernel) rfl
theorem t_499 : (Cond.code yJ6_bitCount_0f7a4 cJ6_bitCount_0f7a4 1 (some FieldType.int) : Cond) ∈ tbl := tbl_at 499 (by decide +kernel) rfl
theorem t_500 : (Cond.constant RJ6 265 (1431655765) : Cond) ∈ tbl := tbl_at 500 (by decide +kernel) rfl
theorem t_501 : (Cond.constant RJ6 266 (858993459) : Cond) ∈ tbl := tbl_at 501 (by decide +kernel) rfl
theorem t_502 : (Cond.constant RJ6 267 (252645135) : Cond) ∈ tbl := tbl_at 502 (by decide +kernel) rfl
theorem t_503 : (Cond.methodLink RL 113 yX4_without : Cond) ∈ tbl := tbl_at 503 (by decide +kernel) rfl
theorem t_504 : (Cond.instanceMethod yX4_without : Cond) ∈ tbl := tbl_at 504 (by decide +kernel) rfl
theorem t_505 : (Cond.selects RX4 yX4_without yX4_without : Cond) ∈ tbl := tbl_at 505 (by decide +kernel) rfl
theorem t_506 : (Cond.code yX4_without cX4_without 6 (some FieldType.int) : Cond) ∈ tbl := tbl_at 506 (by decide +kernel) rfl
theorem t_507 : (Cond.methodLink RL 117 yX4_fits : Cond) ∈ tbl := tbl_at 507 (by decide +kernel) rfl
theorem t_508 : (Cond.instanceMethod yX4_fits : Cond) ∈ tbl := tbl_at 508 (by decide +kernel) rfl
theorem t_509 : (Cond.selects RX4 yX4_fits yX4_fits : Cond) ∈ tbl := tbl_at 509 (by decide +kernel) rfl
theorem t_510 : (Cond.code yX4_fits cX4_fits 4 (some FieldType.int) : Cond) ∈ tbl := tbl_at 510 (by decide +kernel) rfl
theorem t_511 : (Cond.methodLink RX4 183 yX4_refuseTold : Cond) ∈ tbl := tbl_at 511 (by decide +kernel) rfl
theorem t_513 : (Cond.instanceMethod yX4_refuseTold : Cond) ∈ tbl := tbl_at 513 (by decide +kernel) rfl
theorem t_514 : (Cond.code yX4_refuseTold cX4_refuseTold 3 (some FieldType.int) : Cond) ∈ tbl := tbl_at 514 (by decide +kernel) rfl
theorem t_515 : (Cond.methodLink RX4 223 yX4_isSheet : Cond) ∈ tbl := tbl_at 515 (by decide +kernel) rfl
theorem t_516 : (Cond.static yX4_isSheet : Cond) ∈ tbl := tbl_at 516 (by decide +kernel) rfl
theorem t_517 : (Cond.code yX4_isSheet cX4_isSheet 1 (some FieldType.boolean) : Cond) ∈ tbl := tbl_at 517 (by decide +kernel) rfl
theorem t_518 : (Cond.methodLink RX4 186 yX4_allThatFit : Cond) ∈ tbl := tbl_at 518 (by decide +kernel) rfl
theorem t_520 : (Cond.instanceMethod yX4_allThatFit : Cond) ∈ tbl := tbl_at 520 (by decide +kernel) rfl
theorem t_521 : (Cond.code yX4_allThatFit cX4_allThatFit 7 (some FieldType.int) : Cond) ∈ tbl := tbl_at 521 (by decide +kernel) rfl
theorem t_522 : (Cond.methodLink RX4 262 yX4_hasGoodsAsTold : Cond) ∈ tbl := tbl_at 522 (by decide +kernel) rfl
theorem t_524 : (Cond.instanceMethod yX4_hasGoodsAsTold : Cond) ∈ tbl := tbl_at 524 (by decide +kernel) rfl
theorem t_525 : (Cond.code yX4_hasGoodsAsTold cX4_hasGoodsAsTold 5 (some FieldType.boolean) : Cond) ∈ tbl := tbl_at 525 (by decide +kernel) rfl
theorem t_526 : (Cond.methodLink RL 121 yX4_kinds : Cond) ∈ tbl := tbl_at 526 (by decide +kernel) rfl
theorem t_527 : (Cond.instanceMethod yX4_kinds : Cond) ∈ tbl := tbl_at 527 (by decide +kernel) rfl
theorem t_528 : (Cond.selects RX4 yX4_kinds yX4_kinds : Cond) ∈ tbl := tbl_at 528 (by decide +kernel) rfl
theorem t_529 : (Cond.code yX4_kinds cX4_kinds 4 (some FieldType.int) : Cond) ∈ tbl := tbl_at 529 (by decide +kernel) rfl
theorem t_530 : (Cond.methodLink RL 125 yX4_sneezes : Cond) ∈ tbl := tbl_at 530 (by decide +kernel) rfl
theorem t_531 : (Cond.instanceMethod yX4_sneezes : Cond) ∈ tbl := tbl_at 531 (by decide +kernel) rfl
theorem t_532 : (Cond.selects RX4 yX4_sneezes yX4_sneezes : Cond) ∈ tbl := tbl_at 532 (by decide +kernel) rfl
theorem t_533 : (Cond.code yX4_sneezes cX4_sneezes 3 (some FieldType.int) : Cond) ∈ tbl := tbl_at 533 (by decide +kernel) rfl
theorem t_534 : (Cond.methodLink RX4 190 yX0_draw : Cond) ∈ tbl := tbl_at 534 (by decide +kernel) rfl
theorem t_535 : (Cond.instanceMethod yX0_draw : Cond) ∈ tbl := tbl_at 535 (by decide +kernel) rfl
theorem t_536 : (Cond.selects RX0 yX0_draw yX0_draw : Cond) ∈ tbl := tbl_at 536 (by decide +kernel) rfl
theorem t_537 : (Cond.code yX0_draw cX0_draw 1 (some FieldType.int) : Cond) ∈ tbl := tbl_at 537 (by decide +kernel) rfl
theorem t_538 : (Cond.constant RX0 64 (1103515245) : Cond) ∈ tbl := tbl_at 538 (by decide +kernel) rfl
theorem t_539 : (Cond.methodLink RL 129 yX4_odds : Cond) ∈ tbl := tbl_at 539 (by decide +kernel) rfl
theorem t_540 : (Cond.instanceMethod yX4_odds : Cond) ∈ tbl := tbl_at 540 (by decide +kernel) rfl
theorem t_541 : (Cond.selects RX4 yX4_odds yX4_odds : Cond) ∈ tbl := tbl_at 541 (by decide +kernel) rfl
theorem t_542 : (Cond.code yX4_odds cX4_odds 9 (some FieldType.long) : Cond) ∈ tbl := tbl_at 542 (by decide +kernel) rfl
theorem t_543 : (Cond.methodLink RX4 193 yX4_greatestDivisor : Cond) ∈ tbl := tbl_at 543 (by decide +kernel) rfl
theorem t_544 : (Cond.static yX4_greatestDivisor : Cond) ∈ tbl := tbl_at 544 (by decide +kernel) rfl
theorem t_545 : (Cond.code yX4_greatestDivisor cX4_greatestDivisor 3 (some FieldType.int) : Cond) ∈ tbl := tbl_at 545 (by decide +kernel) rfl
theorem t_546 : (Cond.methodLink RL 134 yX4_seed : Cond) ∈ tbl := tbl_at 546 (by decide +kernel) rfl
theorem t_547 : (Cond.instanceMethod yX4_seed : Cond) ∈ tbl := tbl_at 547 (by decide +kernel) rfl
theorem t_548 : (Cond.selects RX4 yX4_seed yX4_seed : Cond) ∈ tbl := tbl_at 548 (by decide +kernel) rfl
theorem t_549 : (Cond.code yX4_seed cX4_seed 3 (some FieldType.int) : Cond) ∈ tbl := tbl_at 549 (by decide +kernel) rfl
theorem t_550 : (Cond.methodLink RL 138 yX4_feed : Cond) ∈ tbl := tbl_at 550 (by decide +kernel) rfl
theorem t_551 : (Cond.instanceMethod yX4_feed : Cond) ∈ tbl := tbl_at 551 (by decide +kernel) rfl
theorem t_552 : (Cond.selects RX4 yX4_feed yX4_feed : Cond) ∈ tbl := tbl_at 552 (by decide +kernel) rfl
theorem t_553 : (Cond.code yX4_feed cX4_feed 3 (some FieldType.int) : Cond) ∈ tbl := tbl_at 553 (by decide +kernel) rfl
theorem t_554 : (Cond.methodLink RX4 202 yX2_append : Cond) ∈ tbl := tbl_at 554 (by decide +kernel) rfl
theorem t_555 : (Cond.instanceMethod yX2_append : Cond) ∈ tbl := tbl_at 555 (by decide +kernel) rfl
theorem t_556 : (Cond.selects RX2 yX2_append yX2_append : Cond) ∈ tbl := tbl_at 556 (by decide +kernel) rfl
theorem t_557 : (Cond.code yX2_append cX2_append 4 none : Cond) ∈ tbl := tbl_at 557 (by decide +kernel) rfl
theorem t_558 : (Cond.methodLink RL 142 yX4_wipe : Cond) ∈ tbl := tbl_at 558 (by decide +kernel) rfl
theorem t_559 : (Cond.instanceMethod yX4_wipe : Cond) ∈ tbl := tbl_at 559 (by decide +kernel) rfl
theorem t_560 : (Cond.selects RX4 yX4_wipe yX4_wipe : Cond) ∈ tbl := tbl_at 560 (by decide +kernel) rfl
theorem t_561 : (Cond.code yX4_wipe cX4_wipe 2 (some FieldType.int) : Cond) ∈ tbl := tbl_at 561 (by decide +kernel) rfl
theorem t_562 : (Cond.methodLink RL 146 yX4_text : Cond) ∈ tbl := tbl_at 562 (by decide +kernel) rfl
theorem t_563 : (Cond.instanceMethod yX4_text : Cond) ∈ tbl := tbl_at 563 (by decide +kernel) rfl
theorem t_564 : (Cond.selects RX4 yX4_text yX4_text : Cond) ∈ tbl := tbl_at 564 (by decide +kernel) rfl
theorem t_565 : (Cond.code yX4_text cX4_text 2 (some FieldType.int) : Cond) ∈ tbl := tbl_at 565 (by decide +kernel) rfl
theorem t_566 : (Cond.methodLink RX4 205 yX3_split : Cond) ∈ tbl := tbl_at 566 (by decide +kernel) rfl
theorem t_567 : (Cond.instanceMethod yX3_split : Cond) ∈ tbl := tbl_at 567 (by decide +kernel) rfl
theorem t_568 : (Cond.selects RX3 yX3_split yX3_split : Cond) ∈ tbl := tbl_at 568 (by decide +kernel) rfl
theorem t_569 : (Cond.code yX3_split cX3_split 6 none : Cond) ∈ tbl := tbl_at 569 (by decide +kernel) rfl
theorem t_570 : (Cond.methodLink RX3 36 yX3_typeOf : Cond) ∈ tbl := tbl_at 570 (by decide +kernel) rfl
theorem t_571 : (Cond.static yX3_typeOf : Cond) ∈ tbl := tbl_at 571 (by decide +kernel) rfl
theorem t_572 : (Cond.code yX3_typeOf cX3_typeOf 1 (some FieldType.int) : Cond) ∈ tbl := tbl_at 572 (by decide +kernel) rfl
theorem t_573 : (Cond.methodLink RX3 40 yX3_valueAt : Cond) ∈ tbl := tbl_at 573 (by decide +kernel) rfl
theorem t_574 : (Cond.static yX3_valueAt : Cond) ∈ tbl := tbl_at 574 (by decide +kernel) rfl
theorem t_575 : (Cond.code yX3_valueAt cX3_valueAt 3 (some FieldType.int) : Cond) ∈ tbl := tbl_at 575 (by decide +kernel) rfl
theorem t_576 : (Cond.methodLink RX3 48 yX3_wordAt : Cond) ∈ tbl := tbl_at 576 (by decide +kernel) rfl
theorem t_577 : (Cond.static yX3_wordAt : Cond) ∈ tbl := tbl_at 577 (by decide +kernel) rfl
theorem t_578 : (Cond.code yX3_wordAt cX3_wordAt 4 (some FieldType.int) : Cond) ∈ tbl := tbl_at 578 (by decide +kernel) rfl
theorem t_579 : (Cond.methodLink RX3 55 yX2_endOfRun : Cond) ∈ tbl := tbl_at 579 (by decide +kernel) rfl
theorem t_580 : (Cond.instanceMethod yX2_endOfRun : Cond) ∈ tbl := tbl_at 580 (by decide +kernel) rfl
theorem t_581 : (Cond.selects RX2 yX2_endOfRun yX2_endOfRun : Cond) ∈ tbl := tbl_at 581 (by decide +kernel) rfl
theorem t_582 : (Cond.code yX2_endOfRun cX2_endOfRun 4 (some FieldType.int) : Cond) ∈ tbl := tbl_at 582 (by decide +kernel) rfl
theorem t_583 : (Cond.methodLink RX2 19 yX3_typeOf : Cond) ∈ tbl := tbl_at 583 (by decide +kernel) rfl
theorem t_584 : (Cond.methodLink RX3 58 yX3_nameOf : Cond) ∈ tbl := tbl_at 584 (by decide +kernel) rfl
theorem t_585 : (Cond.static yX3_nameOf : Cond) ∈ tbl := tbl_at 585 (by decide +kernel) rfl
theorem t_586 : (Cond.code yX3_nameOf cX3_nameOf 1 (some (FieldType.object "java/lang/String")) : Cond) ∈ tbl := tbl_at 586 (by decide +kernel) rfl
theorem t_601 : (Cond.methodLink RX3 62 yX2_spells : Cond) ∈ tbl := tbl_at 601 (by decide +kernel) rfl
theorem t_602 : (Cond.instanceMethod yX2_spells : Cond) ∈ tbl := tbl_at 602 (by decide +kernel) rfl
theorem t_603 : (Cond.selects RX2 yX2_spells yX2_spells : Cond) ∈ tbl := tbl_at 603 (by decide +kernel) rfl
theorem t_604 : (Cond.code yX2_spells cX2_spells 5 (some FieldType.boolean) : Cond) ∈ tbl := tbl_at 604 (by decide +kernel) rfl
theorem t_605 : (Cond.methodLink RX2 25 yJ0_length_8abf5 : Cond) ∈ tbl := tbl_at 605 (by decide +kernel) rfl
theorem t_606 : (Cond.instanceMethod yJ0_length_8abf5 : Cond) ∈ tbl := tbl_at 606 (by decide +kernel) rfl
theorem t_607 : (Cond.selects RJ0 yJ0_length_8abf5 yJ0_length_8abf5 : Cond) ∈ tbl := tbl_at 607 (by decide +kernel) rfl
theorem t_608 : (Cond.code yJ0_length_8abf5 cJ0_length_8abf5 1 (some FieldType.int) : Cond) ∈ tbl := tbl_at 608 (by decide +kernel) rfl
theorem t_609 : (Cond.methodLink RJ0 335 yJ0_coder_7d493 : Cond) ∈ tbl := tbl_at 609 (by decide +kernel) rfl
theorem t_610 : (Cond.instanceMethod yJ0_coder_7d493 : Cond) ∈ tbl := tbl_at 610 (by decide +kernel) rfl
theorem t_611 : (Cond.selects RJ0 yJ0_coder_7d493 yJ0_coder_7d493 : Cond) ∈ tbl := tbl_at 611 (by decide +kernel) rfl
theorem t_612 : (Cond.code yJ0_coder_7d493 cJ0_coder_7d493 1 (some FieldType.byte) : Cond) ∈ tbl := tbl_at 612 (by decide +kernel) rfl
theorem t_613 : (Cond.fieldLink RJ0 38 "java/lang/String" "COMPACT_STRINGS" "Z" : Cond) ∈ tbl := tbl_at 613 (by decide +kernel) rfl
theorem t_615 : (Cond.methodLink RX2 30 yJ0_charAt_5068e : Cond) ∈ tbl := tbl_at 615 (by decide +kernel) rfl
theorem t_616 : (Cond.instanceMethod yJ0_charAt_5068e : Cond) ∈ tbl := tbl_at 616 (by decide +kernel) rfl
theorem t_617 : (Cond.selects RJ0 yJ0_charAt_5068e yJ0_charAt_5068e : Cond) ∈ tbl := tbl_at 617 (by decide +kernel) rfl
theorem t_618 : (Cond.code yJ0_charAt_5068e cJ0_charAt_5068e 2 (some FieldType.char) : Cond) ∈ tbl := tbl_at 618 (by decide +kernel) rfl
theorem t_619 : (Cond.methodLink RJ0 492 yJ0_isLatin1_aae02 : Cond) ∈ tbl := tbl_at 619 (by decide +kernel) rfl
theorem t_620 : (Cond.instanceMethod yJ0_isLatin1_aae02 : Cond) ∈ tbl := tbl_at 620 (by decide +kernel) rfl
theorem t_621 : (Cond.selects RJ0 yJ0_isLatin1_aae02 yJ0_isLatin1_aae02 : Cond) ∈ tbl := tbl_at 621 (by decide +kernel) rfl
theorem t_622 : (Cond.code yJ0_isLatin1_aae02 cJ0_isLatin1_aae02 1 (some FieldType.boolean) : Cond) ∈ tbl := tbl_at 622 (by decide +kernel) rfl
theorem t_623 : (Cond.methodLink RJ0 495 yJ1_charAt_3b067 : Cond) ∈ tbl := tbl_at 623 (by decide +kernel) rfl
theorem t_624 : (Cond.static yJ1_charAt_3b067 : Cond) ∈ tbl := tbl_at 624 (by decide +kernel) rfl
theorem t_625 : (Cond.code yJ1_charAt_3b067 cJ1_charAt_3b067 2 (some FieldType.char) : Cond) ∈ tbl := tbl_at 625 (by decide +kernel) rfl
theorem t_626 : (Cond.methodLink RJ1 9 yJ0_checkIndex_df160 : Cond) ∈ tbl := tbl_at 626 (by decide +kernel) rfl
theorem t_627 : (Cond.static yJ0_checkIndex_df160 : Cond) ∈ tbl := tbl_at 627 (by decide +kernel) rfl
theorem t_628 : (Cond.code yJ0_checkIndex_df160 cJ0_checkIndex_df160 2 none : Cond) ∈ tbl := tbl_at 628 (by decide +kernel) rfl
theorem t_629 : (Cond.fieldLink RJ0 1053 "jdk/internal/util/Preconditions" "SIOOBE_FORMATTER" "Ljava/util/function/BiFunction;" : Cond) ∈ tbl := tbl_at 629 (by decide +kernel) rfl
theorem t_631 : (Cond.methodLink RJ0 1059 yJ3_checkIndex_8e157 : Cond) ∈ tbl := tbl_at 631 (by decide +kernel) rfl
theorem t_632 : (Cond.static yJ3_checkIndex_8e157 : Cond) ∈ tbl := tbl_at 632 (by decide +kernel) rfl
theorem t_633 : (Cond.code yJ3_checkIndex_8e157 cJ3_checkIndex_8e157 3 (some FieldType.int) : Cond) ∈ tbl := tbl_at 633 (by decide +kernel) rfl
theorem t_634 : (Cond.methodLink RJ0 498 yJ2_charAt_3b067 : Cond) ∈ tbl := tbl_at 634 (by decide +kernel) rfl
theorem t_635 : (Cond.static yJ2_charAt_3b067 : Cond) ∈ tbl := tbl_at 635 (by decide +kernel) rfl
theorem t_636 : (Cond.code yJ2_charAt_3b067 cJ2_charAt_3b067 2 (some FieldType.char) : Cond) ∈ tbl := tbl_at 636 (by decide +kernel) rfl
theorem t_637 : (Cond.methodLink RJ2 67 yJ2_checkIndex_2214a : Cond) ∈ tbl := tbl_at 637 (by decide +kernel) rfl
theorem t_638 : (Cond.static yJ2_checkIndex_2214a : Cond) ∈ tbl := tbl_at 638 (by decide +kernel) rfl
theorem t_639 : (Cond.code yJ2_checkIndex_2214a cJ2_checkIndex_2214a 2 none : Cond) ∈ tbl := tbl_at 639 (by decide +kernel) rfl
theorem t_640 : (Cond.methodLink RJ2 48 yJ2_length_9d52b : Cond) ∈ tbl := tbl_at 640 (by decide +kernel) rfl
theorem t_641 : (Cond.static yJ2_length_9d52b : Cond) ∈ tbl := tbl_at 641 (by decide +kernel) rfl
theorem t_642 : (Cond.code yJ2_length_9d52b cJ2_length_9d52b 1 (some FieldType.int) : Cond) ∈ tbl := tbl_at 642 (by decide +kernel) rfl
theorem t_643 : (Cond.methodLink RJ2 414 yJ0_checkIndex_df160 : Cond) ∈ tbl := tbl_at 643 (by decide +kernel) rfl
theorem t_644 : (Cond.methodLink RJ2 71 yJ2_getChar_3b067 : Cond) ∈ tbl := tbl_at 644 (by decide +kernel) rfl
theorem t_645 : (Cond.static yJ2_getChar_3b067 : Cond) ∈ tbl := tbl_at 645 (by decide +kernel) rfl
theorem t_646 : (Cond.code yJ2_getChar_3b067 cJ2_getChar_3b067 2 (some FieldType.char) : Cond) ∈ tbl := tbl_at 646 (by decide +kernel) rfl
theorem t_647 : (Cond.fieldLink RJ2 44 "java/lang/StringUTF16" "$assertionsDisabled" "Z" : Cond) ∈ tbl := tbl_at 647 (by decide +kernel) rfl
theorem t_649 : (Cond.fieldLink RJ2 59 "java/lang/StringUTF16" "HI_BYTE_SHIFT" "I" : Cond) ∈ tbl := tbl_at 649 (by decide +kernel) rfl
theorem t_651 : (Cond.fieldLink RJ2 63 "java/lang/StringUTF16" "LO_BYTE_SHIFT" "I" : Cond) ∈ tbl := tbl_at 651 (by decide +kernel) rfl
theorem t_653 : (Cond.methodLink RX3 52 yX3_numberAt : Cond) ∈ tbl := tbl_at 653 (by decide +kernel) rfl
theorem t_654 : (Cond.static yX3_numberAt : Cond) ∈ tbl := tbl_at 654 (by decide +kernel) rfl
theorem t_655 : (Cond.code yX3_numberAt cX3_numberAt 5 (some FieldType.int) : Cond) ∈ tbl := tbl_at 655 (by decide +kernel) rfl
theorem t_656 : (Cond.methodLink RX3 66 yJ9_min_7cf53 : Cond) ∈ tbl := tbl_at 656 (by decide +kernel) rfl
theorem t_657 : (Cond.methodLink RX3 44 yX3_add : Cond) ∈ tbl := tbl_at 657 (by decide +kernel) rfl
theorem t_659 : (Cond.instanceMethod yX3_add : Cond) ∈ tbl := tbl_at 659 (by decide +kernel) rfl
theorem t_660 : (Cond.code yX3_add cX3_add 4 none : Cond) ∈ tbl := tbl_at 660 (by decide +kernel) rfl
theorem t_661 : (Cond.methodLink RX4 209 yX3_readInto : Cond) ∈ tbl := tbl_at 661 (by decide +kernel) rfl
theorem t_662 : (Cond.instanceMethod yX3_readInto : Cond) ∈ tbl := tbl_at 662 (by decide +kernel) rfl
theorem t_663 : (Cond.selects RX3 yX3_readInto yX3_readInto : Cond) ∈ tbl := tbl_at 663 (by decide +kernel) rfl
theorem t_664 : (Cond.code yX3_readInto cX3_readInto 4 (some FieldType.int) : Cond) ∈ tbl := tbl_at 664 (by decide +kernel) rfl
theorem t_665 : (Cond.methodLink RX3 100 yX3_readItem : Cond) ∈ tbl := tbl_at 665 (by decide +kernel) rfl
theorem t_667 : (Cond.instanceMethod yX3_readItem : Cond) ∈ tbl := tbl_at 667 (by decide +kernel) rfl
theorem t_668 : (Cond.code yX3_readItem cX3_readItem 3 (some FieldType.boolean) : Cond) ∈ tbl := tbl_at 668 (by decide +kernel) rfl
theorem t_670 : (Cond.methodLink RX3 111 yX3_readTenant : Cond) ∈ tbl := tbl_at 670 (by decide +kernel) rfl
theorem t_672 : (Cond.instanceMethod yX3_readTenant : Cond) ∈ tbl := tbl_at 672 (by decide +kernel) rfl
theorem t_673 : (Cond.code yX3_readTenant cX3_readTenant 7 (some FieldType.boolean) : Cond) ∈ tbl := tbl_at 673 (by decide +kernel) rfl
theorem t_674 : (Cond.methodLink RX3 129 yX3_numberBehind : Cond) ∈ tbl := tbl_at 674 (by decide +kernel) rfl
theorem t_676 : (Cond.instanceMethod yX3_numberBehind : Cond) ∈ tbl := tbl_at 676 (by decide +kernel) rfl
theorem t_677 : (Cond.code yX3_numberBehind cX3_numberBehind 3 (some FieldType.int) : Cond) ∈ tbl := tbl_at 677 (by decide +kernel) rfl
theorem t_678 : (Cond.methodLink RX3 139 yX3_takeNumber : Cond) ∈ tbl := tbl_at 678 (by decide +kernel) rfl
theorem t_680 : (Cond.instanceMethod yX3_takeNumber : Cond) ∈ tbl := tbl_at 680 (by decide +kernel) rfl
theorem t_681 : (Cond.code yX3_takeNumber cX3_takeNumber 3 (some FieldType.int) : Cond) ∈ tbl := tbl_at 681 (by decide +kernel) rfl
theorem t_682 : (Cond.methodLink RX3 132 yX0_addTenant : Cond) ∈ tbl := tbl_at 682 (by decide +kernel) rfl
theorem t_683 : (Cond.methodLink RX3 115 yX3_readDust : Cond) ∈ tbl := tbl_at 683 (by decide +kernel) rfl
theorem t_685 : (Cond.instanceMethod yX3_readDust : Cond) ∈ tbl := tbl_at 685 (by decide +kernel) rfl
theorem t_686 : (Cond.code yX3_readDust cX3_readDust 4 (some FieldType.boolean) : Cond) ∈ tbl := tbl_at 686 (by decide +kernel) rfl
theorem t_687 : (Cond.methodLink RX3 118 yX3_readFall : Cond) ∈ tbl := tbl_at 687 (by decide +kernel) rfl
theorem t_689 : (Cond.instanceMethod yX3_readFall : Cond) ∈ tbl := tbl_at 689 (by decide +kernel) rfl
theorem t_690 : (Cond.code yX3_readFall cX3_readFall 3 (some FieldType.boolean) : Cond) ∈ tbl := tbl_at 690 (by decide +kernel) rfl
theorem t_691 : (Cond.methodLink RX3 121 yX3_readDraught : Cond) ∈ tbl := tbl_at 691 (by decide +kernel) rfl
theorem t_693 : (Cond.instanceMethod yX3_readDraught : Cond) ∈ tbl := tbl_at 693 (by decide +kernel) rfl
theorem t_694 : (Cond.code yX3_readDraught cX3_readDraught 4 (some FieldType.boolean) : Cond) ∈ tbl := tbl_at 694 (by decide +kernel) rfl
theorem t_695 : (Cond.methodLink RX3 104 yX3_takes : Cond) ∈ tbl := tbl_at 695 (by decide +kernel) rfl
theorem t_697 : (Cond.instanceMethod yX3_takes : Cond) ∈ tbl := tbl_at 697 (by decide +kernel) rfl
theorem t_698 : (Cond.code yX3_takes cX3_takes 2 (some FieldType.boolean) : Cond) ∈ tbl := tbl_at 698 (by decide +kernel) rfl
theorem t_699 : (Cond.arrayClass FieldType.byte : Cond) ∈ tbl := tbl_at 699 (by decide +kernel) rfl
theorem t_700 : (Cond.methodLink RL 150 yX4_hold : Cond) ∈ tbl := tbl_at 700 (by decide +kernel) rfl
theorem t_701 : (Cond.instanceMethod yX4_hold : Cond) ∈ tbl := tbl_at 701 (by decide +kernel) rfl
theorem t_702 : (Cond.selects RX4 yX4_hold yX4_hold : Cond) ∈ tbl := tbl_at 702 (by decide +kernel) rfl
theorem t_703 : (Cond.code yX4_hold cX4_hold 3 (some FieldType.int) : Cond) ∈ tbl := tbl_at 703 (by decide +kernel) rfl
theorem t_704 : (Cond.methodLink RX4 213 yX4_isSpot : Cond) ∈ tbl := tbl_at 704 (by decide +kernel) rfl
theorem t_705 : (Cond.static yX4_isSpot : Cond) ∈ tbl := tbl_at 705 (by decide +kernel) rfl
theorem t_706 : (Cond.code yX4_isSpot cX4_isSpot 1 (some FieldType.boolean) : Cond) ∈ tbl := tbl_at 706 (by decide +kernel) rfl
theorem t_707 : (Cond.methodLink RL 154 yX4_as : Cond) ∈ tbl := tbl_at 707 (by decide +kernel) rfl
theorem t_708 : (Cond.instanceMethod yX4_as : Cond) ∈ tbl := tbl_at 708 (by decide +kernel) rfl
theorem t_709 : (Cond.selects RX4 yX4_as yX4_as : Cond) ∈ tbl := tbl_at 709 (by decide +kernel) rfl
theorem t_710 : (Cond.code yX4_as cX4_as 4 (some FieldType.int) : Cond) ∈ tbl := tbl_at 710 (by decide +kernel) rfl
theorem t_711 : (Cond.methodLink RX4 219 yX4_isOfKind : Cond) ∈ tbl := tbl_at 711 (by decide +kernel) rfl
theorem t_712 : (Cond.static yX4_isOfKind : Cond) ∈ tbl := tbl_at 712 (by decide +kernel) rfl
theorem t_713 : (Cond.code yX4_isOfKind cX4_isOfKind 4 (some FieldType.boolean) : Cond) ∈ tbl := tbl_at 713 (by decide +kernel) rfl
theorem t_714 : (Cond.fieldLink RX4 255 "DustLand" "ABOVE" "[I" : Cond) ∈ tbl := tbl_at 714 (by decide +kernel) rfl
theorem t_716 : (Cond.methodLink RL 158 yX4_sheet : Cond) ∈ tbl := tbl_at 716 (by decide +kernel) rfl
theorem t_717 : (Cond.instanceMethod yX4_sheet : Cond) ∈ tbl := tbl_at 717 (by decide +kernel) rfl
theorem t_718 : (Cond.selects RX4 yX4_sheet yX4_sheet : Cond) ∈ tbl := tbl_at 718 (by decide +kernel) rfl
theorem t_719 : (Cond.code yX4_sheet cX4_sheet 4 (some FieldType.int) : Cond) ∈ tbl := tbl_at 719 (by decide +kernel) rfl
theorem t_720 : (Cond.methodLink RX4 226 yX1_renew : Cond) ∈ tbl := tbl_at 720 (by decide +kernel) rfl
theorem t_721 : (Cond.instanceMethod yX1_renew : Cond) ∈ tbl := tbl_at 721 (by decide +kernel) rfl
theorem t_722 : (Cond.selects RX1 yX1_renew yX1_renew : Cond) ∈ tbl := tbl_at 722 (by decide +kernel) rfl
theorem t_723 : (Cond.code yX1_renew cX1_renew 4 (some FieldType.int) : Cond) ∈ tbl := tbl_at 723 (by decide +kernel) rfl
theorem t_724 : (Cond.methodLink RL 162 yX4_write : Cond) ∈ tbl := tbl_at 724 (by decide +kernel) rfl
theorem t_725 : (Cond.instanceMethod yX4_write : Cond) ∈ tbl := tbl_at 725 (by decide +kernel) rfl
theorem t_726 : (Cond.selects RX4 yX4_write yX4_write : Cond) ∈ tbl := tbl_at 726 (by decide +kernel) rfl
theorem t_727 : (Cond.code yX4_write cX4_write 4 (some FieldType.int) : Cond) ∈ tbl := tbl_at 727 (by decide +kernel) rfl
theorem t_728 : (Cond.methodLink RX4 233 yX1_put : Cond) ∈ tbl := tbl_at 728 (by decide +kernel) rfl
theorem t_729 : (Cond.instanceMethod yX1_put : Cond) ∈ tbl := tbl_at 729 (by decide +kernel) rfl
theorem t_730 : (Cond.selects RX1 yX1_put yX1_put : Cond) ∈ tbl := tbl_at 730 (by decide +kernel) rfl
theorem t_731 : (Cond.code yX1_put cX1_put 4 none : Cond) ∈ tbl := tbl_at 731 (by decide +kernel) rfl
theorem t_732 : (Cond.methodLink RL 166 yX4_copy : Cond) ∈ tbl := tbl_at 732 (by decide +kernel) rfl
theorem t_733 : (Cond.instanceMethod yX4_copy : Cond) ∈ tbl := tbl_at 733 (by decide +kernel) rfl
theorem t_734 : (Cond.selects RX4 yX4_copy yX4_copy : Cond) ∈ tbl := tbl_at 734 (by decide +kernel) rfl
theorem t_735 : (Cond.code yX4_copy cX4_copy 6 (some FieldType.int) : Cond) ∈ tbl := tbl_at 735 (by decide +kernel) rfl
theorem t_736 : (Cond.methodLink RX4 235 yX1_has : Cond) ∈ tbl := tbl_at 736 (by decide +kernel) rfl
theorem t_737 : (Cond.instanceMethod yX1_has : Cond) ∈ tbl := tbl_at 737 (by decide +kernel) rfl
theorem t_738 : (Cond.selects RX1 yX1_has yX1_has : Cond) ∈ tbl := tbl_at 738 (by decide +kernel) rfl
theorem t_739 : (Cond.code yX1_has cX1_has 3 (some FieldType.boolean) : Cond) ∈ tbl := tbl_at 739 (by decide +kernel) rfl
theorem t_740 : (Cond.methodLink RX4 241 ⟨"java/lang/System", "arraycopy", "(Ljava/lang/Object;ILjava/lang/Object;II)V"⟩ : Cond) ∈ tbl := tbl_at 740 (by decide +kernel) rfl
theorem t_741 : (Cond.methodLink RL 171 yX4_load : Cond) ∈ tbl := tbl_at 741 (by decide +kernel) rfl
theorem t_742 : (Cond.instanceMethod yX4_load : Cond) ∈ tbl := tbl_at 742 (by decide +kernel) rfl
theorem t_743 : (Cond.selects RX4 yX4_load yX4_load : Cond) ∈ tbl := tbl_at 743 (by decide +kernel) rfl
theorem t_744 : (Cond.code yX4_load cX4_load 4 (some FieldType.int) : Cond) ∈ tbl := tbl_at 744 (by decide +kernel) rfl
theorem t_745 : (Cond.methodLink RL 175 yX4_judge : Cond) ∈ tbl := tbl_at 745 (by decide +kernel) rfl
theorem t_746 : (Cond.instanceMethod yX4_judge : Cond) ∈ tbl := tbl_at 746 (by decide +kernel) rfl
theorem t_747 : (Cond.selects RX4 yX4_judge yX4_judge : Cond) ∈ tbl := tbl_at 747 (by decide +kernel) rfl
theorem t_748 : (Cond.code yX4_judge cX4_judge 4 (some FieldType.int) : Cond) ∈ tbl := tbl_at 748 (by decide +kernel) rfl
theorem t_749 : (Cond.methodLink RL 179 yX4_image : Cond) ∈ tbl := tbl_at 749 (by decide +kernel) rfl
theorem t_750 : (Cond.instanceMethod yX4_image : Cond) ∈ tbl := tbl_at 750 (by decide +kernel) rfl
theorem t_751 : (Cond.selects RX4 yX4_image yX4_image : Cond) ∈ tbl := tbl_at 751 (by decide +kernel) rfl
theorem t_752 : (Cond.code yX4_image cX4_image 1 (some FieldType.int) : Cond) ∈ tbl := tbl_at 752 (by decide +kernel) rfl
theorem t_753 : (Cond.methodLink RL 183 yX4_undo : Cond) ∈ tbl := tbl_at 753 (by decide +kernel) rfl
theorem t_754 : (Cond.instanceMethod yX4_undo : Cond) ∈ tbl := tbl_at 754 (by decide +kernel) rfl
theorem t_755 : (Cond.selects RX4 yX4_undo yX4_undo : Cond) ∈ tbl := tbl_at 755 (by decide +kernel) rfl
theorem t_756 : (Cond.code yX4_undo cX4_undo 1 (some FieldType.int) : Cond) ∈ tbl := tbl_at 756 (by decide +kernel) rfl
theorem t_757 : (Cond.methodLink RL 187 yX4_tear : Cond) ∈ tbl := tbl_at 757 (by decide +kernel) rfl
theorem t_758 : (Cond.instanceMethod yX4_tear : Cond) ∈ tbl := tbl_at 758 (by decide +kernel) rfl
theorem t_759 : (Cond.selects RX4 yX4_tear yX4_tear : Cond) ∈ tbl := tbl_at 759 (by decide +kernel) rfl
theorem t_760 : (Cond.code yX4_tear cX4_tear 2 (some FieldType.int) : Cond) ∈ tbl := tbl_at 760 (by decide +kernel) rfl
theorem t_761 : (Cond.methodLink RL 191 yX4_count : Cond) ∈ tbl := tbl_at 761 (by decide +kernel) rfl
theorem t_762 : (Cond.instanceMethod yX4_count : Cond) ∈ tbl := tbl_at 762 (by decide +kernel) rfl
theorem t_763 : (Cond.selects RX4 yX4_count yX4_count : Cond) ∈ tbl := tbl_at 763 (by decide +kernel) rfl
theorem t_764 : (Cond.code yX4_count cX4_count 2 (some FieldType.int) : Cond) ∈ tbl := tbl_at 764 (by decide +kernel) rfl
theorem t_765 : (Cond.methodLink RX4 247 yX0_usedSpots : Cond) ∈ tbl := tbl_at 765 (by decide +kernel) rfl
theorem t_766 : (Cond.instanceMethod yX0_usedSpots : Cond) ∈ tbl := tbl_at 766 (by decide +kernel) rfl
theorem t_767 : (Cond.selects RX0 yX0_usedSpots yX0_usedSpots : Cond) ∈ tbl := tbl_at 767 (by decide +kernel) rfl
theorem t_768 : (Cond.code yX0_usedSpots cX0_usedSpots 6 (some FieldType.int) : Cond) ∈ tbl := tbl_at 768 (by decide +kernel) rfl
theorem t_769 : (Cond.methodLink RL 195 yX4_status : Cond) ∈ tbl := tbl_at 769 (by decide +kernel) rfl
theorem t_770 : (Cond.instanceMethod yX4_status : Cond) ∈ tbl := tbl_at 770 (by decide +kernel) rfl
theorem t_771 : (Cond.selects RX4 yX4_status yX4_status : Cond) ∈ tbl := tbl_at 771 (by decide +kernel) rfl
theorem t_772 : (Cond.code yX4_status cX4_status 2 (some FieldType.int) : Cond) ∈ tbl := tbl_at 772 (by decide +kernel) rfl
theorem t_773 : (Cond.methodLink RX4 250 yX4_sumOf : Cond) ∈ tbl := tbl_at 773 (by decide +kernel) rfl
theorem t_774 : (Cond.classLink RL 10 RX5 : Cond) ∈ tbl := tbl_at 774 (by decide +kernel) rfl
theorem t_775 : (Cond.instantiable RX5 19 : Cond) ∈ tbl := tbl_at 775 (by decide +kernel) rfl
theorem t_776 : (Cond.methodLink RL 12 yX5_init : Cond) ∈ tbl := tbl_at 776 (by decide +kernel) rfl
theorem t_777 : (Cond.instanceMethod yX5_init : Cond) ∈ tbl := tbl_at 777 (by decide +kernel) rfl
theorem t_778 : (Cond.code yX5_init cX5_init 2 none : Cond) ∈ tbl := tbl_at 778 (by decide +kernel) rfl
theorem t_779 : (Cond.methodLink RX5 1 objectInit : Cond) ∈ tbl := tbl_at 779 (by decide +kernel) rfl
theorem t_780 : (Cond.fieldLink RX5 7 "DustLandModel" "s" "[I" : Cond) ∈ tbl := tbl_at 780 (by decide +kernel) rfl
theorem t_781 : (Cond.fieldLink RX5 13 "DustLandModel" "keptS" "[I" : Cond) ∈ tbl := tbl_at 781 (by decide +kernel) rfl
theorem t_782 : (Cond.fieldLink RX5 16 "DustLandModel" "other" "[I" : Cond) ∈ tbl := tbl_at 782 (by decide +kernel) rfl
theorem t_783 : (Cond.fieldLink RX5 19 "DustLandModel" "aside" "[I" : Cond) ∈ tbl := tbl_at 783 (by decide +kernel) rfl
theorem t_784 : (Cond.fieldLink RX5 22 "DustLandModel" "statuses" "[I" : Cond) ∈ tbl := tbl_at 784 (by decide +kernel) rfl
theorem t_785 : (Cond.fieldLink RX5 353 "DustLandModel" "isKept" "Z" : Cond) ∈ tbl := tbl_at 785 (by decide +kernel) rfl
theorem t_786 : (Cond.fieldLink RX5 25 "DustLandModel" "sweepers" "I" : Cond) ∈ tbl := tbl_at 786 (by decide +kernel) rfl
theorem t_787 : (Cond.fieldLink RX5 29 "DustLandModel" "then" "[I" : Cond) ∈ tbl := tbl_at 787 (by decide +kernel) rfl
theorem t_788 : (Cond.fieldLink RX5 32 "DustLandModel" "held" "[I" : Cond) ∈ tbl := tbl_at 788 (by decide +kernel) rfl
theorem t_789 : (Cond.fieldLink RX5 35 "DustLandModel" "tape" "[I" : Cond) ∈ tbl := tbl_at 789 (by decide +kernel) rfl
theorem t_790 : (Cond.fieldLink RX5 234 "DustLandModel" "taped" "I" : Cond) ∈ tbl := tbl_at 790 (by decide +kernel) rfl
theorem t_791 : (Cond.fieldLink RX5 248 "DustLandModel" "from" "I" : Cond) ∈ tbl := tbl_at 791 (by decide +kernel) rfl
theorem t_792 : (Cond.fieldLink RX5 245 "DustLandModel" "to" "I" : Cond) ∈ tbl := tbl_at 792 (by decide +kernel) rfl
theorem t_793 : (Cond.fieldLink RX5 271 "DustLandModel" "value" "I" : Cond) ∈ tbl := tbl_at 793 (by decide +kernel) rfl
theorem t_794 : (Cond.fieldLink RX5 260 "DustLandModel" "isWrong" "Z" : Cond) ∈ tbl := tbl_at 794 (by decide +kernel) rfl
theorem t_795 : (Cond.fieldLink RX5 38 "DustLandModel" "bitsOf" "[I" : Cond) ∈ tbl := tbl_at 795 (by decide +kernel) rfl
theorem t_796 : (Cond.fieldLink RX5 41 "DustLandModel" "sizeOf" "[I" : Cond) ∈ tbl := tbl_at 796 (by decide +kernel) rfl
theorem t_797 : (Cond.fieldLink RX5 44 "DustLandModel" "numbers" "[I" : Cond) ∈ tbl := tbl_at 797 (by decide +kernel) rfl
theorem t_798 : (Cond.fieldLink RX5 47 "DustLandModel" "moved" "[I" : Cond) ∈ tbl := tbl_at 798 (by decide +kernel) rfl
theorem t_838 : (Cond.methodLink RL 17 yX5_dust : Cond) ∈ tbl := tbl_at 838 (by decide +kernel) rfl
theorem t_839 : (Cond.instanceMethod yX5_dust : Cond) ∈ tbl := tbl_at 839 (by decide +kernel) rfl
theorem t_840 : (Cond.selects RX5 yX5_dust yX5_dust : Cond) ∈ tbl := tbl_at 840 (by decide +kernel) rfl
theorem t_841 : (Cond.code yX5_dust cX5_dust 3 (some FieldType.int) : Cond) ∈ tbl := tbl_at 841 (by decide +kernel) rfl
theorem t_842 : (Cond.methodLink RX5 61 yX5_isSurface : Cond) ∈ tbl := tbl_at 842 (by decide +kernel) rfl
theorem t_843 : (Cond.static yX5_isSurface : Cond) ∈ tbl := tbl_at 843 (by decide +kernel) rfl
theorem t_844 : (Cond.code yX5_isSurface cX5_isSurface 1 (some FieldType.boolean) : Cond) ∈ tbl := tbl_at 844 (by decide +kernel) rfl
theorem t_845 : (Cond.constantLong RX5 51 (11) : Cond) ∈ tbl := tbl_at 845 (by decide +kernel) rfl
theorem t_846 : (Cond.methodLink RX5 53 yX5_in : Cond) ∈ tbl := tbl_at 846 (by decide +kernel) rfl
theorem t_847 : (Cond.static yX5_in : Cond) ∈ tbl := tbl_at 847 (by decide +kernel) rfl
theorem t_848 : (Cond.code yX5_in cX5_in 6 (some FieldType.boolean) : Cond) ∈ tbl := tbl_at 848 (by decide +kernel) rfl
theorem t_849 : (Cond.constantLong RX5 65 (9999) : Cond) ∈ tbl := tbl_at 849 (by decide +kernel) rfl
theorem t_850 : (Cond.methodLink RX5 67 yX5_becomes : Cond) ∈ tbl := tbl_at 850 (by decide +kernel) rfl
theorem t_852 : (Cond.instanceMethod yX5_becomes : Cond) ∈ tbl := tbl_at 852 (by decide +kernel) rfl
theorem t_853 : (Cond.code yX5_becomes cX5_becomes 4 (some FieldType.int) : Cond) ∈ tbl := tbl_at 853 (by decide +kernel) rfl
theorem t_854 : (Cond.constant RX5 50 (-1000001) : Cond) ∈ tbl := tbl_at 854 (by decide +kernel) rfl
theorem t_855 : (Cond.methodLink RX5 70 yX5_finds : Cond) ∈ tbl := tbl_at 855 (by decide +kernel) rfl
theorem t_857 : (Cond.instanceMethod yX5_finds : Cond) ∈ tbl := tbl_at 857 (by decide +kernel) rfl
theorem t_858 : (Cond.code yX5_finds cX5_finds 2 (some FieldType.int) : Cond) ∈ tbl := tbl_at 858 (by decide +kernel) rfl
theorem t_859 : (Cond.methodLink RL 21 yX5_surface : Cond) ∈ tbl := tbl_at 859 (by decide +kernel) rfl
theorem t_860 : (Cond.instanceMethod yX5_surface : Cond) ∈ tbl := tbl_at 860 (by decide +kernel) rfl
theorem t_861 : (Cond.selects RX5 yX5_surface yX5_surface : Cond) ∈ tbl := tbl_at 861 (by decide +kernel) rfl
theorem t_862 : (Cond.code yX5_surface cX5_surface 4 (some FieldType.int) : Cond) ∈ tbl := tbl_at 862 (by decide +kernel) rfl
theorem t_863 : (Cond.constantLong RX5 80 (3) : Cond) ∈ tbl := tbl_at 863 (by decide +kernel) rfl
theorem t_864 : (Cond.methodLink RX5 82 yX5_holderOf : Cond) ∈ tbl := tbl_at 864 (by decide +kernel) rfl
theorem t_866 : (Cond.instanceMethod yX5_holderOf : Cond) ∈ tbl := tbl_at 866 (by decide +kernel) rfl
theorem t_867 : (Cond.code yX5_holderOf cX5_holderOf 6 (some FieldType.int) : Cond) ∈ tbl := tbl_at 867 (by decide +kernel) rfl
theorem t_868 : (Cond.methodLink RX5 74 yX5_markAt : Cond) ∈ tbl := tbl_at 868 (by decide +kernel) rfl
theorem t_869 : (Cond.static yX5_markAt : Cond) ∈ tbl := tbl_at 869 (by decide +kernel) rfl
theorem t_870 : (Cond.code yX5_markAt cX5_markAt 2 (some FieldType.int) : Cond) ∈ tbl := tbl_at 870 (by decide +kernel) rfl
theorem t_871 : (Cond.methodLink RX5 85 yX5_thoseAt : Cond) ∈ tbl := tbl_at 871 (by decide +kernel) rfl
theorem t_873 : (Cond.instanceMethod yX5_thoseAt : Cond) ∈ tbl := tbl_at 873 (by decide +kernel) rfl
theorem t_874 : (Cond.code yX5_thoseAt cX5_thoseAt 4 (some FieldType.int) : Cond) ∈ tbl := tbl_at 874 (by decide +kernel) rfl
theorem t_875 : (Cond.methodLink RX5 77 yX5_its : Cond) ∈ tbl := tbl_at 875 (by decide +kernel) rfl
theorem t_877 : (Cond.instanceMethod yX5_its : Cond) ∈ tbl := tbl_at 877 (by decide +kernel) rfl
theorem t_878 : (Cond.code yX5_its cX5_its 3 (some FieldType.int) : Cond) ∈ tbl := tbl_at 878 (by decide +kernel) rfl
theorem t_879 : (Cond.methodLink RX5 57 yX5_place : Cond) ∈ tbl := tbl_at 879 (by decide +kernel) rfl
theorem t_880 : (Cond.static yX5_place : Cond) ∈ tbl := tbl_at 880 (by decide +kernel) rfl
theorem t_881 : (Cond.code yX5_place cX5_place 2 (some FieldType.int) : Cond) ∈ tbl := tbl_at 881 (by decide +kernel) rfl
theorem t_882 : (Cond.methodLink RL 25 yX5_law : Cond) ∈ tbl := tbl_at 882 (by decide +kernel) rfl
theorem t_883 : (Cond.instanceMethod yX5_law : Cond) ∈ tbl := tbl_at 883 (by decide +kernel) rfl
theorem t_884 : (Cond.selects RX5 yX5_law yX5_law : Cond) ∈ tbl := tbl_at 884 (by decide +kernel) rfl
theorem t_885 : (Cond.code yX5_law cX5_law 4 (some FieldType.int) : Cond) ∈ tbl := tbl_at 885 (by decide +kernel) rfl
theorem t_886 : (Cond.constantLong RX5 88 (99) : Cond) ∈ tbl := tbl_at 886 (by decide +kernel) rfl
theorem t_887 : (Cond.constantLong RX5 90 (-3) : Cond) ∈ tbl := tbl_at 887 (by decide +kernel) rfl
theorem t_888 : (Cond.methodLink RL 29 yX5_tenant : Cond) ∈ tbl := tbl_at 888 (by decide +kernel) rfl
theorem t_889 : (Cond.instanceMethod yX5_tenant : Cond) ∈ tbl := tbl_at 889 (by decide +kernel) rfl
theorem t_890 : (Cond.selects RX5 yX5_tenant yX5_tenant : Cond) ∈ tbl := tbl_at 890 (by decide +kernel) rfl
theorem t_891 : (Cond.code yX5_tenant cX5_tenant 3 (some FieldType.int) : Cond) ∈ tbl := tbl_at 891 (by decide +kernel) rfl
theorem t_892 : (Cond.methodLink RX5 94 yX5_isKind : Cond) ∈ tbl := tbl_at 892 (by decide +kernel) rfl
theorem t_893 : (Cond.static yX5_isKind : Cond) ∈ tbl := tbl_at 893 (by decide +kernel) rfl
theorem t_894 : (Cond.code yX5_isKind cX5_isKind 1 (some FieldType.boolean) : Cond) ∈ tbl := tbl_at 894 (by decide +kernel) rfl
theorem t_895 : (Cond.constantLong RX5 92 (6) : Cond) ∈ tbl := tbl_at 895 (by decide +kernel) rfl
theorem t_896 : (Cond.constant RX5 97 (-1000002) : Cond) ∈ tbl := tbl_at 896 (by decide +kernel) rfl
theorem t_897 : (Cond.methodLink RX5 98 yX5_adds : Cond) ∈ tbl := tbl_at 897 (by decide +kernel) rfl
theorem t_899 : (Cond.instanceMethod yX5_adds : Cond) ∈ tbl := tbl_at 899 (by decide +kernel) rfl
theorem t_900 : (Cond.code yX5_adds cX5_adds 5 (some FieldType.int) : Cond) ∈ tbl := tbl_at 900 (by decide +kernel) rfl
theorem t_901 : (Cond.methodLink RL 33 yX5_of : Cond) ∈ tbl := tbl_at 901 (by decide +kernel) rfl
theorem t_902 : (Cond.instanceMethod yX5_of : Cond) ∈ tbl := tbl_at 902 (by decide +kernel) rfl
theorem t_903 : (Cond.selects RX5 yX5_of yX5_of : Cond) ∈ tbl := tbl_at 903 (by decide +kernel) rfl
theorem t_904 : (Cond.code yX5_of cX5_of 3 (some FieldType.int) : Cond) ∈ tbl := tbl_at 904 (by decide +kernel) rfl
theorem t_905 : (Cond.methodLink RX5 101 yX5_isTenant : Cond) ∈ tbl := tbl_at 905 (by decide +kernel) rfl
theorem t_907 : (Cond.instanceMethod yX5_isTenant : Cond) ∈ tbl := tbl_at 907 (by decide +kernel) rfl
theorem t_908 : (Cond.code yX5_isTenant cX5_isTenant 2 (some FieldType.boolean) : Cond) ∈ tbl := tbl_at 908 (by decide +kernel) rfl
theorem t_909 : (Cond.methodLink RX5 104 yX5_leaves : Cond) ∈ tbl := tbl_at 909 (by decide +kernel) rfl
theorem t_911 : (Cond.instanceMethod yX5_leaves : Cond) ∈ tbl := tbl_at 911 (by decide +kernel) rfl
theorem t_912 : (Cond.code yX5_leaves cX5_leaves 3 (some FieldType.int) : Cond) ∈ tbl := tbl_at 912 (by decide +kernel) rfl
theorem t_913 : (Cond.methodLink RX5 107 yX5_sweeps : Cond) ∈ tbl := tbl_at 913 (by decide +kernel) rfl
theorem t_915 : (Cond.instanceMethod yX5_sweeps : Cond) ∈ tbl := tbl_at 915 (by decide +kernel) rfl
theorem t_916 : (Cond.code yX5_sweeps cX5_sweeps 2 (some FieldType.int) : Cond) ∈ tbl := tbl_at 916 (by decide +kernel) rfl
theorem t_917 : (Cond.methodLink RX5 110 yX5_heldBy : Cond) ∈ tbl := tbl_at 917 (by decide +kernel) rfl
theorem t_919 : (Cond.instanceMethod yX5_heldBy : Cond) ∈ tbl := tbl_at 919 (by decide +kernel) rfl
theorem t_920 : (Cond.code yX5_heldBy cX5_heldBy 4 (some FieldType.int) : Cond) ∈ tbl := tbl_at 920 (by decide +kernel) rfl
theorem t_921 : (Cond.methodLink RX5 113 yX5_marksOf : Cond) ∈ tbl := tbl_at 921 (by decide +kernel) rfl
theorem t_923 : (Cond.instanceMethod yX5_marksOf : Cond) ∈ tbl := tbl_at 923 (by decide +kernel) rfl
theorem t_924 : (Cond.code yX5_marksOf cX5_marksOf 4 (some FieldType.int) : Cond) ∈ tbl := tbl_at 924 (by decide +kernel) rfl
theorem t_925 : (Cond.methodLink RL 38 yX5_change : Cond) ∈ tbl := tbl_at 925 (by decide +kernel) rfl
theorem t_926 : (Cond.instanceMethod yX5_change : Cond) ∈ tbl := tbl_at 926 (by decide +kernel) rfl
theorem t_927 : (Cond.selects RX5 yX5_change yX5_change : Cond) ∈ tbl := tbl_at 927 (by decide +kernel) rfl
theorem t_928 : (Cond.code yX5_change cX5_change 5 (some FieldType.int) : Cond) ∈ tbl := tbl_at 928 (by decide +kernel) rfl
theorem t_929 : (Cond.constantLong RX5 116 (99999) : Cond) ∈ tbl := tbl_at 929 (by decide +kernel) rfl
theorem t_930 : (Cond.methodLink RL 42 yX5_mark : Cond) ∈ tbl := tbl_at 930 (by decide +kernel) rfl
theorem t_931 : (Cond.instanceMethod yX5_mark : Cond) ∈ tbl := tbl_at 931 (by decide +kernel) rfl
theorem t_932 : (Cond.selects RX5 yX5_mark yX5_mark : Cond) ∈ tbl := tbl_at 932 (by decide +kernel) rfl
theorem t_933 : (Cond.code yX5_mark cX5_mark 3 (some FieldType.int) : Cond) ∈ tbl := tbl_at 933 (by decide +kernel) rfl
theorem t_934 : (Cond.methodLink RL 46 yX5_charter : Cond) ∈ tbl := tbl_at 934 (by decide +kernel) rfl
theorem t_935 : (Cond.instanceMethod yX5_charter : Cond) ∈ tbl := tbl_at 935 (by decide +kernel) rfl
theorem t_936 : (Cond.selects RX5 yX5_charter yX5_charter : Cond) ∈ tbl := tbl_at 936 (by decide +kernel) rfl
theorem t_937 : (Cond.code yX5_charter cX5_charter 4 (some FieldType.int) : Cond) ∈ tbl := tbl_at 937 (by decide +kernel) rfl
theorem t_938 : (Cond.methodLink RL 50 yX5_swap : Cond) ∈ tbl := tbl_at 938 (by decide +kernel) rfl
theorem t_939 : (Cond.instanceMethod yX5_swap : Cond) ∈ tbl := tbl_at 939 (by decide +kernel) rfl
theorem t_940 : (Cond.selects RX5 yX5_swap yX5_swap : Cond) ∈ tbl := tbl_at 940 (by decide +kernel) rfl
theorem t_941 : (Cond.code yX5_swap cX5_swap 3 (some FieldType.int) : Cond) ∈ tbl := tbl_at 941 (by decide +kernel) rfl
theorem t_942 : (Cond.methodLink RX5 118 yX5_swaps : Cond) ∈ tbl := tbl_at 942 (by decide +kernel) rfl
theorem t_944 : (Cond.instanceMethod yX5_swaps : Cond) ∈ tbl := tbl_at 944 (by decide +kernel) rfl
theorem t_945 : (Cond.code yX5_swaps cX5_swaps 4 (some FieldType.int) : Cond) ∈ tbl := tbl_at 945 (by decide +kernel) rfl
theorem t_946 : (Cond.methodLink RL 54 yX5_sneeze : Cond) ∈ tbl := tbl_at 946 (by decide +kernel) rfl
theorem t_947 : (Cond.instanceMethod yX5_sneeze : Cond) ∈ tbl := tbl_at 947 (by decide +kernel) rfl
theorem t_948 : (Cond.selects RX5 yX5_sneeze yX5_sneeze : Cond) ∈ tbl := tbl_at 948 (by decide +kernel) rfl
theorem t_949 : (Cond.code yX5_sneeze cX5_sneeze 3 (some FieldType.int) : Cond) ∈ tbl := tbl_at 949 (by decide +kernel) rfl
theorem t_950 : (Cond.constantLong RX5 127 (-11) : Cond) ∈ tbl := tbl_at 950 (by decide +kernel) rfl
theorem t_951 : (Cond.methodLink RX5 129 yX5_blows : Cond) ∈ tbl := tbl_at 951 (by decide +kernel) rfl
theorem t_953 : (Cond.instanceMethod yX5_blows : Cond) ∈ tbl := tbl_at 953 (by decide +kernel) rfl
theorem t_954 : (Cond.code yX5_blows cX5_blows 5 (some FieldType.int) : Cond) ∈ tbl := tbl_at 954 (by decide +kernel) rfl
theorem t_955 : (Cond.methodLink RX5 121 yX5_round : Cond) ∈ tbl := tbl_at 955 (by decide +kernel) rfl
theorem t_956 : (Cond.static yX5_round : Cond) ∈ tbl := tbl_at 956 (by decide +kernel) rfl
theorem t_957 : (Cond.code yX5_round cX5_round 1 (some FieldType.int) : Cond) ∈ tbl := tbl_at 957 (by decide +kernel) rfl
theorem t_958 : (Cond.methodLink RX5 124 yX5_heldTo : Cond) ∈ tbl := tbl_at 958 (by decide +kernel) rfl
theorem t_959 : (Cond.static yX5_heldTo : Cond) ∈ tbl := tbl_at 959 (by decide +kernel) rfl
theorem t_960 : (Cond.code yX5_heldTo cX5_heldTo 2 (some FieldType.int) : Cond) ∈ tbl := tbl_at 960 (by decide +kernel) rfl
theorem t_961 : (Cond.methodLink RL 59 yX5_go : Cond) ∈ tbl := tbl_at 961 (by decide +kernel) rfl
theorem t_962 : (Cond.instanceMethod yX5_go : Cond) ∈ tbl := tbl_at 962 (by decide +kernel) rfl
theorem t_963 : (Cond.selects RX5 yX5_go yX5_go : Cond) ∈ tbl := tbl_at 963 (by decide +kernel) rfl
theorem t_964 : (Cond.code yX5_go cX5_go 2 (some FieldType.int) : Cond) ∈ tbl := tbl_at 964 (by decide +kernel) rfl
theorem t_965 : (Cond.constantLong RX5 150 (40) : Cond) ∈ tbl := tbl_at 965 (by decide +kernel) rfl
theorem t_966 : (Cond.constant RX5 132 (99999) : Cond) ∈ tbl := tbl_at 966 (by decide +kernel) rfl
theorem t_967 : (Cond.constant RX5 152 (-1000005) : Cond) ∈ tbl := tbl_at 967 (by decide +kernel) rfl
theorem t_968 : (Cond.methodLink RX5 153 yX5_goesOn : Cond) ∈ tbl := tbl_at 968 (by decide +kernel) rfl
theorem t_970 : (Cond.instanceMethod yX5_goesOn : Cond) ∈ tbl := tbl_at 970 (by decide +kernel) rfl
theorem t_971 : (Cond.code yX5_goesOn cX5_goesOn 3 none : Cond) ∈ tbl := tbl_at 971 (by decide +kernel) rfl
theorem t_972 : (Cond.methodLink RX5 147 yX5_day : Cond) ∈ tbl := tbl_at 972 (by decide +kernel) rfl
theorem t_974 : (Cond.instanceMethod yX5_day : Cond) ∈ tbl := tbl_at 974 (by decide +kernel) rfl
theorem t_975 : (Cond.code yX5_day cX5_day 3 none : Cond) ∈ tbl := tbl_at 975 (by decide +kernel) rfl
theorem t_976 : (Cond.methodLink RX5 137 yX5_draughts : Cond) ∈ tbl := tbl_at 976 (by decide +kernel) rfl
theorem t_978 : (Cond.instanceMethod yX5_draughts : Cond) ∈ tbl := tbl_at 978 (by decide +kernel) rfl
theorem t_979 : (Cond.code yX5_draughts cX5_draughts 2 none : Cond) ∈ tbl := tbl_at 979 (by decide +kernel) rfl
theorem t_980 : (Cond.methodLink RX5 140 yX5_sweep : Cond) ∈ tbl := tbl_at 980 (by decide +kernel) rfl
theorem t_982 : (Cond.instanceMethod yX5_sweep : Cond) ∈ tbl := tbl_at 982 (by decide +kernel) rfl
theorem t_983 : (Cond.code yX5_sweep cX5_sweep 5 none : Cond) ∈ tbl := tbl_at 983 (by decide +kernel) rfl
theorem t_984 : (Cond.methodLink RX5 133 yX5_gets : Cond) ∈ tbl := tbl_at 984 (by decide +kernel) rfl
theorem t_986 : (Cond.instanceMethod yX5_gets : Cond) ∈ tbl := tbl_at 986 (by decide +kernel) rfl
theorem t_987 : (Cond.code yX5_gets cX5_gets 3 none : Cond) ∈ tbl := tbl_at 987 (by decide +kernel) rfl
theorem t_988 : (Cond.methodLink RX5 144 yX5_marks : Cond) ∈ tbl := tbl_at 988 (by decide +kernel) rfl
theorem t_990 : (Cond.instanceMethod yX5_marks : Cond) ∈ tbl := tbl_at 990 (by decide +kernel) rfl
theorem t_991 : (Cond.code yX5_marks cX5_marks 6 none : Cond) ∈ tbl := tbl_at 991 (by decide +kernel) rfl
theorem t_992 : (Cond.methodLink RX5 156 yX5_dustAll : Cond) ∈ tbl := tbl_at 992 (by decide +kernel) rfl
theorem t_994 : (Cond.instanceMethod yX5_dustAll : Cond) ∈ tbl := tbl_at 994 (by decide +kernel) rfl
theorem t_995 : (Cond.code yX5_dustAll cX5_dustAll 3 (some FieldType.int) : Cond) ∈ tbl := tbl_at 995 (by decide +kernel) rfl
theorem t_996 : (Cond.methodLink RL 63 yX5_now : Cond) ∈ tbl := tbl_at 996 (by decide +kernel) rfl
theorem t_997 : (Cond.instanceMethod yX5_now : Cond) ∈ tbl := tbl_at 997 (by decide +kernel) rfl
theorem t_998 : (Cond.selects RX5 yX5_now yX5_now : Cond) ∈ tbl := tbl_at 998 (by decide +kernel) rfl
theorem t_999 : (Cond.code yX5_now cX5_now 2 (some FieldType.int) : Cond) ∈ tbl := tbl_at 999 (by decide +kernel) rfl
theorem t_1000 : (Cond.methodLink RX5 160 yX5_goodsAll : Cond) ∈ tbl := tbl_at 1000 (by decide +kernel) rfl
theorem t_1002 : (Cond.instanceMethod yX5_goodsAll : Cond) ∈ tbl := tbl_at 1002 (by decide +kernel) rfl
theorem t_1003 : (Cond.code yX5_goodsAll cX5_goodsAll 3 (some FieldType.int) : Cond) ∈ tbl := tbl_at 1003 (by decide +kernel) rfl
theorem t_1004 : (Cond.methodLink RX5 163 yX5_heldOnes : Cond) ∈ tbl := tbl_at 1004 (by decide +kernel) rfl
theorem t_1006 : (Cond.instanceMethod yX5_heldOnes : Cond) ∈ tbl := tbl_at 1006 (by decide +kernel) rfl
theorem t_1007 : (Cond.code yX5_heldOnes cX5_heldOnes 3 (some FieldType.int) : Cond) ∈ tbl := tbl_at 1007 (by decide +kernel) rfl
theorem t_1008 : (Cond.methodLink RX5 166 yX5_landless : Cond) ∈ tbl := tbl_at 1008 (by decide +kernel) rfl
theorem t_1010 : (Cond.instanceMethod yX5_landless : Cond) ∈ tbl := tbl_at 1010 (by decide +kernel) rfl
theorem t_1011 : (Cond.code yX5_landless cX5_landless 3 (some FieldType.int) : Cond) ∈ tbl := tbl_at 1011 (by decide +kernel) rfl
theorem t_1012 : (Cond.methodLink RX5 169 yX5_richest : Cond) ∈ tbl := tbl_at 1012 (by decide +kernel) rfl
theorem t_1014 : (Cond.instanceMethod yX5_richest : Cond) ∈ tbl := tbl_at 1014 (by decide +kernel) rfl
theorem t_1015 : (Cond.code yX5_richest cX5_richest 3 (some FieldType.int) : Cond) ∈ tbl := tbl_at 1015 (by decide +kernel) rfl
theorem t_1016 : (Cond.methodLink RL 67 yX5_ahead : Cond) ∈ tbl := tbl_at 1016 (by decide +kernel) rfl
theorem t_1017 : (Cond.instanceMethod yX5_ahead : Cond) ∈ tbl := tbl_at 1017 (by decide +kernel) rfl
theorem t_1018 : (Cond.selects RX5 yX5_ahead yX5_ahead : Cond) ∈ tbl := tbl_at 1018 (by decide +kernel) rfl
theorem t_1019 : (Cond.code yX5_ahead cX5_ahead 3 (some FieldType.int) : Cond) ∈ tbl := tbl_at 1019 (by decide +kernel) rfl
theorem t_1020 : (Cond.methodLink RX5 174 yX5_isAhead : Cond) ∈ tbl := tbl_at 1020 (by decide +kernel) rfl
theorem t_1021 : (Cond.static yX5_isAhead : Cond) ∈ tbl := tbl_at 1021 (by decide +kernel) rfl
theorem t_1022 : (Cond.code yX5_isAhead cX5_isAhead 1 (some FieldType.boolean) : Cond) ∈ tbl := tbl_at 1022 (by decide +kernel) rfl
theorem t_1023 : (Cond.constantLong RX5 172 (60) : Cond) ∈ tbl := tbl_at 1023 (by decide +kernel) rfl
theorem t_1024 : (Cond.methodLink RX5 177 yX5_laysAside : Cond) ∈ tbl := tbl_at 1024 (by decide +kernel) rfl
theorem t_1026 : (Cond.instanceMethod yX5_laysAside : Cond) ∈ tbl := tbl_at 1026 (by decide +kernel) rfl
theorem t_1027 : (Cond.code yX5_laysAside cX5_laysAside 2 none : Cond) ∈ tbl := tbl_at 1027 (by decide +kernel) rfl
theorem t_1028 : (Cond.methodLink RX5 180 yX5_takesBack : Cond) ∈ tbl := tbl_at 1028 (by decide +kernel) rfl
theorem t_1030 : (Cond.instanceMethod yX5_takesBack : Cond) ∈ tbl := tbl_at 1030 (by decide +kernel) rfl
theorem t_1031 : (Cond.code yX5_takesBack cX5_takesBack 3 (some FieldType.int) : Cond) ∈ tbl := tbl_at 1031 (by decide +kernel) rfl
theorem t_1032 : (Cond.methodLink RL 71 yX5_goods : Cond) ∈ tbl := tbl_at 1032 (by decide +kernel) rfl
theorem t_1033 : (Cond.instanceMethod yX5_goods : Cond) ∈ tbl := tbl_at 1033 (by decide +kernel) rfl
theorem t_1034 : (Cond.selects RX5 yX5_goods yX5_goods : Cond) ∈ tbl := tbl_at 1034 (by decide +kernel) rfl
theorem t_1035 : (Cond.code yX5_goods cX5_goods 3 (some FieldType.int) : Cond) ∈ tbl := tbl_at 1035 (by decide +kernel) rfl
theorem t_1036 : (Cond.methodLink RX5 183 yX5_goodsBehind : Cond) ∈ tbl := tbl_at 1036 (by decide +kernel) rfl
theorem t_1038 : (Cond.instanceMethod yX5_goodsBehind : Cond) ∈ tbl := tbl_at 1038 (by decide +kernel) rfl
theorem t_1039 : (Cond.code yX5_goodsBehind cX5_goodsBehind 3 (some FieldType.int) : Cond) ∈ tbl := tbl_at 1039 (by decide +kernel) rfl
theorem t_1040 : (Cond.methodLink RL 75 yX5_holder : Cond) ∈ tbl := tbl_at 1040 (by decide +kernel) rfl
theorem t_1041 : (Cond.instanceMethod yX5_holder : Cond) ∈ tbl := tbl_at 1041 (by decide +kernel) rfl
theorem t_1042 : (Cond.selects RX5 yX5_holder yX5_holder : Cond) ∈ tbl := tbl_at 1042 (by decide +kernel) rfl
theorem t_1043 : (Cond.code yX5_holder cX5_holder 3 (some FieldType.int) : Cond) ∈ tbl := tbl_at 1043 (by decide +kernel) rfl
theorem t_1044 : (Cond.methodLink RL 79 yX5_when : Cond) ∈ tbl := tbl_at 1044 (by decide +kernel) rfl
theorem t_1045 : (Cond.instanceMethod yX5_when : Cond) ∈ tbl := tbl_at 1045 (by decide +kernel) rfl
theorem t_1046 : (Cond.selects RX5 yX5_when yX5_when : Cond) ∈ tbl := tbl_at 1046 (by decide +kernel) rfl
theorem t_1047 : (Cond.code yX5_when cX5_when 4 (some FieldType.int) : Cond) ∈ tbl := tbl_at 1047 (by decide +kernel) rfl
theorem t_1048 : (Cond.methodLink RX5 187 yX5_orNone : Cond) ∈ tbl := tbl_at 1048 (by decide +kernel) rfl
theorem t_1050 : (Cond.instanceMethod yX5_orNone : Cond) ∈ tbl := tbl_at 1050 (by decide +kernel) rfl
theorem t_1051 : (Cond.code yX5_orNone cX5_orNone 2 (some FieldType.int) : Cond) ∈ tbl := tbl_at 1051 (by decide +kernel) rfl
theorem t_1052 : (Cond.constant RX5 186 (-1000004) : Cond) ∈ tbl := tbl_at 1052 (by decide +kernel) rfl
theorem t_1053 : (Cond.methodLink RL 84 yX5_clash : Cond) ∈ tbl := tbl_at 1053 (by decide +kernel) rfl
theorem t_1054 : (Cond.instanceMethod yX5_clash : Cond) ∈ tbl := tbl_at 1054 (by decide +kernel) rfl
theorem t_1055 : (Cond.selects RX5 yX5_clash yX5_clash : Cond) ∈ tbl := tbl_at 1055 (by decide +kernel) rfl
theorem t_1056 : (Cond.code yX5_clash cX5_clash 2 (some FieldType.int) : Cond) ∈ tbl := tbl_at 1056 (by decide +kernel) rfl
theorem t_1057 : (Cond.methodLink RX5 190 yX5_isOtherwise : Cond) ∈ tbl := tbl_at 1057 (by decide +kernel) rfl
theorem t_1059 : (Cond.instanceMethod yX5_isOtherwise : Cond) ∈ tbl := tbl_at 1059 (by decide +kernel) rfl
theorem t_1060 : (Cond.code yX5_isOtherwise cX5_isOtherwise 3 (some FieldType.boolean) : Cond) ∈ tbl := tbl_at 1060 (by decide +kernel) rfl
theorem t_1061 : (Cond.methodLink RL 88 yX5_rich : Cond) ∈ tbl := tbl_at 1061 (by decide +kernel) rfl
theorem t_1062 : (Cond.instanceMethod yX5_rich : Cond) ∈ tbl := tbl_at 1062 (by decide +kernel) rfl
theorem t_1063 : (Cond.selects RX5 yX5_rich yX5_rich : Cond) ∈ tbl := tbl_at 1063 (by decide +kernel) rfl
theorem t_1064 : (Cond.code yX5_rich cX5_rich 4 (some FieldType.int) : Cond) ∈ tbl := tbl_at 1064 (by decide +kernel) rfl
theorem t_1065 : (Cond.methodLink RL 92 yX5_seat : Cond) ∈ tbl := tbl_at 1065 (by decide +kernel) rfl
theorem t_1066 : (Cond.instanceMethod yX5_seat : Cond) ∈ tbl := tbl_at 1066 (by decide +kernel) rfl
theorem t_1067 : (Cond.selects RX5 yX5_seat yX5_seat : Cond) ∈ tbl := tbl_at 1067 (by decide +kernel) rfl
theorem t_1068 : (Cond.code yX5_seat cX5_seat 3 (some FieldType.int) : Cond) ∈ tbl := tbl_at 1068 (by decide +kernel) rfl
theorem t_1069 : (Cond.methodLink RX5 194 yX5_isSoon : Cond) ∈ tbl := tbl_at 1069 (by decide +kernel) rfl
theorem t_1070 : (Cond.static yX5_isSoon : Cond) ∈ tbl := tbl_at 1070 (by decide +kernel) rfl
theorem t_1071 : (Cond.code yX5_isSoon cX5_isSoon 1 (some FieldType.boolean) : Cond) ∈ tbl := tbl_at 1071 (by decide +kernel) rfl
theorem t_1072 : (Cond.methodLink RX5 197 yX5_richestBy : Cond) ∈ tbl := tbl_at 1072 (by decide +kernel) rfl
theorem t_1074 : (Cond.instanceMethod yX5_richestBy : Cond) ∈ tbl := tbl_at 1074 (by decide +kernel) rfl
theorem t_1075 : (Cond.code yX5_richestBy cX5_richestBy 11 (some FieldType.int) : Cond) ∈ tbl := tbl_at 1075 (by decide +kernel) rfl
theorem t_1076 : (Cond.methodLink RL 96 yX5_kindFor : Cond) ∈ tbl := tbl_at 1076 (by decide +kernel) rfl
theorem t_1077 : (Cond.instanceMethod yX5_kindFor : Cond) ∈ tbl := tbl_at 1077 (by decide +kernel) rfl
theorem t_1078 : (Cond.selects RX5 yX5_kindFor yX5_kindFor : Cond) ∈ tbl := tbl_at 1078 (by decide +kernel) rfl
theorem t_1079 : (Cond.code yX5_kindFor cX5_kindFor 3 (some FieldType.int) : Cond) ∈ tbl := tbl_at 1079 (by decide +kernel) rfl
theorem t_1080 : (Cond.methodLink RL 100 yX5_draught : Cond) ∈ tbl := tbl_at 1080 (by decide +kernel) rfl
theorem t_1081 : (Cond.instanceMethod yX5_draught : Cond) ∈ tbl := tbl_at 1081 (by decide +kernel) rfl
theorem t_1082 : (Cond.selects RX5 yX5_draught yX5_draught : Cond) ∈ tbl := tbl_at 1082 (by decide +kernel) rfl
theorem t_1083 : (Cond.code yX5_draught cX5_draught 3 (some FieldType.int) : Cond) ∈ tbl := tbl_at 1083 (by decide +kernel) rfl
theorem t_1084 : (Cond.methodLink RL 104 yX5_fallFor : Cond) ∈ tbl := tbl_at 1084 (by decide +kernel) rfl
theorem t_1085 : (Cond.instanceMethod yX5_fallFor : Cond) ∈ tbl := tbl_at 1085 (by decide +kernel) rfl
theorem t_1086 : (Cond.selects RX5 yX5_fallFor yX5_fallFor : Cond) ∈ tbl := tbl_at 1086 (by decide +kernel) rfl
theorem t_1087 : (Cond.code yX5_fallFor cX5_fallFor 5 (some FieldType.int) : Cond) ∈ tbl := tbl_at 1087 (by decide +kernel) rfl
theorem t_1088 : (Cond.methodLink RX5 201 yX5_dustBehind : Cond) ∈ tbl := tbl_at 1088 (by decide +kernel) rfl
theorem t_1090 : (Cond.instanceMethod yX5_dustBehind : Cond) ∈ tbl := tbl_at 1090 (by decide +kernel) rfl
theorem t_1091 : (Cond.code yX5_dustBehind cX5_dustBehind 2 (some FieldType.int) : Cond) ∈ tbl := tbl_at 1091 (by decide +kernel) rfl
theorem t_1092 : (Cond.methodLink RL 108 yX5_swapFor : Cond) ∈ tbl := tbl_at 1092 (by decide +kernel) rfl
theorem t_1093 : (Cond.instanceMethod yX5_swapFor : Cond) ∈ tbl := tbl_at 1093 (by decide +kernel) rfl
theorem t_1094 : (Cond.selects RX5 yX5_swapFor yX5_swapFor : Cond) ∈ tbl := tbl_at 1094 (by decide +kernel) rfl
theorem t_1095 : (Cond.code yX5_swapFor cX5_swapFor 8 (some FieldType.int) : Cond) ∈ tbl := tbl_at 1095 (by decide +kernel) rfl
theorem t_1096 : (Cond.methodLink RL 112 yX5_brooms : Cond) ∈ tbl := tbl_at 1096 (by decide +kernel) rfl
theorem t_1097 : (Cond.instanceMethod yX5_brooms : Cond) ∈ tbl := tbl_at 1097 (by decide +kernel) rfl
theorem t_1098 : (Cond.selects RX5 yX5_brooms yX5_brooms : Cond) ∈ tbl := tbl_at 1098 (by decide +kernel) rfl
theorem t_1099 : (Cond.code yX5_brooms cX5_brooms 5 (some FieldType.int) : Cond) ∈ tbl := tbl_at 1099 (by decide +kernel) rfl
theorem t_1100 : (Cond.constantLong RX5 204 (20) : Cond) ∈ tbl := tbl_at 1100 (by decide +kernel) rfl
theorem t_1101 : (Cond.methodLink RX5 206 yX5_ones : Cond) ∈ tbl := tbl_at 1101 (by decide +kernel) rfl
theorem t_1102 : (Cond.static yX5_ones : Cond) ∈ tbl := tbl_at 1102 (by decide +kernel) rfl
theorem t_1103 : (Cond.code yX5_ones cX5_ones 3 (some FieldType.int) : Cond) ∈ tbl := tbl_at 1103 (by decide +kernel) rfl
theorem t_1104 : (Cond.methodLink RX5 209 yX5_dustWith : Cond) ∈ tbl := tbl_at 1104 (by decide +kernel) rfl
theorem t_1106 : (Cond.instanceMethod yX5_dustWith : Cond) ∈ tbl := tbl_at 1106 (by decide +kernel) rfl
theorem t_1107 : (Cond.code yX5_dustWith cX5_dustWith 4 (some FieldType.int) : Cond) ∈ tbl := tbl_at 1107 (by decide +kernel) rfl
theorem t_1108 : (Cond.methodLink RL 116 yX5_without : Cond) ∈ tbl := tbl_at 1108 (by decide +kernel) rfl
theorem t_1109 : (Cond.instanceMethod yX5_without : Cond) ∈ tbl := tbl_at 1109 (by decide +kernel) rfl
theorem t_1110 : (Cond.selects RX5 yX5_without yX5_without : Cond) ∈ tbl := tbl_at 1110 (by decide +kernel) rfl
theorem t_1111 : (Cond.code yX5_without cX5_without 6 (some FieldType.int) : Cond) ∈ tbl := tbl_at 1111 (by decide +kernel) rfl
theorem t_1112 : (Cond.methodLink RL 120 yX5_fits : Cond) ∈ tbl := tbl_at 1112 (by decide +kernel) rfl
theorem t_1113 : (Cond.instanceMethod yX5_fits : Cond) ∈ tbl := tbl_at 1113 (by decide +kernel) rfl
theorem t_1114 : (Cond.selects RX5 yX5_fits yX5_fits : Cond) ∈ tbl := tbl_at 1114 (by decide +kernel) rfl
theorem t_1115 : (Cond.code yX5_fits cX5_fits 4 (some FieldType.int) : Cond) ∈ tbl := tbl_at 1115 (by decide +kernel) rfl
theorem t_1116 : (Cond.methodLink RX5 219 yX5_wrongTold : Cond) ∈ tbl := tbl_at 1116 (by decide +kernel) rfl
theorem t_1118 : (Cond.instanceMethod yX5_wrongTold : Cond) ∈ tbl := tbl_at 1118 (by decide +kernel) rfl
theorem t_1119 : (Cond.code yX5_wrongTold cX5_wrongTold 4 (some FieldType.int) : Cond) ∈ tbl := tbl_at 1119 (by decide +kernel) rfl
theorem t_1120 : (Cond.methodLink RX5 216 yX5_wrong : Cond) ∈ tbl := tbl_at 1120 (by decide +kernel) rfl
theorem t_1122 : (Cond.instanceMethod yX5_wrong : Cond) ∈ tbl := tbl_at 1122 (by decide +kernel) rfl
theorem t_1123 : (Cond.code yX5_wrong cX5_wrong 2 (some FieldType.int) : Cond) ∈ tbl := tbl_at 1123 (by decide +kernel) rfl
theorem t_1124 : (Cond.methodLink RX5 346 yX5_isOne : Cond) ∈ tbl := tbl_at 1124 (by decide +kernel) rfl
theorem t_1125 : (Cond.static yX5_isOne : Cond) ∈ tbl := tbl_at 1125 (by decide +kernel) rfl
theorem t_1126 : (Cond.code yX5_isOne cX5_isOne 1 (some FieldType.boolean) : Cond) ∈ tbl := tbl_at 1126 (by decide +kernel) rfl
theorem t_1127 : (Cond.constant RX5 341 (-1000006) : Cond) ∈ tbl := tbl_at 1127 (by decide +kernel) rfl
theorem t_1128 : (Cond.methodLink RX5 222 yX5_fitsBy : Cond) ∈ tbl := tbl_at 1128 (by decide +kernel) rfl
theorem t_1130 : (Cond.instanceMethod yX5_fitsBy : Cond) ∈ tbl := tbl_at 1130 (by decide +kernel) rfl
theorem t_1131 : (Cond.code yX5_fitsBy cX5_fitsBy 8 (some FieldType.int) : Cond) ∈ tbl := tbl_at 1131 (by decide +kernel) rfl
theorem t_1132 : (Cond.methodLink RX5 212 yX5_isTold : Cond) ∈ tbl := tbl_at 1132 (by decide +kernel) rfl
theorem t_1134 : (Cond.instanceMethod yX5_isTold : Cond) ∈ tbl := tbl_at 1134 (by decide +kernel) rfl
theorem t_1135 : (Cond.code yX5_isTold cX5_isTold 6 (some FieldType.boolean) : Cond) ∈ tbl := tbl_at 1135 (by decide +kernel) rfl
theorem t_1136 : (Cond.methodLink RL 124 yX5_kinds : Cond) ∈ tbl := tbl_at 1136 (by decide +kernel) rfl
theorem t_1137 : (Cond.instanceMethod yX5_kinds : Cond) ∈ tbl := tbl_at 1137 (by decide +kernel) rfl
theorem t_1138 : (Cond.selects RX5 yX5_kinds yX5_kinds : Cond) ∈ tbl := tbl_at 1138 (by decide +kernel) rfl
theorem t_1139 : (Cond.code yX5_kinds cX5_kinds 4 (some FieldType.int) : Cond) ∈ tbl := tbl_at 1139 (by decide +kernel) rfl
theorem t_1140 : (Cond.methodLink RL 128 yX5_sneezes : Cond) ∈ tbl := tbl_at 1140 (by decide +kernel) rfl
theorem t_1141 : (Cond.instanceMethod yX5_sneezes : Cond) ∈ tbl := tbl_at 1141 (by decide +kernel) rfl
theorem t_1142 : (Cond.selects RX5 yX5_sneezes yX5_sneezes : Cond) ∈ tbl := tbl_at 1142 (by decide +kernel) rfl
theorem t_1143 : (Cond.code yX5_sneezes cX5_sneezes 4 (some FieldType.int) : Cond) ∈ tbl := tbl_at 1143 (by decide +kernel) rfl
theorem t_1144 : (Cond.methodLink RX5 227 yX5_draw : Cond) ∈ tbl := tbl_at 1144 (by decide +kernel) rfl
theorem t_1146 : (Cond.instanceMethod yX5_draw : Cond) ∈ tbl := tbl_at 1146 (by decide +kernel) rfl
theorem t_1147 : (Cond.code yX5_draw cX5_draw 1 (some FieldType.int) : Cond) ∈ tbl := tbl_at 1147 (by decide +kernel) rfl
theorem t_1148 : (Cond.constant RX5 226 (1103515245) : Cond) ∈ tbl := tbl_at 1148 (by decide +kernel) rfl
theorem t_1149 : (Cond.methodLink RL 133 yX5_odds : Cond) ∈ tbl := tbl_at 1149 (by decide +kernel) rfl
theorem t_1150 : (Cond.instanceMethod yX5_odds : Cond) ∈ tbl := tbl_at 1150 (by decide +kernel) rfl
theorem t_1151 : (Cond.selects RX5 yX5_odds yX5_odds : Cond) ∈ tbl := tbl_at 1151 (by decide +kernel) rfl
theorem t_1152 : (Cond.code yX5_odds cX5_odds 8 (some FieldType.long) : Cond) ∈ tbl := tbl_at 1152 (by decide +kernel) rfl
theorem t_1153 : (Cond.constantLong RX5 230 (14) : Cond) ∈ tbl := tbl_at 1153 (by decide +kernel) rfl
theorem t_1154 : (Cond.methodLink RL 137 yX5_seed : Cond) ∈ tbl := tbl_at 1154 (by decide +kernel) rfl
theorem t_1155 : (Cond.instanceMethod yX5_seed : Cond) ∈ tbl := tbl_at 1155 (by decide +kernel) rfl
theorem t_1156 : (Cond.selects RX5 yX5_seed yX5_seed : Cond) ∈ tbl := tbl_at 1156 (by decide +kernel) rfl
theorem t_1157 : (Cond.code yX5_seed cX5_seed 2 (some FieldType.int) : Cond) ∈ tbl := tbl_at 1157 (by decide +kernel) rfl
theorem t_1158 : (Cond.methodLink RL 141 yX5_feed : Cond) ∈ tbl := tbl_at 1158 (by decide +kernel) rfl
theorem t_1159 : (Cond.instanceMethod yX5_feed : Cond) ∈ tbl := tbl_at 1159 (by decide +kernel) rfl
theorem t_1160 : (Cond.selects RX5 yX5_feed yX5_feed : Cond) ∈ tbl := tbl_at 1160 (by decide +kernel) rfl
theorem t_1161 : (Cond.code yX5_feed cX5_feed 4 (some FieldType.int) : Cond) ∈ tbl := tbl_at 1161 (by decide +kernel) rfl
theorem t_1162 : (Cond.constantLong RX5 232 (4) : Cond) ∈ tbl := tbl_at 1162 (by decide +kernel) rfl
theorem t_1163 : (Cond.methodLink RL 145 yX5_wipe : Cond) ∈ tbl := tbl_at 1163 (by decide +kernel) rfl
theorem t_1164 : (Cond.instanceMethod yX5_wipe : Cond) ∈ tbl := tbl_at 1164 (by decide +kernel) rfl
theorem t_1165 : (Cond.selects RX5 yX5_wipe yX5_wipe : Cond) ∈ tbl := tbl_at 1165 (by decide +kernel) rfl
theorem t_1166 : (Cond.code yX5_wipe cX5_wipe 2 (some FieldType.int) : Cond) ∈ tbl := tbl_at 1166 (by decide +kernel) rfl
theorem t_1167 : (Cond.methodLink RL 149 yX5_text : Cond) ∈ tbl := tbl_at 1167 (by decide +kernel) rfl
theorem t_1168 : (Cond.instanceMethod yX5_text : Cond) ∈ tbl := tbl_at 1168 (by decide +kernel) rfl
theorem t_1169 : (Cond.selects RX5 yX5_text yX5_text : Cond) ∈ tbl := tbl_at 1169 (by decide +kernel) rfl
theorem t_1170 : (Cond.code yX5_text cX5_text 2 (some FieldType.int) : Cond) ∈ tbl := tbl_at 1170 (by decide +kernel) rfl
theorem t_1171 : (Cond.methodLink RX5 327 yX5_saves : Cond) ∈ tbl := tbl_at 1171 (by decide +kernel) rfl
theorem t_1173 : (Cond.instanceMethod yX5_saves : Cond) ∈ tbl := tbl_at 1173 (by decide +kernel) rfl
theorem t_1174 : (Cond.code yX5_saves cX5_saves 2 none : Cond) ∈ tbl := tbl_at 1174 (by decide +kernel) rfl
theorem t_1175 : (Cond.methodLink RX5 264 yX5_token : Cond) ∈ tbl := tbl_at 1175 (by decide +kernel) rfl
theorem t_1177 : (Cond.instanceMethod yX5_token : Cond) ∈ tbl := tbl_at 1177 (by decide +kernel) rfl
theorem t_1178 : (Cond.code yX5_token cX5_token 3 none : Cond) ∈ tbl := tbl_at 1178 (by decide +kernel) rfl
theorem t_1179 : (Cond.methodLink RX5 251 yX5_byteAt : Cond) ∈ tbl := tbl_at 1179 (by decide +kernel) rfl
theorem t_1181 : (Cond.instanceMethod yX5_byteAt : Cond) ∈ tbl := tbl_at 1181 (by decide +kernel) rfl
theorem t_1182 : (Cond.code yX5_byteAt cX5_byteAt 2 (some FieldType.int) : Cond) ∈ tbl := tbl_at 1182 (by decide +kernel) rfl
theorem t_1183 : (Cond.methodLink RX5 254 yX5_isLetter : Cond) ∈ tbl := tbl_at 1183 (by decide +kernel) rfl
theorem t_1184 : (Cond.static yX5_isLetter : Cond) ∈ tbl := tbl_at 1184 (by decide +kernel) rfl
theorem t_1185 : (Cond.code yX5_isLetter cX5_isLetter 1 (some FieldType.boolean) : Cond) ∈ tbl := tbl_at 1185 (by decide +kernel) rfl
theorem t_1186 : (Cond.constantLong RX5 237 (97) : Cond) ∈ tbl := tbl_at 1186 (by decide +kernel) rfl
theorem t_1187 : (Cond.constantLong RX5 239 (122) : Cond) ∈ tbl := tbl_at 1187 (by decide +kernel) rfl
theorem t_1188 : (Cond.methodLink RX5 257 yX5_isDigit : Cond) ∈ tbl := tbl_at 1188 (by decide +kernel) rfl
theorem t_1189 : (Cond.static yX5_isDigit : Cond) ∈ tbl := tbl_at 1189 (by decide +kernel) rfl
theorem t_1190 : (Cond.code yX5_isDigit cX5_isDigit 1 (some FieldType.boolean) : Cond) ∈ tbl := tbl_at 1190 (by decide +kernel) rfl
theorem t_1191 : (Cond.constantLong RX5 241 (48) : Cond) ∈ tbl := tbl_at 1191 (by decide +kernel) rfl
theorem t_1192 : (Cond.constantLong RX5 243 (57) : Cond) ∈ tbl := tbl_at 1192 (by decide +kernel) rfl
theorem t_1193 : (Cond.methodLink RX5 330 yX5_item : Cond) ∈ tbl := tbl_at 1193 (by decide +kernel) rfl
theorem t_1195 : (Cond.instanceMethod yX5_item : Cond) ∈ tbl := tbl_at 1195 (by decide +kernel) rfl
theorem t_1196 : (Cond.code yX5_item cX5_item 4 none : Cond) ∈ tbl := tbl_at 1196 (by decide +kernel) rfl
theorem t_1197 : (Cond.methodLink RX5 309 yX5_kindHere : Cond) ∈ tbl := tbl_at 1197 (by decide +kernel) rfl
theorem t_1199 : (Cond.instanceMethod yX5_kindHere : Cond) ∈ tbl := tbl_at 1199 (by decide +kernel) rfl
theorem t_1200 : (Cond.code yX5_kindHere cX5_kindHere 3 (some FieldType.int) : Cond) ∈ tbl := tbl_at 1200 (by decide +kernel) rfl
theorem t_1201 : (Cond.methodLink RX5 278 yX5_word : Cond) ∈ tbl := tbl_at 1201 (by decide +kernel) rfl
theorem t_1203 : (Cond.instanceMethod yX5_word : Cond) ∈ tbl := tbl_at 1203 (by decide +kernel) rfl
theorem t_1204 : (Cond.code yX5_word cX5_word 4 (some FieldType.long) : Cond) ∈ tbl := tbl_at 1204 (by decide +kernel) rfl
theorem t_1205 : (Cond.constantLong RX5 267 (36028797018963967) : Cond) ∈ tbl := tbl_at 1205 (by decide +kernel) rfl
theorem t_1206 : (Cond.constantLong RX5 269 (32) : Cond) ∈ tbl := tbl_at 1206 (by decide +kernel) rfl
theorem t_1207 : (Cond.constantLong RX5 282 (676791764) : Cond) ∈ tbl := tbl_at 1207 (by decide +kernel) rfl
theorem t_1208 : (Cond.constantLong RX5 284 (409156) : Cond) ∈ tbl := tbl_at 1208 (by decide +kernel) rfl
theorem t_1209 : (Cond.constantLong RX5 286 (427300) : Cond) ∈ tbl := tbl_at 1209 (by decide +kernel) rfl
theorem t_1210 : (Cond.constantLong RX5 288 (24416759) : Cond) ∈ tbl := tbl_at 1210 (by decide +kernel) rfl
theorem t_1211 : (Cond.constantLong RX5 290 (77177328) : Cond) ∈ tbl := tbl_at 1211 (by decide +kernel) rfl
theorem t_1212 : (Cond.constantLong RX5 292 (3124) : Cond) ∈ tbl := tbl_at 1212 (by decide +kernel) rfl
theorem t_1213 : (Cond.constantLong RX5 294 (267570) : Cond) ∈ tbl := tbl_at 1213 (by decide +kernel) rfl
theorem t_1214 : (Cond.methodLink RX5 312 yX5_tenantItem : Cond) ∈ tbl := tbl_at 1214 (by decide +kernel) rfl
theorem t_1216 : (Cond.instanceMethod yX5_tenantItem : Cond) ∈ tbl := tbl_at 1216 (by decide +kernel) rfl
theorem t_1217 : (Cond.code yX5_tenantItem cX5_tenantItem 3 none : Cond) ∈ tbl := tbl_at 1217 (by decide +kernel) rfl
theorem t_1218 : (Cond.methodLink RX5 274 yX5_must : Cond) ∈ tbl := tbl_at 1218 (by decide +kernel) rfl
theorem t_1220 : (Cond.instanceMethod yX5_must : Cond) ∈ tbl := tbl_at 1220 (by decide +kernel) rfl
theorem t_1221 : (Cond.code yX5_must cX5_must 2 none : Cond) ∈ tbl := tbl_at 1221 (by decide +kernel) rfl
theorem t_1222 : (Cond.constantLong RX5 299 (52) : Cond) ∈ tbl := tbl_at 1222 (by decide +kernel) rfl
theorem t_1223 : (Cond.methodLink RX5 301 yX5_perhaps : Cond) ∈ tbl := tbl_at 1223 (by decide +kernel) rfl
theorem t_1225 : (Cond.instanceMethod yX5_perhaps : Cond) ∈ tbl := tbl_at 1225 (by decide +kernel) rfl
theorem t_1226 : (Cond.code yX5_perhaps cX5_perhaps 5 none : Cond) ∈ tbl := tbl_at 1226 (by decide +kernel) rfl
theorem t_1227 : (Cond.methodLink RX5 296 yX5_number : Cond) ∈ tbl := tbl_at 1227 (by decide +kernel) rfl
theorem t_1229 : (Cond.instanceMethod yX5_number : Cond) ∈ tbl := tbl_at 1229 (by decide +kernel) rfl
theorem t_1230 : (Cond.code yX5_number cX5_number 6 none : Cond) ∈ tbl := tbl_at 1230 (by decide +kernel) rfl
theorem t_1231 : (Cond.constantLong RX5 305 (7847059) : Cond) ∈ tbl := tbl_at 1231 (by decide +kernel) rfl
theorem t_1232 : (Cond.constantLong RX5 307 (13683059) : Cond) ∈ tbl := tbl_at 1232 (by decide +kernel) rfl
theorem t_1233 : (Cond.constantLong RX5 315 (153204) : Cond) ∈ tbl := tbl_at 1233 (by decide +kernel) rfl
theorem t_1234 : (Cond.methodLink RX5 317 yX5_dustItem : Cond) ∈ tbl := tbl_at 1234 (by decide +kernel) rfl
theorem t_1236 : (Cond.instanceMethod yX5_dustItem : Cond) ∈ tbl := tbl_at 1236 (by decide +kernel) rfl
theorem t_1237 : (Cond.code yX5_dustItem cX5_dustItem 2 none : Cond) ∈ tbl := tbl_at 1237 (by decide +kernel) rfl
theorem t_1238 : (Cond.constantLong RX5 320 (4900691220) : Cond) ∈ tbl := tbl_at 1238 (by decide +kernel) rfl
theorem t_1239 : (Cond.methodLink RX5 322 yX5_draughtItem : Cond) ∈ tbl := tbl_at 1239 (by decide +kernel) rfl
theorem t_1241 : (Cond.instanceMethod yX5_draughtItem : Cond) ∈ tbl := tbl_at 1241 (by decide +kernel) rfl
theorem t_1242 : (Cond.code yX5_draughtItem cX5_draughtItem 2 none : Cond) ∈ tbl := tbl_at 1242 (by decide +kernel) rfl
theorem t_1243 : (Cond.constantLong RX5 325 (198028) : Cond) ∈ tbl := tbl_at 1243 (by decide +kernel) rfl
theorem t_1244 : (Cond.methodLink RX5 333 yX5_putsBack : Cond) ∈ tbl := tbl_at 1244 (by decide +kernel) rfl
theorem t_1246 : (Cond.instanceMethod yX5_putsBack : Cond) ∈ tbl := tbl_at 1246 (by decide +kernel) rfl
theorem t_1247 : (Cond.code yX5_putsBack cX5_putsBack 2 none : Cond) ∈ tbl := tbl_at 1247 (by decide +kernel) rfl
theorem t_1248 : (Cond.methodLink RL 153 yX5_hold : Cond) ∈ tbl := tbl_at 1248 (by decide +kernel) rfl
theorem t_1249 : (Cond.instanceMethod yX5_hold : Cond) ∈ tbl := tbl_at 1249 (by decide +kernel) rfl
theorem t_1250 : (Cond.selects RX5 yX5_hold yX5_hold : Cond) ∈ tbl := tbl_at 1250 (by decide +kernel) rfl
theorem t_1251 : (Cond.code yX5_hold cX5_hold 3 (some FieldType.int) : Cond) ∈ tbl := tbl_at 1251 (by decide +kernel) rfl
theorem t_1252 : (Cond.methodLink RX5 338 yX5_isSpot : Cond) ∈ tbl := tbl_at 1252 (by decide +kernel) rfl
theorem t_1253 : (Cond.static yX5_isSpot : Cond) ∈ tbl := tbl_at 1253 (by decide +kernel) rfl
theorem t_1254 : (Cond.code yX5_isSpot cX5_isSpot 1 (some FieldType.boolean) : Cond) ∈ tbl := tbl_at 1254 (by decide +kernel) rfl
theorem t_1255 : (Cond.constantLong RX5 336 (9) : Cond) ∈ tbl := tbl_at 1255 (by decide +kernel) rfl
theorem t_1256 : (Cond.methodLink RL 157 yX5_as : Cond) ∈ tbl := tbl_at 1256 (by decide +kernel) rfl
theorem t_1257 : (Cond.instanceMethod yX5_as : Cond) ∈ tbl := tbl_at 1257 (by decide +kernel) rfl
theorem t_1258 : (Cond.selects RX5 yX5_as yX5_as : Cond) ∈ tbl := tbl_at 1258 (by decide +kernel) rfl
theorem t_1259 : (Cond.code yX5_as cX5_as 5 (some FieldType.int) : Cond) ∈ tbl := tbl_at 1259 (by decide +kernel) rfl
theorem t_1260 : (Cond.methodLink RX5 342 yX5_above : Cond) ∈ tbl := tbl_at 1260 (by decide +kernel) rfl
theorem t_1261 : (Cond.static yX5_above : Cond) ∈ tbl := tbl_at 1261 (by decide +kernel) rfl
theorem t_1262 : (Cond.code yX5_above cX5_above 1 (some FieldType.int) : Cond) ∈ tbl := tbl_at 1262 (by decide +kernel) rfl
theorem t_1263 : (Cond.constant RX5 345 (-1000003) : Cond) ∈ tbl := tbl_at 1263 (by decide +kernel) rfl
theorem t_1264 : (Cond.methodLink RL 161 yX5_sheet : Cond) ∈ tbl := tbl_at 1264 (by decide +kernel) rfl
theorem t_1265 : (Cond.instanceMethod yX5_sheet : Cond) ∈ tbl := tbl_at 1265 (by decide +kernel) rfl
theorem t_1266 : (Cond.selects RX5 yX5_sheet yX5_sheet : Cond) ∈ tbl := tbl_at 1266 (by decide +kernel) rfl
theorem t_1267 : (Cond.code yX5_sheet cX5_sheet 5 (some FieldType.int) : Cond) ∈ tbl := tbl_at 1267 (by decide +kernel) rfl
theorem t_1268 : (Cond.constant RX5 349 (-1000007) : Cond) ∈ tbl := tbl_at 1268 (by decide +kernel) rfl
theorem t_1269 : (Cond.methodLink RL 165 yX5_write : Cond) ∈ tbl := tbl_at 1269 (by decide +kernel) rfl
theorem t_1270 : (Cond.instanceMethod yX5_write : Cond) ∈ tbl := tbl_at 1270 (by decide +kernel) rfl
theorem t_1271 : (Cond.selects RX5 yX5_write yX5_write : Cond) ∈ tbl := tbl_at 1271 (by decide +kernel) rfl
theorem t_1272 : (Cond.code yX5_write cX5_write 5 (some FieldType.int) : Cond) ∈ tbl := tbl_at 1272 (by decide +kernel) rfl
theorem t_1273 : (Cond.methodLink RX5 350 yX5_narrowed : Cond) ∈ tbl := tbl_at 1273 (by decide +kernel) rfl
theorem t_1274 : (Cond.static yX5_narrowed : Cond) ∈ tbl := tbl_at 1274 (by decide +kernel) rfl
theorem t_1275 : (Cond.code yX5_narrowed cX5_narrowed 2 (some FieldType.int) : Cond) ∈ tbl := tbl_at 1275 (by decide +kernel) rfl
theorem t_1276 : (Cond.methodLink RL 170 yX5_copy : Cond) ∈ tbl := tbl_at 1276 (by decide +kernel) rfl
theorem t_1277 : (Cond.instanceMethod yX5_copy : Cond) ∈ tbl := tbl_at 1277 (by decide +kernel) rfl
theorem t_1278 : (Cond.selects RX5 yX5_copy yX5_copy : Cond) ∈ tbl := tbl_at 1278 (by decide +kernel) rfl
theorem t_1279 : (Cond.code yX5_copy cX5_copy 7 (some FieldType.int) : Cond) ∈ tbl := tbl_at 1279 (by decide +kernel) rfl
theorem t_1280 : (Cond.methodLink RL 174 yX5_load : Cond) ∈ tbl := tbl_at 1280 (by decide +kernel) rfl
theorem t_1281 : (Cond.instanceMethod yX5_load : Cond) ∈ tbl := tbl_at 1281 (by decide +kernel) rfl
theorem t_1282 : (Cond.selects RX5 yX5_load yX5_load : Cond) ∈ tbl := tbl_at 1282 (by decide +kernel) rfl
theorem t_1283 : (Cond.code yX5_load cX5_load 4 (some FieldType.int) : Cond) ∈ tbl := tbl_at 1283 (by decide +kernel) rfl
theorem t_1284 : (Cond.methodLink RL 178 yX5_judge : Cond) ∈ tbl := tbl_at 1284 (by decide +kernel) rfl
theorem t_1285 : (Cond.instanceMethod yX5_judge : Cond) ∈ tbl := tbl_at 1285 (by decide +kernel) rfl
theorem t_1286 : (Cond.selects RX5 yX5_judge yX5_judge : Cond) ∈ tbl := tbl_at 1286 (by decide +kernel) rfl
theorem t_1287 : (Cond.code yX5_judge cX5_judge 4 (some FieldType.int) : Cond) ∈ tbl := tbl_at 1287 (by decide +kernel) rfl
theorem t_1288 : (Cond.methodLink RL 182 yX5_image : Cond) ∈ tbl := tbl_at 1288 (by decide +kernel) rfl
theorem t_1289 : (Cond.instanceMethod yX5_image : Cond) ∈ tbl := tbl_at 1289 (by decide +kernel) rfl
theorem t_1290 : (Cond.selects RX5 yX5_image yX5_image : Cond) ∈ tbl := tbl_at 1290 (by decide +kernel) rfl
theorem t_1291 : (Cond.code yX5_image cX5_image 2 (some FieldType.int) : Cond) ∈ tbl := tbl_at 1291 (by decide +kernel) rfl
theorem t_1292 : (Cond.methodLink RL 186 yX5_undo : Cond) ∈ tbl := tbl_at 1292 (by decide +kernel) rfl
theorem t_1293 : (Cond.instanceMethod yX5_undo : Cond) ∈ tbl := tbl_at 1293 (by decide +kernel) rfl
theorem t_1294 : (Cond.selects RX5 yX5_undo yX5_undo : Cond) ∈ tbl := tbl_at 1294 (by decide +kernel) rfl
theorem t_1295 : (Cond.code yX5_undo cX5_undo 2 (some FieldType.int) : Cond) ∈ tbl := tbl_at 1295 (by decide +kernel) rfl
theorem t_1296 : (Cond.methodLink RL 190 yX5_tear : Cond) ∈ tbl := tbl_at 1296 (by decide +kernel) rfl
theorem t_1297 : (Cond.instanceMethod yX5_tear : Cond) ∈ tbl := tbl_at 1297 (by decide +kernel) rfl
theorem t_1298 : (Cond.selects RX5 yX5_tear yX5_tear : Cond) ∈ tbl := tbl_at 1298 (by decide +kernel) rfl
theorem t_1299 : (Cond.code yX5_tear cX5_tear 2 (some FieldType.int) : Cond) ∈ tbl := tbl_at 1299 (by decide +kernel) rfl
theorem t_1300 : (Cond.methodLink RL 194 yX5_count : Cond) ∈ tbl := tbl_at 1300 (by decide +kernel) rfl
theorem t_1301 : (Cond.instanceMethod yX5_count : Cond) ∈ tbl := tbl_at 1301 (by decide +kernel) rfl
theorem t_1302 : (Cond.selects RX5 yX5_count yX5_count : Cond) ∈ tbl := tbl_at 1302 (by decide +kernel) rfl
theorem t_1303 : (Cond.code yX5_count cX5_count 2 (some FieldType.int) : Cond) ∈ tbl := tbl_at 1303 (by decide +kernel) rfl
theorem t_1304 : (Cond.methodLink RX5 356 yX5_heldSpots : Cond) ∈ tbl := tbl_at 1304 (by decide +kernel) rfl
theorem t_1306 : (Cond.instanceMethod yX5_heldSpots : Cond) ∈ tbl := tbl_at 1306 (by decide +kernel) rfl
theorem t_1307 : (Cond.code yX5_heldSpots cX5_heldSpots 3 (some FieldType.int) : Cond) ∈ tbl := tbl_at 1307 (by decide +kernel) rfl
theorem t_1308 : (Cond.methodLink RL 198 yX5_status : Cond) ∈ tbl := tbl_at 1308 (by decide +kernel) rfl
theorem t_1309 : (Cond.instanceMethod yX5_status : Cond) ∈ tbl := tbl_at 1309 (by decide +kernel) rfl
theorem t_1310 : (Cond.selects RX5 yX5_status yX5_status : Cond) ∈ tbl := tbl_at 1310 (by decide +kernel) rfl
theorem t_1311 : (Cond.code yX5_status cX5_status 4 (some FieldType.int) : Cond) ∈ tbl := tbl_at 1311 (by decide +kernel) rfl
theorem t_1312 : (Cond.constantLong RX5 359 (-1) : Cond) ∈ tbl := tbl_at 1312 (by decide +kernel) rfl
theorem t_1313 : (Cond.fieldLink RJ0 9 "java/lang/String" "value" "[B" : Cond) ∈ tbl := tbl_at 1313 (by decide +kernel) rfl
theorem t_1314 : (Cond.fieldLink RJ0 15 "java/lang/String" "coder" "B" : Cond) ∈ tbl := tbl_at 1314 (by decide +kernel) rfl
end
section
/-! ===== numbers: every int is iI of an Int ===== -/
def iI (x : Int) : Int32 := Int32.ofInt x
def iL (x : Int) : Int64 := Int64.ofInt x
def rng (x : Int) : Prop := -2147483648 ≤ x ∧ x ≤ 2147483647
def rngL (x : Int) : Prop := -9223372036854775808 ≤ x ∧ x ≤ 9223372036854775807
theorem iI_toInt {x : Int} (h : rng x) : (iI x).toInt = x := Int32.toInt_ofInt_of_le (by have h1 := h.1; omega) (by have h2 := h.2; omega)
theorem iL_toInt {x : Int} (h : rngL x) : (iL x).toInt = x := Int64.toInt_ofInt_of_le (by have h1 := h.1; omega) (by have h2 := h.2; omega)
theorem iI_of (x : Int32) : iI x.toInt = x := Int32.ofInt_toInt x
theorem iI_rng (x : Int32) : rng x.toInt := ⟨by have h := x.le_toInt; omega, by have h := x.toInt_lt; omega⟩
theorem iI_any (x : Int32) : ∃ a : Int, rng a ∧ x = iI a := ⟨x.toInt, iI_rng x, (iI_of x).symm⟩
theorem iI_add (a b : Int) : iI a + iI b = iI (a + b) := (Int32.ofInt_add a b).symm
theorem iI_sub (a b : Int) : iI a - iI b = iI (a - b) := (Int32.ofInt_sub a b).symm
theorem iI_mul (a b : Int) : iI a * iI b = iI (a * b) := (Int32.ofInt_mul a b).symm
theorem iI_neg (a : Int) : -iI a = iI (-a) := (Int32.ofInt_neg a).symm
theorem iL_add (a b : Int) : iL a + iL b = iL (a + b) := (Int64.ofInt_add a b).symm
theorem iL_mul (a b : Int) : iL a * iL b = iL (a * b) := (Int64.ofInt_mul a b).symm
theorem iI_eq {a b : Int} (ha : rng a) (hb : rng b) : iI a = iI b ↔ a = b := ⟨fun h => by rw [← iI_toInt ha, ← iI_toInt hb, h], fun h => by rw [h]⟩
theorem iI_lt {a b : Int} (ha : rng a) (hb : rng b) : iI a < iI b ↔ a < b := by rw [Int32.lt_iff_toInt_lt, iI_toInt ha, iI_toInt hb]
theorem iI_le {a b : Int} (ha : rng a) (hb : rng b) : iI a ≤ iI b ↔ a ≤ b := by rw [Int32.le_iff_toInt_le, iI_toInt ha, iI_toInt hb]
theorem iL_eq {a b : Int} (ha : rngL a) (hb : rngL b) : iL a = iL b ↔ a = b := ⟨fun h => by rw [← iL_toInt ha, ← iL_toInt hb, h], fun h => by rw [h]⟩
theorem iL_lt {a b : Int} (ha : rngL a) (hb : rngL b) : iL a < iL b ↔ a < b := by rw [Int64.lt_iff_toInt_lt, iL_toInt ha, iL_toInt hb]
theorem rng0 : rng 0 := ⟨by decide, by decide⟩
theorem iI_0 : (0 : Int32) = iI 0 := by decide
theorem iI_nat (n : Nat) : iI (n : Int) = nI n := Int32.ofInt_eq_ofNat
theorem iI_clamp {a : Int} {j : Nat} (h : a = (j : Int)) (hj : j < 2147483648) : (iI a).toNatClampNeg = j := by
  rw [h, iI_nat]
  exact nI_clamp (by omega)
theorem iI_in {a : Int} {j n : Nat} (h : a = (j : Int)) (hj : j < n) (hn : n < 2147483648) : vp_in (iI a) n := by
  rw [h, iI_nat]
  exact vp_in_nI hj (by omega)
theorem iI_div {a b : Int} (ha : 0 ≤ a) (ha2 : a ≤ 2147483647) (hb : 0 < b) (hb2 : b ≤ 2147483647) : iI a / iI b = iI (a / b) := by
  obtain ⟨x, rfl⟩ := Int.eq_ofNat_of_zero_le ha
  obtain ⟨y, rfl⟩ := Int.eq_ofNat_of_zero_le (Int.le_of_lt hb)
  have e : ((x : Int) / (y : Int)) = ((x / y : Nat) : Int) := (Int.natCast_ediv x y).symm
  rw [e, iI_nat, iI_nat, iI_nat]
  exact pk_div (by omega) (by omega) (by omega)
theorem iI_rem {a b : Int} (ha : 0 ≤ a) (ha2 : a ≤ 2147483647) (hb : 0 < b) (hb2 : b ≤ 2147483647) : iI a - iI a / iI b * iI b = iI (a % b) := by
  rw [iI_div ha ha2 hb hb2, iI_mul, iI_sub]
  congr 1
  have h1 := Int.emod_def a b
  rw [h1, Int.mul_comm]
theorem iI_ne0 {b : Int} (hb : 0 < b) (hb2 : b ≤ 2147483647) : ¬ iI b = 0 := by
  rw [iI_0, iI_eq ⟨by omega, hb2⟩ rng0]
  omega
theorem iI_wide {a : Int} (h : rng a) : (iI a).toInt64 = iL a := by
  have h1 := h.1
  have h2 := h.2
  apply Int64.toInt_inj.mp
  rw [Int32.toInt_toInt64, iI_toInt h, iL_toInt ⟨by omega, by omega⟩]
/-- the bits' functions, on Ints, by way of the ints themselves -/
def band (a b : Int) : Int := (iI a &&& iI b).toInt
def bor (a b : Int) : Int := (iI a ||| iI b).toInt
def bxor (a b : Int) : Int := (iI a ^^^ iI b).toInt
def bshl (a b : Int) : Int := (iI a <<< (iI b &&& 31)).toInt
def bshr (a b : Int) : Int := (iI a >>> (iI b &&& 31)).toInt
def bushr (a b : Int) : Int := ((iI a).toUInt32 >>> ((iI b).toUInt32 &&& Int32.toUInt32 31)).toInt32.toInt
def i8 (a : Int) : Int := (iI a).toInt8.toInt32.toInt
def i16 (a : Int) : Int := (iI a).toInt16.toInt32.toInt
theorem band_rng (a b : Int) : rng (band a b) := iI_rng _
theorem bor_rng (a b : Int) : rng (bor a b) := iI_rng _
theorem bxor_rng (a b : Int) : rng (bxor a b) := iI_rng _
theorem bshl_rng (a b : Int) : rng (bshl a b) := iI_rng _
theorem bshr_rng (a b : Int) : rng (bshr a b) := iI_rng _
theorem bushr_rng (a b : Int) : rng (bushr a b) := iI_rng _
/-- a long compare -/
def lc (a b : Int) : Int := if b < a then 1 else if a = b then 0 else -1
theorem lc_rng (a b : Int) : rng (lc a b) := by
  unfold lc
  split
  · exact ⟨by decide, by decide⟩
  · split <;> exact ⟨by decide, by decide⟩
theorem lc_lt {a b : Int} : lc a b < 0 ↔ a < b := by
  unfold lc
  split
  · omega
  · split <;> omega
theorem lc_gt {a b : Int} : 0 < lc a b ↔ b < a := by
  unfold lc
  split
  · omega
  · split <;> omega
theorem lc_eq {a b : Int} : lc a b = 0 ↔ a = b := by
  unfold lc
  split
  · omega
  · split <;> omega
theorem lc_is {a b : Int} (ha : rngL a) (hb : rngL b) : lg_cmp (iL a) (iL b) = iI (lc a b) := by
  unfold lg_cmp lc
  by_cases h : b < a
  · rw [if_pos h, if_pos (show iL a > iL b from (iL_lt hb ha).mpr h)]
    decide
  · rw [if_neg h, if_neg (fun q => h ((iL_lt hb ha).mp q))]
    by_cases h2 : a = b
    · rw [if_pos h2, if_pos ((iL_eq ha hb).mpr h2)]
      decide
    · rw [if_neg h2, if_neg (fun q => h2 ((iL_eq ha hb).mp q))]
      decide
/-! ===== the state of all cells, as Ints ===== -/
abbrev Sg : Type := Nat → Nat → Int
def up (f : Nat → Int) (k : Nat) (x : Int) : Nat → Int := fun j => if j = k then x else f j
def us (σ : Sg) (k : Nat) (f : Nat → Int) : Sg := fun j => if j = k then f else σ j
def wr (σ : Sg) (k j : Nat) (x : Int) : Sg := us σ k (up (σ k) j x)
theorem up_s (f : Nat → Int) (k : Nat) (x : Int) : up f k x k = x := by simp [up]
theorem up_n (f : Nat → Int) {k j : Nat} (x : Int) (h : j ≠ k) : up f k x j = f j := by simp [up, h]
theorem us_s (σ : Sg) (k : Nat) (f : Nat → Int) : us σ k f k = f := by simp [us]
theorem us_n (σ : Sg) {k j : Nat} (f : Nat → Int) (h : j ≠ k) : us σ k f j = σ j := by simp [us, h]
theorem us_id (σ : Sg) (k : Nat) : us σ k (σ k) = σ := by
  funext j
  by_cases h : j = k
  · rw [h, us_s]
  · rw [us_n _ _ h]
theorem us_us (σ : Sg) (k : Nat) (f h : Nat → Int) : us (us σ k f) k h = us σ k h := by
  funext j
  by_cases e : j = k
  · rw [e, us_s, us_s]
  · rw [us_n _ _ e, us_n _ _ e, us_n _ _ e]
theorem wr_s (σ : Sg) (k j : Nat) (x : Int) : wr σ k j x k = up (σ k) j x := us_s _ _ _
theorem wr_n (σ : Sg) {k k' : Nat} (j : Nat) (x : Int) (h : k' ≠ k) : wr σ k j x k' = σ k' := us_n _ _ h
def cpy (f h : Nat → Int) (sp dp n : Nat) : Nat → Int := fun k => if dp ≤ k ∧ k < dp + n then f (sp + (k - dp)) else h k
/-! ===== the cells: rooms 0, 8, 16 (object, dust, blown, kind, at, goods, marks, spots); 24 tape, 25 its bytes; 26 reader, 27 types, 28 starts, 29 values; 30 sheets, 31 33 35 37 a sheet, 32 34 36 38 its numbers; 39 findings; 40 DustLand; 41 the model, 42 s, 43 keptS, 44 other, 45 aside, 46 statuses, 47 then, 48 held, 49 tape, 50 bitsOf, 51 sizeOf, 52 numbers, 53 moved ===== -/
def al (k : Nat) : Nat := if k < 24 then (match k % 8 with
    | 1 => 12
    | 2 => 12
    | 3 => 8
    | 4 => 8
    | 5 => 8
    | 6 => 96
    | 7 => 10
    | _ => 0) else match k with
  | 25 => 120
  | 27 => 121
  | 28 => 121
  | 29 => 121
  | 32 => 40
  | 34 => 40
  | 36 => 40
  | 38 => 40
  | 39 => 7
  | 42 => 147
  | 43 => 147
  | 44 => 147
  | 45 => 147
  | 46 => 7
  | 47 => 12
  | 48 => 12
  | 49 => 120
  | 50 => 4
  | 51 => 4
  | 52 => 160
  | 53 => 40
  | _ => 0
def oc (k : Nat) : Option Nat := if k < 24 then (if k % 8 = 0 then some 0 else none) else match k with
  | 24 => some 2
  | 26 => some 3
  | 31 => some 1
  | 33 => some 1
  | 35 => some 1
  | 37 => some 1
  | 40 => some 4
  | 41 => some 5
  | _ => none
def nf (ci : Nat) : Nat := match ci with
  | 0 => 12
  | 1 => 3
  | 2 => 2
  | 3 => 5
  | 4 => 8
  | _ => 19
/-- where a field of an object that is a reference leads -/
def rf (k j : Nat) : Option Nat := if k < 24 then (if j < 7 then some (k + 1 + j) else none) else match k with
  | 24 => (if j = 0 then some 25 else none)
  | 26 => (if j < 3 then some (27 + j) else none)
  | 31 => (if j = 0 then some 32 else none)
  | 33 => (if j = 0 then some 34 else none)
  | 35 => (if j = 0 then some 36 else none)
  | 37 => (if j = 0 then some 38 else none)
  | 40 => (match j with
    | 0 => some 0
    | 1 => some 8
    | 2 => some 16
    | 4 => some 24
    | 5 => some 26
    | 6 => some 30
    | 7 => some 39
    | _ => none)
  | 41 => (match j with
    | 0 => some 42
    | 1 => some 43
    | 2 => some 44
    | 3 => some 45
    | 4 => some 46
    | 7 => some 47
    | 8 => some 48
    | 9 => some 49
    | 15 => some 50
    | 16 => some 51
    | 17 => some 52
    | 18 => some 53
    | _ => none)
  | _ => none
/-- what is fixed: the launch, classes and slots, the two array classes, the cells' addresses, those of the three static arrays, of the String constants and of their bytes -/
abbrev Gt : Type := Launch × va_G × ClassId × ClassId × (Nat → Nat) × (Nat → Nat) × (Nat → Nat) × (Nat → Nat)
def gL (g : Gt) : Launch := g.1
def gD (g : Gt) : va_G := g.2.1
def gI (g : Gt) : ClassId := g.2.2.1
def gQ (g : Gt) : ClassId := g.2.2.2.1
def gA (g : Gt) : Nat → Nat := g.2.2.2.2.1
def gT (g : Gt) : Nat → Nat := g.2.2.2.2.2.1
def gK (g : Gt) : Nat → Nat := g.2.2.2.2.2.2.1
def gV (g : Gt) : Nat → Nat := g.2.2.2.2.2.2.2
def cls : List vw_C := [(RX0, TX0, 12), (RX1, TX1, 3), (RX2, TX2, 2), (RX3, TX3, 5), (RX4, TX4, 8), (RX5, TX5, 19)]
def fv (g : Gt) (σ : Sg) (k j : Nat) : Value := match rf k j with
  | some k' => .ref (gA g k')
  | none => .int (iI (σ k j))
def fl (g : Gt) (σ : Sg) (k n : Nat) : List Value := (List.range n).map (fv g σ k)
def ce (g : Gt) (σ : Sg) (k : Nat) : va_E := match oc k with
  | some ci => .inr (ci, fl g σ k (nf ci))
  | none => if k = 30 then .inl (gQ g, 4, .inr (.inr (.inr (.inr (fun j => some (gA g (31 + 2 * j))))))) else .inl (gI g, al k, .inl (fun j => iI (σ k j)))
def cw (g : Gt) (σ : Sg) : va_W := (List.range 54).map (fun k => (gA g k, ce g σ k))
def aw (g : Gt) : Nat → Prop := fun q => ∃ k, k < 54 ∧ q = gA g k
def Dg (g : Gt) : Prop := ∀ i j, i < 54 → j < 54 → gA g i = gA g j → i = j
theorem cw_at {g : Gt} {σ : Sg} {k : Nat} (hk : k < 54) : (cw g σ)[k]? = some (gA g k, ce g σ k) := by
  unfold cw
  rw [List.getElem?_map, List.getElem?_range hk]
  rfl
theorem cw_len (g : Gt) (σ : Sg) : (cw g σ).length = 54 := by simp [cw]
theorem cw_inv {g : Gt} {σ : Sg} {k : Nat} {q : Nat × va_E} (h : (cw g σ)[k]? = some q) : k < 54 ∧ q = (gA g k, ce g σ k) := by
  have hk : k < 54 := by
    have := (List.getElem?_eq_some_iff.mp h).1
    rwa [cw_len] at this
  rw [cw_at hk] at h
  exact ⟨hk, (Option.some.inj h).symm⟩
theorem cwD {g : Gt} (h : Dg g) (σ : Sg) : va_D (aw g) (cw g σ) := by
  refine ⟨fun i j p q hi hj e => ?_, fun k q hk => ?_⟩
  · obtain ⟨h1, rfl⟩ := cw_inv hi
    obtain ⟨h2, rfl⟩ := cw_inv hj
    exact h i j h1 h2 e
  · obtain ⟨h1, rfl⟩ := cw_inv hk
    exact ⟨k, h1, rfl⟩
theorem ce_congr {g : Gt} {σ σ' : Sg} {k : Nat} (h : σ' k = σ k) : ce g σ' k = ce g σ k := by
  have h1 : ∀ j, σ' k j = σ k j := fun j => by rw [h]
  unfold ce fl fv
  simp only [h1]
theorem cw_set {g : Gt} {σ σ' : Sg} {k : Nat} {e : va_E} (hk : k < 54) (he : ce g σ' k = e) (ho : ∀ k', k' ≠ k → σ' k' = σ k') : (cw g σ).set k (gA g k, e) = cw g σ' := by
  apply List.ext_getElem?
  intro i
  by_cases hi : i = k
  · subst hi
    rw [List.getElem?_set_self (by rw [cw_len]; exact hk), cw_at hk, he]
  · rw [List.getElem?_set_ne (fun h => hi h.symm)]
    by_cases h2 : i < 54
    · rw [cw_at h2, cw_at h2, ce_congr (ho i hi)]
    · rw [List.getElem?_eq_none (by rw [cw_len]; omega), List.getElem?_eq_none (by rw [cw_len]; omega)]
/-- an int array of n -/
def isA (k n : Nat) : Prop := k < 54 ∧ oc k = none ∧ k ≠ 30 ∧ al k = n ∧ n < 2147483648
/-- an object of a class -/
def isO (k ci : Nat) : Prop := k < 54 ∧ oc k = some ci
theorem ce_A {g : Gt} {σ : Sg} {k n : Nat} (h : isA k n) : ce g σ k = .inl (gI g, n, .inl (fun j => iI (σ k j))) := by
  obtain ⟨h1, h2, h3, h4, -⟩ := h
  unfold ce
  rw [h2, if_neg h3, h4]
theorem ce_O {g : Gt} {σ : Sg} {k ci : Nat} (h : isO k ci) : ce g σ k = .inr (ci, fl g σ k (nf ci)) := by
  unfold ce
  rw [h.2]
theorem fl_at {g : Gt} {σ : Sg} {k n j : Nat} (hj : j < n) : (fl g σ k n)[j]? = some (fv g σ k j) := by
  unfold fl
  rw [List.getElem?_map, List.getElem?_range hj]
  rfl
theorem fl_len (g : Gt) (σ : Sg) (k n : Nat) : (fl g σ k n).length = n := by simp [fl]
theorem fv_r {g : Gt} {σ : Sg} {k j k' : Nat} (h : rf k j = some k') : fv g σ k j = .ref (gA g k') := by
  unfold fv
  rw [h]
theorem fv_i {g : Gt} {σ : Sg} {k j : Nat} (h : rf k j = none) : fv g σ k j = .int (iI (σ k j)) := by
  unfold fv
  rw [h]
theorem fl_set {g : Gt} {σ : Sg} {k n j : Nat} (x : Int) (hj : j < n) (h : rf k j = none) : (fl g σ k n).set j (.int (iI x)) = fl g (wr σ k j x) k n := by
  apply List.ext_getElem?
  intro i
  by_cases hi : i = j
  · subst hi
    rw [List.getElem?_set_self (by rw [fl_len]; exact hj), fl_at hj, fv_i h, wr_s, up_s]
  · rw [List.getElem?_set_ne (fun q => hi q.symm)]
    by_cases h2 : i < n
    · rw [fl_at h2, fl_at h2]
      unfold fv
      cases rf k i with
      | some k' => rfl
      | none => rw [wr_s, up_n _ _ hi]
    · rw [List.getElem?_eq_none (by rw [fl_len]; omega), List.getElem?_eq_none (by rw [fl_len]; omega)]
theorem ce_put {g : Gt} {σ : Sg} {k ci j : Nat} (x : Int) (h : isO k ci) (hj : j < nf ci) (hr : rf k j = none) : ce g (wr σ k j x) k = .inr (ci, (fl g σ k (nf ci)).set j (.int (iI x))) := by
  rw [ce_O h, fl_set x hj hr]
theorem ce_ast {g : Gt} {σ : Sg} {k n j : Nat} (x : Int) (h : isA k n) : ce g (wr σ k j x) k = .inl (gI g, n, .inl (upd (fun j => iI (σ k j)) j (iI x))) := by
  rw [ce_A h]
  congr 4
  funext i
  rw [wr_s]
  unfold up upd
  split <;> rfl
theorem wr_o {σ : Sg} {k j : Nat} {x : Int} : ∀ k', k' ≠ k → wr σ k j x k' = σ k' := fun _ h => wr_n σ j x h
end
section
/-! ===== what a method may count on at its start, beside the cells ===== -/
def tysOf (g : Gt) : List (ClassId × FieldType) := [(gI g, .int), (gQ g, .object RX1)]
def stab (i j : Nat) : Int := (([[3, 6, 1, 1, 1, 0, 7], [0, 0, 20, 10, 10, 5, 1], [-1, 0, 0, 2, 3, 0, 1]] : List (List Int)).getD i []).getD j 0
def skey (i : Nat) : Nat := 72 + 2 * i
def stxt (i : Nat) : String := (["tenant", "lord", "maid", "widow", "bishop", "cat", "heir", "dust", "fall", "draught", "at", "goods", "marks", ""] : List String).getD i ""
def slen : List Nat := [6, 4, 4, 5, 6, 3, 4, 4, 4, 7, 2, 5, 5, 0]
def sbyt : List (List Int32) := [[116, 101, 110, 97, 110, 116], [108, 111, 114, 100], [109, 97, 105, 100], [119, 105, 100, 111, 119], [98, 105, 115, 104, 111, 112], [99, 97, 116], [104, 101, 105, 114], [100, 117, 115, 116], [102, 97, 108, 108], [100, 114, 97, 117, 103, 104, 116], [97, 116], [103, 111, 111, 100, 115], [109, 97, 114, 107, 115], []]
def nLv : Cond := .fieldLinkNest RX0 76 RX4 "LEAVES" "[I" RX4
def nSw : Cond := .fieldLinkNest RX0 99 RX4 "SWEEPS" "[I" RX4
def nSum : Cond := .methodLinkNest RX0 72 yX4_sumOf RX4
def nKd : Cond := .methodLinkNest RX3 108 yX4_isKind RX4
def Fs (g : Gt) (U : State) : Prop := (∀ i, i < 14 → vk_R RX3 (skey i) (stxt i) (gK g i) U) ∧ vk_S 14 slen sbyt (gK g) (gV g) (aw g) U U.heap ∧ va_Z "java/lang/String" "COMPACT_STRINGS" "Z" (.int 1) (aw g) U U.heap ∧ va_Zq "jdk/internal/util/Preconditions" "SIOOBE_FORMATTER" "Ljava/util/function/BiFunction;" (aw g) U U.heap
def Ft (g : Gt) (n : String) (i : Nat) (U : State) : Prop := va_Z "DustLand" n "[I" (.ref (gT g i)) (aw g) U U.heap ∧ va_T .int (gT g i) 7 (fun j => .int (iI (stab i j))) (aw g) U U.heap
def Fn (U : State) : Prop := va_Nw nLv U ∧ va_Nw nSw U ∧ va_Nw nSum U ∧ va_Nw nKd U
def Fx (g : Gt) (U : State) : Prop := va_K (gD g) cls (tysOf g) U ∧ Ft g "LEAVES" 0 U ∧ Ft g "SWEEPS" 1 U ∧ Ft g "ABOVE" 2 U ∧ Fn U ∧ Fs g U
theorem Fn_warm {s U : State} (hW : s.WarmedH U.vm) (h : Fn s) : Fn U := ⟨va_Nw.warmF hW h.1, va_Nw.warmF hW h.2.1, va_Nw.warmM hW h.2.2.1, va_Nw.warmM hW h.2.2.2⟩
theorem Fn_same {s U : State} (hv : s.vm = U.vm) (h : Fn s) : Fn U := ⟨va_Nw.same rfl hv h.1, va_Nw.same rfl hv h.2.1, va_Nw.same rfl hv h.2.2.1, va_Nw.same rfl hv h.2.2.2⟩
theorem Fx_warm {g : Gt} {s U : State} (hW : s.WarmedH U.vm) (hq : ∀ a : Nat, a < s.heap.size → ¬ aw g a → U.heap[a]? = s.heap[a]?) (h : Fx g s) : Fx g U := by
  obtain ⟨hK, ⟨a1, a2⟩, ⟨b1, b2⟩, ⟨c1, c2⟩, hN, k1, k2, k3, k4⟩ := h
  have ha := hW.alike
  exact ⟨va_K.moved ha hK, ⟨(va_Z.moved ha a1).kept hq, (va_T.moved ha a2).kept hq⟩, ⟨(va_Z.moved ha b1).kept hq, (va_T.moved ha b2).kept hq⟩, ⟨(va_Z.moved ha c1).kept hq, (va_T.moved ha c2).kept hq⟩, Fn_warm hW hN, fun i hi => (k1 i hi).warm hW, (vk_S.moved ha k2).kept hq, (va_Z.moved ha k3).kept hq, (va_Zq.moved ha k4).kept hq⟩
theorem Fx_same {g : Gt} {s U : State} (hv : s.vm = U.vm) (hh : U.heap = s.heap) (h : Fx g s) : Fx g U := by
  obtain ⟨hK, ⟨a1, a2⟩, ⟨b1, b2⟩, ⟨c1, c2⟩, hN, k1, k2, k3, k4⟩ := h
  have ha : s.vm.Alike U.vm := by rw [← hv]; exact Vm.Alike.refl s.vm
  have hq : ∀ a : Nat, a < s.heap.size → ¬ aw g a → U.heap[a]? = s.heap[a]? := fun a _ _ => by rw [hh]
  exact ⟨va_K.moved ha hK, ⟨(va_Z.moved ha a1).kept hq, (va_T.moved ha a2).kept hq⟩, ⟨(va_Z.moved ha b1).kept hq, (va_T.moved ha b2).kept hq⟩, ⟨(va_Z.moved ha c1).kept hq, (va_T.moved ha c2).kept hq⟩, Fn_same hv hN, fun i hi => (k1 i hi).same hv.symm, (vk_S.moved ha k2).kept hq, (va_Z.moved ha k3).kept hq, (va_Zq.moved ha k4).kept hq⟩
/-- a method's start: the cells hold σ -/
def Wd (g : Gt) (σ : Sg) (U : State) : Prop := va_P (gD g) cls (cw g σ) U.heap ∧ Fx g U ∧ Dg g
/-- a method's end -/
def Qn (g : Gt) (post : Option Value → Sg → Prop) : Array Value → State → Outcome → State → Prop := fun _ st oc t => (∃ (v : Option Value) (σ' : Sg), oc = .returned v ∧ post v σ' ∧ va_P (gD g) cls (cw g σ') t.heap) ∧ va_F (aw g) st t
def rmD (d : Nat) : Room := { frames := d, cells := 0, slots := 0, locals := 37 * d }
def wsOf (y : MethodName) (cc : ByteArray) (n : Nat) (ret : Option FieldType) : List Cond := .code y cc n ret :: tbl
/-- the contract: called with these arguments over σ it returns, and 'post answer σ2'; d: the calls that may stand open -/
def Mt (g : Gt) (y : MethodName) (cc : ByteArray) (n : Nat) (ret : Option FieldType) (d : Nat) (av : List Value) (σ : Sg) (post : Option Value → Sg → Prop) : Prop :=
  Met (gL g) y (wsOf y cc n ret) (rmD d) (va_Pc av (Wd g σ)) (Qn g post) 0 0 (aw g)
abbrev Ev : Type := Program × Env × Room × State × MethodId × Array Value × List Frame × Method × Code
/-- the machine at pc of a method, with these locals, this stack, over σ, comes to its end with 'post' -/
def J (g : Gt) (E : Ev) (post : Option Value → Sg → Prop) (nL pc : Nat) (lv : List (Nat × Value)) (st : List Value) (σ : Sg) : Prop :=
  match E with
  | (p, e, R, s, m, args, below, meth, c) => ∀ (ls : Array Slot) (H : Heap) (locs : List Loc), lv_has ls nL lv → va_P (gD g) cls (cw g σ) H → va_S (aw g) s.heap H locs → W p (gL g) e R s m args below meth c H locs 0 0 (MQ below (Qn g post) args s 0 0 (aw g)) (F0 m pc ls st)
def Cx (g : Gt) (E : Ev) (cc : ByteArray) (nL : Nat) (own : String) (ret : Option FieldType) (d : Nat) : Prop :=
  match E with
  | (p, e, R, s, m, args, below, meth, c) => p.tables.exec = Jvm.exec ∧ c.code = cc ∧ c.maxLocals = nL ∧ s.vm.findClass own = some m.cls ∧ (∀ w ∈ tbl, w.before args s = true) ∧ meth.sig.returnType = ret ∧ meth.locks = false ∧ R = rmD d ∧ Fx g s ∧ Dg g
theorem FrameBlind_Wd (g : Gt) (av : List Value) (σ : Sg) : FrameBlind (va_Pc av (Wd g σ)) := fun a U fr mk h => ⟨h.1, h.2.1, Fx_same (s := U) (U := U.calling fr mk a) rfl rfl h.2.2.1, h.2.2.2⟩
theorem mt_of {g : Gt} {y : MethodName} {cc : ByteArray} {n : Nat} {ret : Option FieldType} {d : Nat} {av : List Value} {σ : Sg} {post : Option Value → Sg → Prop} {own : String} (hy : plainName y.cls = true) (ho : y.cls = own) (hn : (lg_sl av).length ≤ n)
    (h : ∀ E : Ev, Cx g E cc n own ret d → J g E post n 0 (lv_args 0 av) [] σ) : Mt g y cc n ret d av σ post := by
  subst ho
  refine Met.ofW (cc := cc) (maxL := n) (ret := ret) hy rfl ?_
  intro p e s m args below meth c s₁ B hml hv
  obtain ⟨rfl, hP, hF, hD⟩ := hv
  have hts := atoms_spec (ws := wsOf y cc n ret) B.pre
  have hl := lv_entry av (n := n) hn
  rw [lg_entry_eq]
  exact h (p, e, (headSpec (wsOf y cc n ret) (rmD d)).room, s, m, av.toArray, below, meth, c) ⟨B.exec, B.bytes, hml, findClass_of_methodNamed B.named, fun w hw => hts w (List.mem_cons_of_mem _ hw), B.returns, B.notSynchronized, rfl, hF, hD⟩ _ _ _ hl hP va_S.rf
theorem wsOf_good {y : MethodName} {cc : ByteArray} {n : Nat} {ret : Option FieldType} (h : Cond.code y cc n ret ∈ tbl) : GoodIn tbl (wsOf y cc n ret) := by
  intro w hw
  have hw' : w ∈ tbl := by
    rcases List.mem_cons.mp hw with e | e
    · rw [e]; exact h
    · exact e
  exact ⟨hw', tbl_good w hw'⟩
end
section
section ROWS
variable {g : Gt} {E : Ev} {post : Option Value → Sg → Prop} {cc : ByteArray} {nL pc d : Nat} {own : String} {ret : Option FieldType} {lv : List (Nat × Value)} {st : List Value} {σ : Sg}
theorem r_iconst (C : Cx g E cc nL own ret d) {n : Int} (hd : decode cc pc = .ok (.iconst n, 1)) (k : J g E post nL (pc + 1) lv (.int (iI n) :: st) σ) : J g E post nL pc lv st σ := by
  obtain ⟨p, e, R, s, m, args, below, meth, c⟩ := E
  obtain ⟨hx, hb, hml, hown, hts, hr, hlk, hR, hF, hD⟩ := C
  intro ls H locs hl hP hS
  exact lv_iconst hx hb hd rfl (k ls H locs hl hP hS)

theorem r_bipush (C : Cx g E cc nL own ret d) {n : Int} (hd : decode cc pc = .ok (.bipush n, 2)) (hv : (Int8.ofInt n).toInt32 = iI n) (k : J g E post nL (pc + 2) lv (.int (iI n) :: st) σ) : J g E post nL pc lv st σ := by
  obtain ⟨p, e, R, s, m, args, below, meth, c⟩ := E
  obtain ⟨hx, hb, hml, hown, hts, hr, hlk, hR, hF, hD⟩ := C
  intro ls H locs hl hP hS
  exact lv_bipush hx hb hd hv (k ls H locs hl hP hS)

theorem r_sipush (C : Cx g E cc nL own ret d) {n : Int} (hd : decode cc pc = .ok (.sipush n, 3)) (hv : (Int16.ofInt n).toInt32 = iI n) (k : J g E post nL (pc + 3) lv (.int (iI n) :: st) σ) : J g E post nL pc lv st σ := by
  obtain ⟨p, e, R, s, m, args, below, meth, c⟩ := E
  obtain ⟨hx, hb, hml, hown, hts, hr, hlk, hR, hF, hD⟩ := C
  intro ls H locs hl hP hS
  exact lv_sipush hx hb hd hv (k ls H locs hl hP hS)

theorem r_ldc (C : Cx g E cc nL own ret d) {i : Nat} {v : Int32} (n : Int) (hw : Cond.constant own i v ∈ tbl) (hv : v = iI n) (hd : decode cc pc = .ok (.ldc i, 2)) (k : J g E post nL (pc + 2) lv (.int (iI n) :: st) σ) : J g E post nL pc lv st σ := by
  obtain ⟨p, e, R, s, m, args, below, meth, c⟩ := E
  obtain ⟨hx, hb, hml, hown, hts, hr, hlk, hR, hF, hD⟩ := C
  intro ls H locs hl hP hS
  subst hv
  exact lv_ldc hx hb hown (hts _ hw) hd (k ls H locs hl hP hS)

theorem r_ldcw (C : Cx g E cc nL own ret d) {i : Nat} {v : Int32} (n : Int) (hw : Cond.constant own i v ∈ tbl) (hv : v = iI n) (hd : decode cc pc = .ok (.ldc_w i, 3)) (k : J g E post nL (pc + 3) lv (.int (iI n) :: st) σ) : J g E post nL pc lv st σ := by
  obtain ⟨p, e, R, s, m, args, below, meth, c⟩ := E
  obtain ⟨hx, hb, hml, hown, hts, hr, hlk, hR, hF, hD⟩ := C
  intro ls H locs hl hP hS
  subst hv
  exact lv_ldcw hx hb hown (hts _ hw) hd (k ls H locs hl hP hS)

theorem r_lconst (C : Cx g E cc nL own ret d) {q : Fin 2} {n : Int} (hd : decode cc pc = .ok (.lconst q, 1)) (hv : Int64.ofNat (q : Nat) = iL n) (k : J g E post nL (pc + 1) lv (.long (iL n) :: st) σ) : J g E post nL pc lv st σ := by
  obtain ⟨p, e, R, s, m, args, below, meth, c⟩ := E
  obtain ⟨hx, hb, hml, hown, hts, hr, hlk, hR, hF, hD⟩ := C
  intro ls H locs hl hP hS
  exact lv_lconst hx hb hd hv (k ls H locs hl hP hS)

theorem r_ldc2 (C : Cx g E cc nL own ret d) {i : Nat} {v : Int64} (n : Int) (hw : Cond.constantLong own i v ∈ tbl) (hv : v = iL n) (hd : decode cc pc = .ok (.ldc2_w i, 3)) (k : J g E post nL (pc + 3) lv (.long (iL n) :: st) σ) : J g E post nL pc lv st σ := by
  obtain ⟨p, e, R, s, m, args, below, meth, c⟩ := E
  obtain ⟨hx, hb, hml, hown, hts, hr, hlk, hR, hF, hD⟩ := C
  intro ls H locs hl hP hS
  subst hv
  exact lv_ldc2 hx hb hown (hts _ hw) hd (k ls H locs hl hP hS)

theorem r_iload_n (C : Cx g E cc nL own ret d) {q : Fin 4} {i : Nat} {x : Int} (hd : decode cc pc = .ok (.iload_n q, 1)) (hi : (q : Nat) = i) (j : Nat) (hj : lv[j]? = some (i, .int (iI x))) (k : J g E post nL (pc + 1) lv (.int (iI x) :: st) σ) : J g E post nL pc lv st σ := by
  obtain ⟨p, e, R, s, m, args, below, meth, c⟩ := E
  obtain ⟨hx, hb, hml, hown, hts, hr, hlk, hR, hF, hD⟩ := C
  intro ls H locs hl hP hS
  exact lv_iload_n hx hb hd hi (lv_at hl j hj) (k ls H locs hl hP hS)

theorem r_iload (C : Cx g E cc nL own ret d) {i : Nat} {x : Int} (hd : decode cc pc = .ok (.iload i, 2)) (j : Nat) (hj : lv[j]? = some (i, .int (iI x))) (k : J g E post nL (pc + 2) lv (.int (iI x) :: st) σ) : J g E post nL pc lv st σ := by
  obtain ⟨p, e, R, s, m, args, below, meth, c⟩ := E
  obtain ⟨hx, hb, hml, hown, hts, hr, hlk, hR, hF, hD⟩ := C
  intro ls H locs hl hP hS
  exact lv_iload hx hb hd (lv_at hl j hj) (k ls H locs hl hP hS)

theorem r_istore_n (C : Cx g E cc nL own ret d) {q : Fin 4} {i : Nat} {x : Int} (hd : decode cc pc = .ok (.istore_n q, 1)) (hi : (q : Nat) = i) (hn : i < nL) (ks : List Nat) {lv' : List (Nat × Value)} (hl' : lv_pick ((i, Value.int (iI x)) :: lv.filter (fun q => !(q.1 == i) && !(q.1 + 1 == i && q.2.category == 2))) ks = lv') (k : J g E post nL (pc + 1) lv' st σ) : J g E post nL pc lv (.int (iI x) :: st) σ := by
  obtain ⟨p, e, R, s, m, args, below, meth, c⟩ := E
  obtain ⟨hx, hb, hml, hown, hts, hr, hlk, hR, hF, hD⟩ := C
  intro ls H locs hl hP hS
  refine lv_istore_n hx hb hd hi hl hn rfl (fun ls' hl2 => ?_)
  exact k ls' H locs (lv_sub hl2 ks hl') hP hS

theorem r_istore (C : Cx g E cc nL own ret d) {i : Nat} {x : Int} (hd : decode cc pc = .ok (.istore i, 2)) (hn : i < nL) (ks : List Nat) {lv' : List (Nat × Value)} (hl' : lv_pick ((i, Value.int (iI x)) :: lv.filter (fun q => !(q.1 == i) && !(q.1 + 1 == i && q.2.category == 2))) ks = lv') (k : J g E post nL (pc + 2) lv' st σ) : J g E post nL pc lv (.int (iI x) :: st) σ := by
  obtain ⟨p, e, R, s, m, args, below, meth, c⟩ := E
  obtain ⟨hx, hb, hml, hown, hts, hr, hlk, hR, hF, hD⟩ := C
  intro ls H locs hl hP hS
  refine lv_istore hx hb hd hl hn rfl (fun ls' hl2 => ?_)
  exact k ls' H locs (lv_sub hl2 ks hl') hP hS

theorem r_lload_n (C : Cx g E cc nL own ret d) {q : Fin 4} {i : Nat} {x : Int} (hd : decode cc pc = .ok (.lload_n q, 1)) (hi : (q : Nat) = i) (j : Nat) (hj : lv[j]? = some (i, .long (iL x))) (k : J g E post nL (pc + 1) lv (.long (iL x) :: st) σ) : J g E post nL pc lv st σ := by
  obtain ⟨p, e, R, s, m, args, below, meth, c⟩ := E
  obtain ⟨hx, hb, hml, hown, hts, hr, hlk, hR, hF, hD⟩ := C
  intro ls H locs hl hP hS
  exact lv_lload_n hx hb hd hi (lv_at hl j hj) (k ls H locs hl hP hS)

theorem r_lload (C : Cx g E cc nL own ret d) {i : Nat} {x : Int} (hd : decode cc pc = .ok (.lload i, 2)) (j : Nat) (hj : lv[j]? = some (i, .long (iL x))) (k : J g E post nL (pc + 2) lv (.long (iL x) :: st) σ) : J g E post nL pc lv st σ := by
  obtain ⟨p, e, R, s, m, args, below, meth, c⟩ := E
  obtain ⟨hx, hb, hml, hown, hts, hr, hlk, hR, hF, hD⟩ := C
  intro ls H locs hl hP hS
  exact lv_lload hx hb hd (lv_at hl j hj) (k ls H locs hl hP hS)

theorem r_lstore_n (C : Cx g E cc nL own ret d) {q : Fin 4} {i : Nat} {x : Int} (hd : decode cc pc = .ok (.lstore_n q, 1)) (hi : (q : Nat) = i) (hn : i + 1 < nL) (ks : List Nat) {lv' : List (Nat × Value)} (hl' : lv_pick ((i, Value.long (iL x)) :: lv.filter (fun q => !(q.1 == i) && (!(q.1 == i + 1) && !(q.1 + 1 == i && q.2.category == 2)))) ks = lv') (k : J g E post nL (pc + 1) lv' st σ) : J g E post nL pc lv (.long (iL x) :: st) σ := by
  obtain ⟨p, e, R, s, m, args, below, meth, c⟩ := E
  obtain ⟨hx, hb, hml, hown, hts, hr, hlk, hR, hF, hD⟩ := C
  intro ls H locs hl hP hS
  refine lv_lstore_n hx hb hd hi hl hn rfl (fun ls' hl2 => ?_)
  exact k ls' H locs (lv_sub hl2 ks hl') hP hS

theorem r_lstore (C : Cx g E cc nL own ret d) {i : Nat} {x : Int} (hd : decode cc pc = .ok (.lstore i, 2)) (hn : i + 1 < nL) (ks : List Nat) {lv' : List (Nat × Value)} (hl' : lv_pick ((i, Value.long (iL x)) :: lv.filter (fun q => !(q.1 == i) && (!(q.1 == i + 1) && !(q.1 + 1 == i && q.2.category == 2)))) ks = lv') (k : J g E post nL (pc + 2) lv' st σ) : J g E post nL pc lv (.long (iL x) :: st) σ := by
  obtain ⟨p, e, R, s, m, args, below, meth, c⟩ := E
  obtain ⟨hx, hb, hml, hown, hts, hr, hlk, hR, hF, hD⟩ := C
  intro ls H locs hl hP hS
  refine lv_lstore hx hb hd hl hn rfl (fun ls' hl2 => ?_)
  exact k ls' H locs (lv_sub hl2 ks hl') hP hS

theorem r_aload_n (C : Cx g E cc nL own ret d) {q : Fin 4} {i : Nat} {x : Nat} (hd : decode cc pc = .ok (.aload_n q, 1)) (hi : (q : Nat) = i) (j : Nat) (hj : lv[j]? = some (i, .ref x)) (k : J g E post nL (pc + 1) lv (.ref x :: st) σ) : J g E post nL pc lv st σ := by
  obtain ⟨p, e, R, s, m, args, below, meth, c⟩ := E
  obtain ⟨hx, hb, hml, hown, hts, hr, hlk, hR, hF, hD⟩ := C
  intro ls H locs hl hP hS
  exact lv_aload_n hx hb hd hi (lv_at hl j hj) (k ls H locs hl hP hS)

theorem r_aload (C : Cx g E cc nL own ret d) {i : Nat} {x : Nat} (hd : decode cc pc = .ok (.aload i, 2)) (j : Nat) (hj : lv[j]? = some (i, .ref x)) (k : J g E post nL (pc + 2) lv (.ref x :: st) σ) : J g E post nL pc lv st σ := by
  obtain ⟨p, e, R, s, m, args, below, meth, c⟩ := E
  obtain ⟨hx, hb, hml, hown, hts, hr, hlk, hR, hF, hD⟩ := C
  intro ls H locs hl hP hS
  exact lv_aload hx hb hd (lv_at hl j hj) (k ls H locs hl hP hS)

theorem r_astore_n (C : Cx g E cc nL own ret d) {q : Fin 4} {i : Nat} {x : Nat} (hd : decode cc pc = .ok (.astore_n q, 1)) (hi : (q : Nat) = i) (hn : i < nL) (ks : List Nat) {lv' : List (Nat × Value)} (hl' : lv_pick ((i, Value.ref x) :: lv.filter (fun q => !(q.1 == i) && !(q.1 + 1 == i && q.2.category == 2))) ks = lv') (k : J g E post nL (pc + 1) lv' st σ) : J g E post nL pc lv (.ref x :: st) σ := by
  obtain ⟨p, e, R, s, m, args, below, meth, c⟩ := E
  obtain ⟨hx, hb, hml, hown, hts, hr, hlk, hR, hF, hD⟩ := C
  intro ls H locs hl hP hS
  refine lv_astore_n hx hb hd hi hl hn rfl (fun ls' hl2 => ?_)
  exact k ls' H locs (lv_sub hl2 ks hl') hP hS

theorem r_astore (C : Cx g E cc nL own ret d) {i : Nat} {x : Nat} (hd : decode cc pc = .ok (.astore i, 2)) (hn : i < nL) (ks : List Nat) {lv' : List (Nat × Value)} (hl' : lv_pick ((i, Value.ref x) :: lv.filter (fun q => !(q.1 == i) && !(q.1 + 1 == i && q.2.category == 2))) ks = lv') (k : J g E post nL (pc + 2) lv' st σ) : J g E post nL pc lv (.ref x :: st) σ := by
  obtain ⟨p, e, R, s, m, args, below, meth, c⟩ := E
  obtain ⟨hx, hb, hml, hown, hts, hr, hlk, hR, hF, hD⟩ := C
  intro ls H locs hl hP hS
  refine lv_astore hx hb hd hl hn rfl (fun ls' hl2 => ?_)
  exact k ls' H locs (lv_sub hl2 ks hl') hP hS

theorem r_iinc (C : Cx g E cc nL own ret d) {i : Nat} {n x : Int} (hd : decode cc pc = .ok (.iinc i n, 3)) (j : Nat) (hj : lv[j]? = some (i, .int (iI x))) (hn : i < nL) (ks : List Nat) {lv' : List (Nat × Value)} (hl' : lv_pick ((i, Value.int (iI (x + n))) :: lv.filter (fun q => !(q.1 == i) && !(q.1 + 1 == i && q.2.category == 2))) ks = lv') (k : J g E post nL (pc + 3) lv' st σ) : J g E post nL pc lv st σ := by
  obtain ⟨p, e, R, s, m, args, below, meth, c⟩ := E
  obtain ⟨hx, hb, hml, hown, hts, hr, hlk, hR, hF, hD⟩ := C
  intro ls H locs hl hP hS
  refine lv_iinc hx hb hd hl hj (iI_add x n) hn rfl (fun ls' hl2 => ?_)
  exact k ls' H locs (lv_sub hl2 ks hl') hP hS

theorem r_iadd (C : Cx g E cc nL own ret d) {a b : Int} (hd : decode cc pc = .ok (.iadd, 1)) (k : J g E post nL (pc + 1) lv (.int (iI (a + b)) :: st) σ) : J g E post nL pc lv (.int (iI b) :: .int (iI a) :: st) σ := by
  obtain ⟨p, e, R, s, m, args, below, meth, c⟩ := E
  obtain ⟨hx, hb, hml, hown, hts, hr, hlk, hR, hF, hD⟩ := C
  intro ls H locs hl hP hS
  refine lv_iadd hx hb hd ?_
  rw [iI_add]
  exact k ls H locs hl hP hS

theorem r_isub (C : Cx g E cc nL own ret d) {a b : Int} (hd : decode cc pc = .ok (.isub, 1)) (k : J g E post nL (pc + 1) lv (.int (iI (a - b)) :: st) σ) : J g E post nL pc lv (.int (iI b) :: .int (iI a) :: st) σ := by
  obtain ⟨p, e, R, s, m, args, below, meth, c⟩ := E
  obtain ⟨hx, hb, hml, hown, hts, hr, hlk, hR, hF, hD⟩ := C
  intro ls H locs hl hP hS
  refine lv_isub hx hb hd ?_
  rw [iI_sub]
  exact k ls H locs hl hP hS

theorem r_imul (C : Cx g E cc nL own ret d) {a b : Int} (hd : decode cc pc = .ok (.imul, 1)) (k : J g E post nL (pc + 1) lv (.int (iI (a * b)) :: st) σ) : J g E post nL pc lv (.int (iI b) :: .int (iI a) :: st) σ := by
  obtain ⟨p, e, R, s, m, args, below, meth, c⟩ := E
  obtain ⟨hx, hb, hml, hown, hts, hr, hlk, hR, hF, hD⟩ := C
  intro ls H locs hl hP hS
  refine lv_imul hx hb hd ?_
  rw [iI_mul]
  exact k ls H locs hl hP hS

theorem r_ineg (C : Cx g E cc nL own ret d) {a : Int} (hd : decode cc pc = .ok (.ineg, 1)) (k : J g E post nL (pc + 1) lv (.int (iI (-a)) :: st) σ) : J g E post nL pc lv (.int (iI a) :: st) σ := by
  obtain ⟨p, e, R, s, m, args, below, meth, c⟩ := E
  obtain ⟨hx, hb, hml, hown, hts, hr, hlk, hR, hF, hD⟩ := C
  intro ls H locs hl hP hS
  refine lv_ineg hx hb hd ?_
  rw [iI_neg]
  exact k ls H locs hl hP hS

theorem r_idiv (C : Cx g E cc nL own ret d) {a b : Int} (h1 : 0 ≤ a) (h2 : a ≤ 2147483647) (h3 : 0 < b) (h4 : b ≤ 2147483647) (hd : decode cc pc = .ok (.idiv, 1)) (k : J g E post nL (pc + 1) lv (.int (iI (a / b)) :: st) σ) : J g E post nL pc lv (.int (iI b) :: .int (iI a) :: st) σ := by
  obtain ⟨p, e, R, s, m, args, below, meth, c⟩ := E
  obtain ⟨hx, hb, hml, hown, hts, hr, hlk, hR, hF, hD⟩ := C
  intro ls H locs hl hP hS
  refine lv_idiv hx hb hd (iI_ne0 h3 h4) ?_
  rw [iI_div h1 h2 h3 h4]
  exact k ls H locs hl hP hS

theorem r_irem (C : Cx g E cc nL own ret d) {a b : Int} (h1 : 0 ≤ a) (h2 : a ≤ 2147483647) (h3 : 0 < b) (h4 : b ≤ 2147483647) (hd : decode cc pc = .ok (.irem, 1)) (k : J g E post nL (pc + 1) lv (.int (iI (a % b)) :: st) σ) : J g E post nL pc lv (.int (iI b) :: .int (iI a) :: st) σ := by
  obtain ⟨p, e, R, s, m, args, below, meth, c⟩ := E
  obtain ⟨hx, hb, hml, hown, hts, hr, hlk, hR, hF, hD⟩ := C
  intro ls H locs hl hP hS
  refine lv_irem hx hb hd (iI_ne0 h3 h4) ?_
  rw [iI_rem h1 h2 h3 h4]
  exact k ls H locs hl hP hS

theorem r_iand (C : Cx g E cc nL own ret d) {a b : Int} (hd : decode cc pc = .ok (.iand, 1)) (k : J g E post nL (pc + 1) lv (.int (iI (band a b)) :: st) σ) : J g E post nL pc lv (.int (iI b) :: .int (iI a) :: st) σ := by
  obtain ⟨p, e, R, s, m, args, below, meth, c⟩ := E
  obtain ⟨hx, hb, hml, hown, hts, hr, hlk, hR, hF, hD⟩ := C
  intro ls H locs hl hP hS
  refine lv_iand hx hb hd ?_
  rw [show iI a &&& iI b = iI (band a b) from (iI_of _).symm]
  exact k ls H locs hl hP hS

theorem r_ior (C : Cx g E cc nL own ret d) {a b : Int} (hd : decode cc pc = .ok (.ior, 1)) (k : J g E post nL (pc + 1) lv (.int (iI (bor a b)) :: st) σ) : J g E post nL pc lv (.int (iI b) :: .int (iI a) :: st) σ := by
  obtain ⟨p, e, R, s, m, args, below, meth, c⟩ := E
  obtain ⟨hx, hb, hml, hown, hts, hr, hlk, hR, hF, hD⟩ := C
  intro ls H locs hl hP hS
  refine lv_ior hx hb hd ?_
  rw [show iI a ||| iI b = iI (bor a b) from (iI_of _).symm]
  exact k ls H locs hl hP hS

theorem r_ixor (C : Cx g E cc nL own ret d) {a b : Int} (hd : decode cc pc = .ok (.ixor, 1)) (k : J g E post nL (pc + 1) lv (.int (iI (bxor a b)) :: st) σ) : J g E post nL pc lv (.int (iI b) :: .int (iI a) :: st) σ := by
  obtain ⟨p, e, R, s, m, args, below, meth, c⟩ := E
  obtain ⟨hx, hb, hml, hown, hts, hr, hlk, hR, hF, hD⟩ := C
  intro ls H locs hl hP hS
  refine lv_ixor hx hb hd ?_
  rw [show iI a ^^^ iI b = iI (bxor a b) from (iI_of _).symm]
  exact k ls H locs hl hP hS

theorem r_ishl (C : Cx g E cc nL own ret d) {a b : Int} (hd : decode cc pc = .ok (.ishl, 1)) (k : J g E post nL (pc + 1) lv (.int (iI (bshl a b)) :: st) σ) : J g E post nL pc lv (.int (iI b) :: .int (iI a) :: st) σ := by
  obtain ⟨p, e, R, s, m, args, below, meth, c⟩ := E
  obtain ⟨hx, hb, hml, hown, hts, hr, hlk, hR, hF, hD⟩ := C
  intro ls H locs hl hP hS
  refine lv_ishl hx hb hd ?_
  rw [show iI a <<< (iI b &&& 31) = iI (bshl a b) from (iI_of _).symm]
  exact k ls H locs hl hP hS

theorem r_ishr (C : Cx g E cc nL own ret d) {a b : Int} (hd : decode cc pc = .ok (.ishr, 1)) (k : J g E post nL (pc + 1) lv (.int (iI (bshr a b)) :: st) σ) : J g E post nL pc lv (.int (iI b) :: .int (iI a) :: st) σ := by
  obtain ⟨p, e, R, s, m, args, below, meth, c⟩ := E
  obtain ⟨hx, hb, hml, hown, hts, hr, hlk, hR, hF, hD⟩ := C
  intro ls H locs hl hP hS
  refine lv_ishr hx hb hd ?_
  rw [show iI a >>> (iI b &&& 31) = iI (bshr a b) from (iI_of _).symm]
  exact k ls H locs hl hP hS

theorem r_iushr (C : Cx g E cc nL own ret d) {a b : Int} (hd : decode cc pc = .ok (.iushr, 1)) (k : J g E post nL (pc + 1) lv (.int (iI (bushr a b)) :: st) σ) : J g E post nL pc lv (.int (iI b) :: .int (iI a) :: st) σ := by
  obtain ⟨p, e, R, s, m, args, below, meth, c⟩ := E
  obtain ⟨hx, hb, hml, hown, hts, hr, hlk, hR, hF, hD⟩ := C
  intro ls H locs hl hP hS
  exact lv_iushr hx hb hd (iI_of _).symm (k ls H locs hl hP hS)

theorem r_i2b (C : Cx g E cc nL own ret d) {a : Int} (hd : decode cc pc = .ok (.i2b, 1)) (k : J g E post nL (pc + 1) lv (.int (iI (i8 a)) :: st) σ) : J g E post nL pc lv (.int (iI a) :: st) σ := by
  obtain ⟨p, e, R, s, m, args, below, meth, c⟩ := E
  obtain ⟨hx, hb, hml, hown, hts, hr, hlk, hR, hF, hD⟩ := C
  intro ls H locs hl hP hS
  exact lv_i2b hx hb hd (iI_of _).symm (k ls H locs hl hP hS)

theorem r_i2s (C : Cx g E cc nL own ret d) {a : Int} (hd : decode cc pc = .ok (.i2s, 1)) (k : J g E post nL (pc + 1) lv (.int (iI (i16 a)) :: st) σ) : J g E post nL pc lv (.int (iI a) :: st) σ := by
  obtain ⟨p, e, R, s, m, args, below, meth, c⟩ := E
  obtain ⟨hx, hb, hml, hown, hts, hr, hlk, hR, hF, hD⟩ := C
  intro ls H locs hl hP hS
  exact lv_i2s hx hb hd (iI_of _).symm (k ls H locs hl hP hS)

theorem r_i2l (C : Cx g E cc nL own ret d) {a : Int} (ha : rng a) (hd : decode cc pc = .ok (.i2l, 1)) (k : J g E post nL (pc + 1) lv (.long (iL a) :: st) σ) : J g E post nL pc lv (.int (iI a) :: st) σ := by
  obtain ⟨p, e, R, s, m, args, below, meth, c⟩ := E
  obtain ⟨hx, hb, hml, hown, hts, hr, hlk, hR, hF, hD⟩ := C
  intro ls H locs hl hP hS
  exact lv_i2l hx hb hd (iI_wide ha) (k ls H locs hl hP hS)

theorem r_ladd (C : Cx g E cc nL own ret d) {a b : Int} (hd : decode cc pc = .ok (.ladd, 1)) (k : J g E post nL (pc + 1) lv (.long (iL (a + b)) :: st) σ) : J g E post nL pc lv (.long (iL b) :: .long (iL a) :: st) σ := by
  obtain ⟨p, e, R, s, m, args, below, meth, c⟩ := E
  obtain ⟨hx, hb, hml, hown, hts, hr, hlk, hR, hF, hD⟩ := C
  intro ls H locs hl hP hS
  refine lv_ladd hx hb hd ?_
  rw [iL_add]
  exact k ls H locs hl hP hS

theorem r_lmul (C : Cx g E cc nL own ret d) {a b : Int} (hd : decode cc pc = .ok (.lmul, 1)) (k : J g E post nL (pc + 1) lv (.long (iL (a * b)) :: st) σ) : J g E post nL pc lv (.long (iL b) :: .long (iL a) :: st) σ := by
  obtain ⟨p, e, R, s, m, args, below, meth, c⟩ := E
  obtain ⟨hx, hb, hml, hown, hts, hr, hlk, hR, hF, hD⟩ := C
  intro ls H locs hl hP hS
  refine lv_lmul hx hb hd ?_
  rw [iL_mul]
  exact k ls H locs hl hP hS

theorem r_lcmp (C : Cx g E cc nL own ret d) {a b : Int} (ha : rngL a) (hb2 : rngL b) (hd : decode cc pc = .ok (.lcmp, 1)) (k : J g E post nL (pc + 1) lv (.int (iI (lc a b)) :: st) σ) : J g E post nL pc lv (.long (iL b) :: .long (iL a) :: st) σ := by
  obtain ⟨p, e, R, s, m, args, below, meth, c⟩ := E
  obtain ⟨hx, hb, hml, hown, hts, hr, hlk, hR, hF, hD⟩ := C
  intro ls H locs hl hP hS
  refine W.lcmp hx hb hd ?_
  rw [lc_is ha hb2]
  exact k ls H locs hl hP hS

theorem r_dup (C : Cx g E cc nL own ret d) {v : Value} (hv : v.category = 1) (hd : decode cc pc = .ok (.dup, 1)) (k : J g E post nL (pc + 1) lv (v :: v :: st) σ) : J g E post nL pc lv (v :: st) σ := by
  obtain ⟨p, e, R, s, m, args, below, meth, c⟩ := E
  obtain ⟨hx, hb, hml, hown, hts, hr, hlk, hR, hF, hD⟩ := C
  intro ls H locs hl hP hS
  exact lv_dup hx hb hd hv (k ls H locs hl hP hS)

theorem r_pop (C : Cx g E cc nL own ret d) {v : Value} (hv : v.category = 1) (hd : decode cc pc = .ok (.pop, 1)) (k : J g E post nL (pc + 1) lv st σ) : J g E post nL pc lv (v :: st) σ := by
  obtain ⟨p, e, R, s, m, args, below, meth, c⟩ := E
  obtain ⟨hx, hb, hml, hown, hts, hr, hlk, hR, hF, hD⟩ := C
  intro ls H locs hl hP hS
  exact lv_pop hx hb hd hv (k ls H locs hl hP hS)

theorem r_dup2 (C : Cx g E cc nL own ret d) {v w : Value} (hv : v.category = 1) (hw : w.category = 1) (hd : decode cc pc = .ok (.dup2, 1)) (k : J g E post nL (pc + 1) lv (v :: w :: v :: w :: st) σ) : J g E post nL pc lv (v :: w :: st) σ := by
  obtain ⟨p, e, R, s, m, args, below, meth, c⟩ := E
  obtain ⟨hx, hb, hml, hown, hts, hr, hlk, hR, hF, hD⟩ := C
  intro ls H locs hl hP hS
  exact lv_dup2_11 hx hb hd hv hw (k ls H locs hl hP hS)

theorem r_icmp_eq (C : Cx g E cc nL own ret d) {a b off : Int} (tgt : Nat) (ha : rng a) (hb2 : rng b) (hd : decode cc pc = .ok (.if_icmp .eq off, 3)) (ht : (pc : Int) + off = (tgt : Int)) (kt : a = b → J g E post nL tgt lv st σ) (kf : ¬ a = b → J g E post nL (pc + 3) lv st σ) : J g E post nL pc lv (.int (iI b) :: .int (iI a) :: st) σ := by
  obtain ⟨p, e, R, s, m, args, below, meth, c⟩ := E
  obtain ⟨hx, hb, hml, hown, hts, hr, hlk, hR, hF, hD⟩ := C
  intro ls H locs hl hP hS
  exact lv_icmp_eq hx hb hd ht (fun h => kt ((iI_eq ha hb2).mp h) ls H locs hl hP hS) (fun h => kf (fun q => h ((iI_eq ha hb2).mpr q)) ls H locs hl hP hS)

theorem r_if_eq (C : Cx g E cc nL own ret d) {a off : Int} (tgt : Nat) (ha : rng a) (hd : decode cc pc = .ok (.ifCond .eq off, 3)) (ht : (pc : Int) + off = (tgt : Int)) (kt : a = 0 → J g E post nL tgt lv st σ) (kf : ¬ a = 0 → J g E post nL (pc + 3) lv st σ) : J g E post nL pc lv (.int (iI a) :: st) σ := by
  obtain ⟨p, e, R, s, m, args, below, meth, c⟩ := E
  obtain ⟨hx, hb, hml, hown, hts, hr, hlk, hR, hF, hD⟩ := C
  intro ls H locs hl hP hS
  have e0 : (0 : Int32) = iI 0 := iI_0
  refine lv_if_eq hx hb hd ht (fun h => ?_) (fun h => ?_)
  · rw [e0] at h
    exact kt ((iI_eq ha rng0).mp h) ls H locs hl hP hS
  · rw [e0] at h
    exact kf (fun q => h ((iI_eq ha rng0).mpr q)) ls H locs hl hP hS

theorem r_icmp_ne (C : Cx g E cc nL own ret d) {a b off : Int} (tgt : Nat) (ha : rng a) (hb2 : rng b) (hd : decode cc pc = .ok (.if_icmp .ne off, 3)) (ht : (pc : Int) + off = (tgt : Int)) (kt : ¬ a = b → J g E post nL tgt lv st σ) (kf : a = b → J g E post nL (pc + 3) lv st σ) : J g E post nL pc lv (.int (iI b) :: .int (iI a) :: st) σ := by
  obtain ⟨p, e, R, s, m, args, below, meth, c⟩ := E
  obtain ⟨hx, hb, hml, hown, hts, hr, hlk, hR, hF, hD⟩ := C
  intro ls H locs hl hP hS
  exact lv_icmp_ne hx hb hd ht (fun h => kt (fun q => h ((iI_eq ha hb2).mpr q)) ls H locs hl hP hS) (fun h => kf ((iI_eq ha hb2).mp h) ls H locs hl hP hS)

theorem r_if_ne (C : Cx g E cc nL own ret d) {a off : Int} (tgt : Nat) (ha : rng a) (hd : decode cc pc = .ok (.ifCond .ne off, 3)) (ht : (pc : Int) + off = (tgt : Int)) (kt : ¬ a = 0 → J g E post nL tgt lv st σ) (kf : a = 0 → J g E post nL (pc + 3) lv st σ) : J g E post nL pc lv (.int (iI a) :: st) σ := by
  obtain ⟨p, e, R, s, m, args, below, meth, c⟩ := E
  obtain ⟨hx, hb, hml, hown, hts, hr, hlk, hR, hF, hD⟩ := C
  intro ls H locs hl hP hS
  have e0 : (0 : Int32) = iI 0 := iI_0
  refine lv_if_ne hx hb hd ht (fun h => ?_) (fun h => ?_)
  · rw [e0] at h
    exact kt (fun q => h ((iI_eq ha rng0).mpr q)) ls H locs hl hP hS
  · rw [e0] at h
    exact kf ((iI_eq ha rng0).mp h) ls H locs hl hP hS

theorem r_icmp_lt (C : Cx g E cc nL own ret d) {a b off : Int} (tgt : Nat) (ha : rng a) (hb2 : rng b) (hd : decode cc pc = .ok (.if_icmp .lt off, 3)) (ht : (pc : Int) + off = (tgt : Int)) (kt : a < b → J g E post nL tgt lv st σ) (kf : ¬ a < b → J g E post nL (pc + 3) lv st σ) : J g E post nL pc lv (.int (iI b) :: .int (iI a) :: st) σ := by
  obtain ⟨p, e, R, s, m, args, below, meth, c⟩ := E
  obtain ⟨hx, hb, hml, hown, hts, hr, hlk, hR, hF, hD⟩ := C
  intro ls H locs hl hP hS
  exact lv_icmp_lt hx hb hd ht (fun h => kt ((iI_lt ha hb2).mp h) ls H locs hl hP hS) (fun h => kf (fun q => h ((iI_lt ha hb2).mpr q)) ls H locs hl hP hS)

theorem r_if_lt (C : Cx g E cc nL own ret d) {a off : Int} (tgt : Nat) (ha : rng a) (hd : decode cc pc = .ok (.ifCond .lt off, 3)) (ht : (pc : Int) + off = (tgt : Int)) (kt : a < 0 → J g E post nL tgt lv st σ) (kf : ¬ a < 0 → J g E post nL (pc + 3) lv st σ) : J g E post nL pc lv (.int (iI a) :: st) σ := by
  obtain ⟨p, e, R, s, m, args, below, meth, c⟩ := E
  obtain ⟨hx, hb, hml, hown, hts, hr, hlk, hR, hF, hD⟩ := C
  intro ls H locs hl hP hS
  have e0 : (0 : Int32) = iI 0 := iI_0
  refine lv_if_lt hx hb hd ht (fun h => ?_) (fun h => ?_)
  · rw [e0] at h
    exact kt ((iI_lt ha rng0).mp h) ls H locs hl hP hS
  · rw [e0] at h
    exact kf (fun q => h ((iI_lt ha rng0).mpr q)) ls H locs hl hP hS

theorem r_icmp_ge (C : Cx g E cc nL own ret d) {a b off : Int} (tgt : Nat) (ha : rng a) (hb2 : rng b) (hd : decode cc pc = .ok (.if_icmp .ge off, 3)) (ht : (pc : Int) + off = (tgt : Int)) (kt : b ≤ a → J g E post nL tgt lv st σ) (kf : ¬ b ≤ a → J g E post nL (pc + 3) lv st σ) : J g E post nL pc lv (.int (iI b) :: .int (iI a) :: st) σ := by
  obtain ⟨p, e, R, s, m, args, below, meth, c⟩ := E
  obtain ⟨hx, hb, hml, hown, hts, hr, hlk, hR, hF, hD⟩ := C
  intro ls H locs hl hP hS
  exact lv_icmp_ge hx hb hd ht (fun h => kt ((iI_le hb2 ha).mp h) ls H locs hl hP hS) (fun h => kf (fun q => h ((iI_le hb2 ha).mpr q)) ls H locs hl hP hS)

theorem r_if_ge (C : Cx g E cc nL own ret d) {a off : Int} (tgt : Nat) (ha : rng a) (hd : decode cc pc = .ok (.ifCond .ge off, 3)) (ht : (pc : Int) + off = (tgt : Int)) (kt : 0 ≤ a → J g E post nL tgt lv st σ) (kf : ¬ 0 ≤ a → J g E post nL (pc + 3) lv st σ) : J g E post nL pc lv (.int (iI a) :: st) σ := by
  obtain ⟨p, e, R, s, m, args, below, meth, c⟩ := E
  obtain ⟨hx, hb, hml, hown, hts, hr, hlk, hR, hF, hD⟩ := C
  intro ls H locs hl hP hS
  have e0 : (0 : Int32) = iI 0 := iI_0
  refine lv_if_ge hx hb hd ht (fun h => ?_) (fun h => ?_)
  · rw [e0] at h
    exact kt ((iI_le rng0 ha).mp h) ls H locs hl hP hS
  · rw [e0] at h
    exact kf (fun q => h ((iI_le rng0 ha).mpr q)) ls H locs hl hP hS

theorem r_icmp_gt (C : Cx g E cc nL own ret d) {a b off : Int} (tgt : Nat) (ha : rng a) (hb2 : rng b) (hd : decode cc pc = .ok (.if_icmp .gt off, 3)) (ht : (pc : Int) + off = (tgt : Int)) (kt : b < a → J g E post nL tgt lv st σ) (kf : ¬ b < a → J g E post nL (pc + 3) lv st σ) : J g E post nL pc lv (.int (iI b) :: .int (iI a) :: st) σ := by
  obtain ⟨p, e, R, s, m, args, below, meth, c⟩ := E
  obtain ⟨hx, hb, hml, hown, hts, hr, hlk, hR, hF, hD⟩ := C
  intro ls H locs hl hP hS
  exact lv_icmp_gt hx hb hd ht (fun h => kt ((iI_lt hb2 ha).mp h) ls H locs hl hP hS) (fun h => kf (fun q => h ((iI_lt hb2 ha).mpr q)) ls H locs hl hP hS)

theorem r_if_gt (C : Cx g E cc nL own ret d) {a off : Int} (tgt : Nat) (ha : rng a) (hd : decode cc pc = .ok (.ifCond .gt off, 3)) (ht : (pc : Int) + off = (tgt : Int)) (kt : 0 < a → J g E post nL tgt lv st σ) (kf : ¬ 0 < a → J g E post nL (pc + 3) lv st σ) : J g E post nL pc lv (.int (iI a) :: st) σ := by
  obtain ⟨p, e, R, s, m, args, below, meth, c⟩ := E
  obtain ⟨hx, hb, hml, hown, hts, hr, hlk, hR, hF, hD⟩ := C
  intro ls H locs hl hP hS
  have e0 : (0 : Int32) = iI 0 := iI_0
  refine lv_if_gt hx hb hd ht (fun h => ?_) (fun h => ?_)
  · rw [e0] at h
    exact kt ((iI_lt rng0 ha).mp h) ls H locs hl hP hS
  · rw [e0] at h
    exact kf (fun q => h ((iI_lt rng0 ha).mpr q)) ls H locs hl hP hS

theorem r_icmp_le (C : Cx g E cc nL own ret d) {a b off : Int} (tgt : Nat) (ha : rng a) (hb2 : rng b) (hd : decode cc pc = .ok (.if_icmp .le off, 3)) (ht : (pc : Int) + off = (tgt : Int)) (kt : a ≤ b → J g E post nL tgt lv st σ) (kf : ¬ a ≤ b → J g E post nL (pc + 3) lv st σ) : J g E post nL pc lv (.int (iI b) :: .int (iI a) :: st) σ := by
  obtain ⟨p, e, R, s, m, args, below, meth, c⟩ := E
  obtain ⟨hx, hb, hml, hown, hts, hr, hlk, hR, hF, hD⟩ := C
  intro ls H locs hl hP hS
  exact lv_icmp_le hx hb hd ht (fun h => kt ((iI_le ha hb2).mp h) ls H locs hl hP hS) (fun h => kf (fun q => h ((iI_le ha hb2).mpr q)) ls H locs hl hP hS)

theorem r_if_le (C : Cx g E cc nL own ret d) {a off : Int} (tgt : Nat) (ha : rng a) (hd : decode cc pc = .ok (.ifCond .le off, 3)) (ht : (pc : Int) + off = (tgt : Int)) (kt : a ≤ 0 → J g E post nL tgt lv st σ) (kf : ¬ a ≤ 0 → J g E post nL (pc + 3) lv st σ) : J g E post nL pc lv (.int (iI a) :: st) σ := by
  obtain ⟨p, e, R, s, m, args, below, meth, c⟩ := E
  obtain ⟨hx, hb, hml, hown, hts, hr, hlk, hR, hF, hD⟩ := C
  intro ls H locs hl hP hS
  have e0 : (0 : Int32) = iI 0 := iI_0
  refine lv_if_le hx hb hd ht (fun h => ?_) (fun h => ?_)
  · rw [e0] at h
    exact kt ((iI_le ha rng0).mp h) ls H locs hl hP hS
  · rw [e0] at h
    exact kf (fun q => h ((iI_le ha rng0).mpr q)) ls H locs hl hP hS

theorem r_goto (C : Cx g E cc nL own ret d) {off : Int} (tgt : Nat) (hd : decode cc pc = .ok (.goto off, 3)) (ht : (pc : Int) + off = (tgt : Int)) (k : J g E post nL tgt lv st σ) : J g E post nL pc lv st σ := by
  obtain ⟨p, e, R, s, m, args, below, meth, c⟩ := E
  obtain ⟨hx, hb, hml, hown, hts, hr, hlk, hR, hF, hD⟩ := C
  intro ls H locs hl hP hS
  exact lv_goto hx hb hd ht (k ls H locs hl hP hS)

theorem r_tabIn (C : Cx g E cc nL own ret d) {dflt lo hi : Int} {offs : Array Int} {len : Nat} {a off : Int} (cst : Int) (tgt : Nat) (hd : decode cc pc = .ok (.tableswitch dflt lo hi offs, len)) (ha : a = cst) (hc : rng cst) (h1 : ¬ cst < lo) (h2 : ¬ hi < cst) (ho : offs[(cst - lo).toNat]? = some off) (ht : (pc : Int) + off = (tgt : Int)) (k : J g E post nL tgt lv st σ) : J g E post nL pc lv (.int (iI a) :: st) σ := by
  obtain ⟨p, e, R, s, m, args, below, meth, c⟩ := E
  obtain ⟨hx, hb, hml, hown, hts, hr, hlk, hR, hF, hD⟩ := C
  intro ls H locs hl hP hS
  subst ha
  have e := iI_toInt hc
  exact lv_tableIn hx hb hd (by rw [e]; exact h1) (by rw [e]; exact h2) (by rw [e]; exact ho) ht (k ls H locs hl hP hS)

theorem r_tabOut (C : Cx g E cc nL own ret d) {dflt lo hi : Int} {offs : Array Int} {len : Nat} {a : Int} (tgt : Nat) (hd : decode cc pc = .ok (.tableswitch dflt lo hi offs, len)) (ha : rng a) (h : a < lo ∨ hi < a) (ht : (pc : Int) + dflt = (tgt : Int)) (k : J g E post nL tgt lv st σ) : J g E post nL pc lv (.int (iI a) :: st) σ := by
  obtain ⟨p, e, R, s, m, args, below, meth, c⟩ := E
  obtain ⟨hx, hb, hml, hown, hts, hr, hlk, hR, hF, hD⟩ := C
  intro ls H locs hl hP hS
  exact lv_tableOut hx hb hd (by rw [iI_toInt ha]; exact h) ht (k ls H locs hl hP hS)

theorem r_lku (C : Cx g E cc nL own ret d) {dflt : Int} {ps : Array (Int × Int)} {len : Nat} {a off : Int} (tgt : Nat) (hd : decode cc pc = .ok (.lookupswitch dflt ps, len)) (ha : rng a) (hp : (ps.toList.zip (ps.toList.drop 1)).all (fun (a, next) => a.1 < next.1) = true) (ho : Op.lookupswitch.offset ps.toList dflt a = off) (ht : (pc : Int) + off = (tgt : Int)) (k : J g E post nL tgt lv st σ) : J g E post nL pc lv (.int (iI a) :: st) σ := by
  obtain ⟨p, e, R, s, m, args, below, meth, c⟩ := E
  obtain ⟨hx, hb, hml, hown, hts, hr, hlk, hR, hF, hD⟩ := C
  intro ls H locs hl hP hS
  exact lv_lookup hx hb hd hp (by rw [iI_toInt ha]; exact ho) ht (k ls H locs hl hP hS)

theorem r_lv (ks : List Nat) {lv' : List (Nat × Value)} (h : lv_pick lv ks = lv') (k : J g E post nL pc lv' st σ) : J g E post nL pc lv st σ := by
  obtain ⟨p, e, R, s, m, args, below, meth, c⟩ := E
  exact fun ls H locs hl hP hS => k ls H locs (lv_sub hl ks h) hP hS
theorem r_eq {lv' : List (Nat × Value)} {st' : List Value} {σ' : Sg} (h1 : lv = lv') (h2 : st = st') (h3 : σ = σ') (k : J g E post nL pc lv' st' σ') : J g E post nL pc lv st σ := by
  subst h1 h2 h3
  exact k
theorem r_sg {σ' : Sg} (h3 : σ = σ') (k : J g E post nL pc lv st σ') : J g E post nL pc lv st σ := by
  subst h3
  exact k
theorem r_top {a b : Int} (h : a = b) (k : J g E post nL pc lv (.int (iI b) :: st) σ) : J g E post nL pc lv (.int (iI a) :: st) σ := by
  subst h
  exact k
theorem r_getI0 (C : Cx g E cc nL own ret d) {k i : Nat} (j : Nat) (hr1 : rf k j = none) (ho : isO k 0) (hj : j < 12) (hs : (TX0 j).1 = RX0) (hw : Cond.fieldLink own i RX0 (TX0 j).2.1 (TX0 j).2.2.1 ∈ tbl) (hd : decode cc pc = .ok (.getfield i, 3)) (kk : J g E post nL (pc + 3) lv (.int (iI (σ k j)) :: st) σ) : J g E post nL pc lv (.ref (gA g k) :: st) σ := by
  obtain ⟨p, e, R, s, m, args, below, meth, c⟩ := E
  obtain ⟨hx, hb, hml, hown, hts, hr, hlk, hR, hF, hD⟩ := C
  intro ls H locs hl hP hS
  refine va_get (D := gD g) (cl := cls) (ci := 0) (C := RX0) (T := TX0) (N := 12) hx hb hts inX0 hown hF.1 hP k (fs := fl g σ k 12) ?_ rfl j hj (hts _ hw) (fun x h => by rw [hs] at h; exact h) ?_ hd (kk ls H locs hl hP hS)
  · rw [cw_at ho.1, ce_O ho]
    rfl
  · rw [fl_at hj, fv_i hr1]

theorem r_getR0 (C : Cx g E cc nL own ret d) {k i : Nat} (j : Nat) {k' : Nat} (hr1 : rf k j = some k') (ho : isO k 0) (hj : j < 12) (hs : (TX0 j).1 = RX0) (hw : Cond.fieldLink own i RX0 (TX0 j).2.1 (TX0 j).2.2.1 ∈ tbl) (hd : decode cc pc = .ok (.getfield i, 3)) (kk : J g E post nL (pc + 3) lv (.ref (gA g k') :: st) σ) : J g E post nL pc lv (.ref (gA g k) :: st) σ := by
  obtain ⟨p, e, R, s, m, args, below, meth, c⟩ := E
  obtain ⟨hx, hb, hml, hown, hts, hr, hlk, hR, hF, hD⟩ := C
  intro ls H locs hl hP hS
  refine va_get (D := gD g) (cl := cls) (ci := 0) (C := RX0) (T := TX0) (N := 12) hx hb hts inX0 hown hF.1 hP k (fs := fl g σ k 12) ?_ rfl j hj (hts _ hw) (fun x h => by rw [hs] at h; exact h) ?_ hd (kk ls H locs hl hP hS)
  · rw [cw_at ho.1, ce_O ho]
    rfl
  · rw [fl_at hj, fv_r hr1]

theorem r_put0 (C : Cx g E cc nL own ret d) {k i : Nat} {v : Int} (j : Nat) (hr1 : rf k j = none) (ho : isO k 0) (hj : j < 12) (hs : (TX0 j).1 = RX0) (hw : Cond.fieldLink own i RX0 (TX0 j).2.1 (TX0 j).2.2.1 ∈ tbl) (hfin : (TX0 j).2.2.2 = false) (hty : parseFieldDescriptor (TX0 j).2.2.1 = some .int) (hd : decode cc pc = .ok (.putfield i, 3)) (kk : J g E post nL (pc + 3) lv st (wr σ k j v)) : J g E post nL pc lv (.int (iI v) :: .ref (gA g k) :: st) σ := by
  obtain ⟨p, e, R, s, m, args, below, meth, c⟩ := E
  obtain ⟨hx, hb, hml, hown, hts, hr, hlk, hR, hF, hD⟩ := C
  intro ls H locs hl hP hS
  refine va_put (D := gD g) (cl := cls) (ci := 0) (C := RX0) (T := TX0) (N := 12) hx hb hts inX0 tyX0 tyX0_ok nmX0 hown hF.1 hP (cwD hD σ) hS k (fs := fl g σ k 12) ?_ rfl j hj (hts _ hw) (fun x h => by rw [hs] at h; exact h) hfin hty rfl rfl (by rw [fl_len]; exact hj) hd (fun H1 locs1 hP1 _ hS1 => ?_)
  · rw [cw_at ho.1, ce_O ho]
    rfl
  · have hP2 : va_P (gD g) cls (cw g (wr σ k j v)) H1 := by
      rw [← cw_set (g := g) (σ := σ) ho.1 (ce_put v ho hj hr1) wr_o]
      exact hP1
    exact kk ls H1 locs1 hl hP2 hS1

theorem r_getI1 (C : Cx g E cc nL own ret d) {k i : Nat} (j : Nat) (hr1 : rf k j = none) (ho : isO k 1) (hj : j < 3) (hs : (TX1 j).1 = RX1) (hw : Cond.fieldLink own i RX1 (TX1 j).2.1 (TX1 j).2.2.1 ∈ tbl) (hd : decode cc pc = .ok (.getfield i, 3)) (kk : J g E post nL (pc + 3) lv (.int (iI (σ k j)) :: st) σ) : J g E post nL pc lv (.ref (gA g k) :: st) σ := by
  obtain ⟨p, e, R, s, m, args, below, meth, c⟩ := E
  obtain ⟨hx, hb, hml, hown, hts, hr, hlk, hR, hF, hD⟩ := C
  intro ls H locs hl hP hS
  refine va_get (D := gD g) (cl := cls) (ci := 1) (C := RX1) (T := TX1) (N := 3) hx hb hts inX1 hown hF.1 hP k (fs := fl g σ k 3) ?_ rfl j hj (hts _ hw) (fun x h => by rw [hs] at h; exact h) ?_ hd (kk ls H locs hl hP hS)
  · rw [cw_at ho.1, ce_O ho]
    rfl
  · rw [fl_at hj, fv_i hr1]

theorem r_getR1 (C : Cx g E cc nL own ret d) {k i : Nat} (j : Nat) {k' : Nat} (hr1 : rf k j = some k') (ho : isO k 1) (hj : j < 3) (hs : (TX1 j).1 = RX1) (hw : Cond.fieldLink own i RX1 (TX1 j).2.1 (TX1 j).2.2.1 ∈ tbl) (hd : decode cc pc = .ok (.getfield i, 3)) (kk : J g E post nL (pc + 3) lv (.ref (gA g k') :: st) σ) : J g E post nL pc lv (.ref (gA g k) :: st) σ := by
  obtain ⟨p, e, R, s, m, args, below, meth, c⟩ := E
  obtain ⟨hx, hb, hml, hown, hts, hr, hlk, hR, hF, hD⟩ := C
  intro ls H locs hl hP hS
  refine va_get (D := gD g) (cl := cls) (ci := 1) (C := RX1) (T := TX1) (N := 3) hx hb hts inX1 hown hF.1 hP k (fs := fl g σ k 3) ?_ rfl j hj (hts _ hw) (fun x h => by rw [hs] at h; exact h) ?_ hd (kk ls H locs hl hP hS)
  · rw [cw_at ho.1, ce_O ho]
    rfl
  · rw [fl_at hj, fv_r hr1]

theorem r_put1 (C : Cx g E cc nL own ret d) {k i : Nat} {v : Int} (j : Nat) (hr1 : rf k j = none) (ho : isO k 1) (hj : j < 3) (hs : (TX1 j).1 = RX1) (hw : Cond.fieldLink own i RX1 (TX1 j).2.1 (TX1 j).2.2.1 ∈ tbl) (hfin : (TX1 j).2.2.2 = false) (hty : parseFieldDescriptor (TX1 j).2.2.1 = some .int) (hd : decode cc pc = .ok (.putfield i, 3)) (kk : J g E post nL (pc + 3) lv st (wr σ k j v)) : J g E post nL pc lv (.int (iI v) :: .ref (gA g k) :: st) σ := by
  obtain ⟨p, e, R, s, m, args, below, meth, c⟩ := E
  obtain ⟨hx, hb, hml, hown, hts, hr, hlk, hR, hF, hD⟩ := C
  intro ls H locs hl hP hS
  refine va_put (D := gD g) (cl := cls) (ci := 1) (C := RX1) (T := TX1) (N := 3) hx hb hts inX1 tyX1 tyX1_ok nmX1 hown hF.1 hP (cwD hD σ) hS k (fs := fl g σ k 3) ?_ rfl j hj (hts _ hw) (fun x h => by rw [hs] at h; exact h) hfin hty rfl rfl (by rw [fl_len]; exact hj) hd (fun H1 locs1 hP1 _ hS1 => ?_)
  · rw [cw_at ho.1, ce_O ho]
    rfl
  · have hP2 : va_P (gD g) cls (cw g (wr σ k j v)) H1 := by
      rw [← cw_set (g := g) (σ := σ) ho.1 (ce_put v ho hj hr1) wr_o]
      exact hP1
    exact kk ls H1 locs1 hl hP2 hS1

theorem r_getI2 (C : Cx g E cc nL own ret d) {k i : Nat} (j : Nat) (hr1 : rf k j = none) (ho : isO k 2) (hj : j < 2) (hs : (TX2 j).1 = RX2) (hw : Cond.fieldLink own i RX2 (TX2 j).2.1 (TX2 j).2.2.1 ∈ tbl) (hd : decode cc pc = .ok (.getfield i, 3)) (kk : J g E post nL (pc + 3) lv (.int (iI (σ k j)) :: st) σ) : J g E post nL pc lv (.ref (gA g k) :: st) σ := by
  obtain ⟨p, e, R, s, m, args, below, meth, c⟩ := E
  obtain ⟨hx, hb, hml, hown, hts, hr, hlk, hR, hF, hD⟩ := C
  intro ls H locs hl hP hS
  refine va_get (D := gD g) (cl := cls) (ci := 2) (C := RX2) (T := TX2) (N := 2) hx hb hts inX2 hown hF.1 hP k (fs := fl g σ k 2) ?_ rfl j hj (hts _ hw) (fun x h => by rw [hs] at h; exact h) ?_ hd (kk ls H locs hl hP hS)
  · rw [cw_at ho.1, ce_O ho]
    rfl
  · rw [fl_at hj, fv_i hr1]

theorem r_getR2 (C : Cx g E cc nL own ret d) {k i : Nat} (j : Nat) {k' : Nat} (hr1 : rf k j = some k') (ho : isO k 2) (hj : j < 2) (hs : (TX2 j).1 = RX2) (hw : Cond.fieldLink own i RX2 (TX2 j).2.1 (TX2 j).2.2.1 ∈ tbl) (hd : decode cc pc = .ok (.getfield i, 3)) (kk : J g E post nL (pc + 3) lv (.ref (gA g k') :: st) σ) : J g E post nL pc lv (.ref (gA g k) :: st) σ := by
  obtain ⟨p, e, R, s, m, args, below, meth, c⟩ := E
  obtain ⟨hx, hb, hml, hown, hts, hr, hlk, hR, hF, hD⟩ := C
  intro ls H locs hl hP hS
  refine va_get (D := gD g) (cl := cls) (ci := 2) (C := RX2) (T := TX2) (N := 2) hx hb hts inX2 hown hF.1 hP k (fs := fl g σ k 2) ?_ rfl j hj (hts _ hw) (fun x h => by rw [hs] at h; exact h) ?_ hd (kk ls H locs hl hP hS)
  · rw [cw_at ho.1, ce_O ho]
    rfl
  · rw [fl_at hj, fv_r hr1]

theorem r_put2 (C : Cx g E cc nL own ret d) {k i : Nat} {v : Int} (j : Nat) (hr1 : rf k j = none) (ho : isO k 2) (hj : j < 2) (hs : (TX2 j).1 = RX2) (hw : Cond.fieldLink own i RX2 (TX2 j).2.1 (TX2 j).2.2.1 ∈ tbl) (hfin : (TX2 j).2.2.2 = false) (hty : parseFieldDescriptor (TX2 j).2.2.1 = some .int) (hd : decode cc pc = .ok (.putfield i, 3)) (kk : J g E post nL (pc + 3) lv st (wr σ k j v)) : J g E post nL pc lv (.int (iI v) :: .ref (gA g k) :: st) σ := by
  obtain ⟨p, e, R, s, m, args, below, meth, c⟩ := E
  obtain ⟨hx, hb, hml, hown, hts, hr, hlk, hR, hF, hD⟩ := C
  intro ls H locs hl hP hS
  refine va_put (D := gD g) (cl := cls) (ci := 2) (C := RX2) (T := TX2) (N := 2) hx hb hts inX2 tyX2 tyX2_ok nmX2 hown hF.1 hP (cwD hD σ) hS k (fs := fl g σ k 2) ?_ rfl j hj (hts _ hw) (fun x h => by rw [hs] at h; exact h) hfin hty rfl rfl (by rw [fl_len]; exact hj) hd (fun H1 locs1 hP1 _ hS1 => ?_)
  · rw [cw_at ho.1, ce_O ho]
    rfl
  · have hP2 : va_P (gD g) cls (cw g (wr σ k j v)) H1 := by
      rw [← cw_set (g := g) (σ := σ) ho.1 (ce_put v ho hj hr1) wr_o]
      exact hP1
    exact kk ls H1 locs1 hl hP2 hS1

theorem r_getI3 (C : Cx g E cc nL own ret d) {k i : Nat} (j : Nat) (hr1 : rf k j = none) (ho : isO k 3) (hj : j < 5) (hs : (TX3 j).1 = RX3) (hw : Cond.fieldLink own i RX3 (TX3 j).2.1 (TX3 j).2.2.1 ∈ tbl) (hd : decode cc pc = .ok (.getfield i, 3)) (kk : J g E post nL (pc + 3) lv (.int (iI (σ k j)) :: st) σ) : J g E post nL pc lv (.ref (gA g k) :: st) σ := by
  obtain ⟨p, e, R, s, m, args, below, meth, c⟩ := E
  obtain ⟨hx, hb, hml, hown, hts, hr, hlk, hR, hF, hD⟩ := C
  intro ls H locs hl hP hS
  refine va_get (D := gD g) (cl := cls) (ci := 3) (C := RX3) (T := TX3) (N := 5) hx hb hts inX3 hown hF.1 hP k (fs := fl g σ k 5) ?_ rfl j hj (hts _ hw) (fun x h => by rw [hs] at h; exact h) ?_ hd (kk ls H locs hl hP hS)
  · rw [cw_at ho.1, ce_O ho]
    rfl
  · rw [fl_at hj, fv_i hr1]

theorem r_getR3 (C : Cx g E cc nL own ret d) {k i : Nat} (j : Nat) {k' : Nat} (hr1 : rf k j = some k') (ho : isO k 3) (hj : j < 5) (hs : (TX3 j).1 = RX3) (hw : Cond.fieldLink own i RX3 (TX3 j).2.1 (TX3 j).2.2.1 ∈ tbl) (hd : decode cc pc = .ok (.getfield i, 3)) (kk : J g E post nL (pc + 3) lv (.ref (gA g k') :: st) σ) : J g E post nL pc lv (.ref (gA g k) :: st) σ := by
  obtain ⟨p, e, R, s, m, args, below, meth, c⟩ := E
  obtain ⟨hx, hb, hml, hown, hts, hr, hlk, hR, hF, hD⟩ := C
  intro ls H locs hl hP hS
  refine va_get (D := gD g) (cl := cls) (ci := 3) (C := RX3) (T := TX3) (N := 5) hx hb hts inX3 hown hF.1 hP k (fs := fl g σ k 5) ?_ rfl j hj (hts _ hw) (fun x h => by rw [hs] at h; exact h) ?_ hd (kk ls H locs hl hP hS)
  · rw [cw_at ho.1, ce_O ho]
    rfl
  · rw [fl_at hj, fv_r hr1]

theorem r_put3 (C : Cx g E cc nL own ret d) {k i : Nat} {v : Int} (j : Nat) (hr1 : rf k j = none) (ho : isO k 3) (hj : j < 5) (hs : (TX3 j).1 = RX3) (hw : Cond.fieldLink own i RX3 (TX3 j).2.1 (TX3 j).2.2.1 ∈ tbl) (hfin : (TX3 j).2.2.2 = false) (hty : parseFieldDescriptor (TX3 j).2.2.1 = some .int) (hd : decode cc pc = .ok (.putfield i, 3)) (kk : J g E post nL (pc + 3) lv st (wr σ k j v)) : J g E post nL pc lv (.int (iI v) :: .ref (gA g k) :: st) σ := by
  obtain ⟨p, e, R, s, m, args, below, meth, c⟩ := E
  obtain ⟨hx, hb, hml, hown, hts, hr, hlk, hR, hF, hD⟩ := C
  intro ls H locs hl hP hS
  refine va_put (D := gD g) (cl := cls) (ci := 3) (C := RX3) (T := TX3) (N := 5) hx hb hts inX3 tyX3 tyX3_ok nmX3 hown hF.1 hP (cwD hD σ) hS k (fs := fl g σ k 5) ?_ rfl j hj (hts _ hw) (fun x h => by rw [hs] at h; exact h) hfin hty rfl rfl (by rw [fl_len]; exact hj) hd (fun H1 locs1 hP1 _ hS1 => ?_)
  · rw [cw_at ho.1, ce_O ho]
    rfl
  · have hP2 : va_P (gD g) cls (cw g (wr σ k j v)) H1 := by
      rw [← cw_set (g := g) (σ := σ) ho.1 (ce_put v ho hj hr1) wr_o]
      exact hP1
    exact kk ls H1 locs1 hl hP2 hS1

theorem r_getI4 (C : Cx g E cc nL own ret d) {k i : Nat} (j : Nat) (hr1 : rf k j = none) (ho : isO k 4) (hj : j < 8) (hs : (TX4 j).1 = RX4) (hw : Cond.fieldLink own i RX4 (TX4 j).2.1 (TX4 j).2.2.1 ∈ tbl) (hd : decode cc pc = .ok (.getfield i, 3)) (kk : J g E post nL (pc + 3) lv (.int (iI (σ k j)) :: st) σ) : J g E post nL pc lv (.ref (gA g k) :: st) σ := by
  obtain ⟨p, e, R, s, m, args, below, meth, c⟩ := E
  obtain ⟨hx, hb, hml, hown, hts, hr, hlk, hR, hF, hD⟩ := C
  intro ls H locs hl hP hS
  refine va_get (D := gD g) (cl := cls) (ci := 4) (C := RX4) (T := TX4) (N := 8) hx hb hts inX4 hown hF.1 hP k (fs := fl g σ k 8) ?_ rfl j hj (hts _ hw) (fun x h => by rw [hs] at h; exact h) ?_ hd (kk ls H locs hl hP hS)
  · rw [cw_at ho.1, ce_O ho]
    rfl
  · rw [fl_at hj, fv_i hr1]

theorem r_getR4 (C : Cx g E cc nL own ret d) {k i : Nat} (j : Nat) {k' : Nat} (hr1 : rf k j = some k') (ho : isO k 4) (hj : j < 8) (hs : (TX4 j).1 = RX4) (hw : Cond.fieldLink own i RX4 (TX4 j).2.1 (TX4 j).2.2.1 ∈ tbl) (hd : decode cc pc = .ok (.getfield i, 3)) (kk : J g E post nL (pc + 3) lv (.ref (gA g k') :: st) σ) : J g E post nL pc lv (.ref (gA g k) :: st) σ := by
  obtain ⟨p, e, R, s, m, args, below, meth, c⟩ := E
  obtain ⟨hx, hb, hml, hown, hts, hr, hlk, hR, hF, hD⟩ := C
  intro ls H locs hl hP hS
  refine va_get (D := gD g) (cl := cls) (ci := 4) (C := RX4) (T := TX4) (N := 8) hx hb hts inX4 hown hF.1 hP k (fs := fl g σ k 8) ?_ rfl j hj (hts _ hw) (fun x h => by rw [hs] at h; exact h) ?_ hd (kk ls H locs hl hP hS)
  · rw [cw_at ho.1, ce_O ho]
    rfl
  · rw [fl_at hj, fv_r hr1]

theorem r_put4 (C : Cx g E cc nL own ret d) {k i : Nat} {v : Int} (j : Nat) (hr1 : rf k j = none) (ho : isO k 4) (hj : j < 8) (hs : (TX4 j).1 = RX4) (hw : Cond.fieldLink own i RX4 (TX4 j).2.1 (TX4 j).2.2.1 ∈ tbl) (hfin : (TX4 j).2.2.2 = false) (hty : parseFieldDescriptor (TX4 j).2.2.1 = some .int) (hd : decode cc pc = .ok (.putfield i, 3)) (kk : J g E post nL (pc + 3) lv st (wr σ k j v)) : J g E post nL pc lv (.int (iI v) :: .ref (gA g k) :: st) σ := by
  obtain ⟨p, e, R, s, m, args, below, meth, c⟩ := E
  obtain ⟨hx, hb, hml, hown, hts, hr, hlk, hR, hF, hD⟩ := C
  intro ls H locs hl hP hS
  refine va_put (D := gD g) (cl := cls) (ci := 4) (C := RX4) (T := TX4) (N := 8) hx hb hts inX4 tyX4 tyX4_ok nmX4 hown hF.1 hP (cwD hD σ) hS k (fs := fl g σ k 8) ?_ rfl j hj (hts _ hw) (fun x h => by rw [hs] at h; exact h) hfin hty rfl rfl (by rw [fl_len]; exact hj) hd (fun H1 locs1 hP1 _ hS1 => ?_)
  · rw [cw_at ho.1, ce_O ho]
    rfl
  · have hP2 : va_P (gD g) cls (cw g (wr σ k j v)) H1 := by
      rw [← cw_set (g := g) (σ := σ) ho.1 (ce_put v ho hj hr1) wr_o]
      exact hP1
    exact kk ls H1 locs1 hl hP2 hS1

theorem r_putZ4 (C : Cx g E cc nL own ret d) {k i : Nat} {v : Int} (j : Nat) (hz : v = 0 ∨ v = 1) (hr1 : rf k j = none) (ho : isO k 4) (hj : j < 8) (hs : (TX4 j).1 = RX4) (hw : Cond.fieldLink own i RX4 (TX4 j).2.1 (TX4 j).2.2.1 ∈ tbl) (hfin : (TX4 j).2.2.2 = false) (hty : parseFieldDescriptor (TX4 j).2.2.1 = some .boolean) (hd : decode cc pc = .ok (.putfield i, 3)) (kk : J g E post nL (pc + 3) lv st (wr σ k j v)) : J g E post nL pc lv (.int (iI v) :: .ref (gA g k) :: st) σ := by
  obtain ⟨p, e, R, s, m, args, below, meth, c⟩ := E
  obtain ⟨hx, hb, hml, hown, hts, hr, hlk, hR, hF, hD⟩ := C
  intro ls H locs hl hP hS
  refine va_put (D := gD g) (cl := cls) (ci := 4) (C := RX4) (T := TX4) (N := 8) hx hb hts inX4 tyX4 tyX4_ok nmX4 hown hF.1 hP (cwD hD σ) hS k (fs := fl g σ k 8) ?_ rfl j hj (hts _ hw) (fun x h => by rw [hs] at h; exact h) hfin hty (by rcases hz with rfl | rfl <;> rfl) (by rcases hz with rfl | rfl <;> rfl) (by rw [fl_len]; exact hj) hd (fun H1 locs1 hP1 _ hS1 => ?_)
  · rw [cw_at ho.1, ce_O ho]
    rfl
  · have hP2 : va_P (gD g) cls (cw g (wr σ k j v)) H1 := by
      rw [← cw_set (g := g) (σ := σ) ho.1 (ce_put v ho hj hr1) wr_o]
      exact hP1
    exact kk ls H1 locs1 hl hP2 hS1

theorem r_getI5 (C : Cx g E cc nL own ret d) {k i : Nat} (j : Nat) (hr1 : rf k j = none) (ho : isO k 5) (hj : j < 19) (hs : (TX5 j).1 = RX5) (hw : Cond.fieldLink own i RX5 (TX5 j).2.1 (TX5 j).2.2.1 ∈ tbl) (hd : decode cc pc = .ok (.getfield i, 3)) (kk : J g E post nL (pc + 3) lv (.int (iI (σ k j)) :: st) σ) : J g E post nL pc lv (.ref (gA g k) :: st) σ := by
  obtain ⟨p, e, R, s, m, args, below, meth, c⟩ := E
  obtain ⟨hx, hb, hml, hown, hts, hr, hlk, hR, hF, hD⟩ := C
  intro ls H locs hl hP hS
  refine va_get (D := gD g) (cl := cls) (ci := 5) (C := RX5) (T := TX5) (N := 19) hx hb hts inX5 hown hF.1 hP k (fs := fl g σ k 19) ?_ rfl j hj (hts _ hw) (fun x h => by rw [hs] at h; exact h) ?_ hd (kk ls H locs hl hP hS)
  · rw [cw_at ho.1, ce_O ho]
    rfl
  · rw [fl_at hj, fv_i hr1]

theorem r_getR5 (C : Cx g E cc nL own ret d) {k i : Nat} (j : Nat) {k' : Nat} (hr1 : rf k j = some k') (ho : isO k 5) (hj : j < 19) (hs : (TX5 j).1 = RX5) (hw : Cond.fieldLink own i RX5 (TX5 j).2.1 (TX5 j).2.2.1 ∈ tbl) (hd : decode cc pc = .ok (.getfield i, 3)) (kk : J g E post nL (pc + 3) lv (.ref (gA g k') :: st) σ) : J g E post nL pc lv (.ref (gA g k) :: st) σ := by
  obtain ⟨p, e, R, s, m, args, below, meth, c⟩ := E
  obtain ⟨hx, hb, hml, hown, hts, hr, hlk, hR, hF, hD⟩ := C
  intro ls H locs hl hP hS
  refine va_get (D := gD g) (cl := cls) (ci := 5) (C := RX5) (T := TX5) (N := 19) hx hb hts inX5 hown hF.1 hP k (fs := fl g σ k 19) ?_ rfl j hj (hts _ hw) (fun x h => by rw [hs] at h; exact h) ?_ hd (kk ls H locs hl hP hS)
  · rw [cw_at ho.1, ce_O ho]
    rfl
  · rw [fl_at hj, fv_r hr1]

theorem r_put5 (C : Cx g E cc nL own ret d) {k i : Nat} {v : Int} (j : Nat) (hr1 : rf k j = none) (ho : isO k 5) (hj : j < 19) (hs : (TX5 j).1 = RX5) (hw : Cond.fieldLink own i RX5 (TX5 j).2.1 (TX5 j).2.2.1 ∈ tbl) (hfin : (TX5 j).2.2.2 = false) (hty : parseFieldDescriptor (TX5 j).2.2.1 = some .int) (hd : decode cc pc = .ok (.putfield i, 3)) (kk : J g E post nL (pc + 3) lv st (wr σ k j v)) : J g E post nL pc lv (.int (iI v) :: .ref (gA g k) :: st) σ := by
  obtain ⟨p, e, R, s, m, args, below, meth, c⟩ := E
  obtain ⟨hx, hb, hml, hown, hts, hr, hlk, hR, hF, hD⟩ := C
  intro ls H locs hl hP hS
  refine va_put (D := gD g) (cl := cls) (ci := 5) (C := RX5) (T := TX5) (N := 19) hx hb hts inX5 tyX5 tyX5_ok nmX5 hown hF.1 hP (cwD hD σ) hS k (fs := fl g σ k 19) ?_ rfl j hj (hts _ hw) (fun x h => by rw [hs] at h; exact h) hfin hty rfl rfl (by rw [fl_len]; exact hj) hd (fun H1 locs1 hP1 _ hS1 => ?_)
  · rw [cw_at ho.1, ce_O ho]
    rfl
  · have hP2 : va_P (gD g) cls (cw g (wr σ k j v)) H1 := by
      rw [← cw_set (g := g) (σ := σ) ho.1 (ce_put v ho hj hr1) wr_o]
      exact hP1
    exact kk ls H1 locs1 hl hP2 hS1

theorem r_putZ5 (C : Cx g E cc nL own ret d) {k i : Nat} {v : Int} (j : Nat) (hz : v = 0 ∨ v = 1) (hr1 : rf k j = none) (ho : isO k 5) (hj : j < 19) (hs : (TX5 j).1 = RX5) (hw : Cond.fieldLink own i RX5 (TX5 j).2.1 (TX5 j).2.2.1 ∈ tbl) (hfin : (TX5 j).2.2.2 = false) (hty : parseFieldDescriptor (TX5 j).2.2.1 = some .boolean) (hd : decode cc pc = .ok (.putfield i, 3)) (kk : J g E post nL (pc + 3) lv st (wr σ k j v)) : J g E post nL pc lv (.int (iI v) :: .ref (gA g k) :: st) σ := by
  obtain ⟨p, e, R, s, m, args, below, meth, c⟩ := E
  obtain ⟨hx, hb, hml, hown, hts, hr, hlk, hR, hF, hD⟩ := C
  intro ls H locs hl hP hS
  refine va_put (D := gD g) (cl := cls) (ci := 5) (C := RX5) (T := TX5) (N := 19) hx hb hts inX5 tyX5 tyX5_ok nmX5 hown hF.1 hP (cwD hD σ) hS k (fs := fl g σ k 19) ?_ rfl j hj (hts _ hw) (fun x h => by rw [hs] at h; exact h) hfin hty (by rcases hz with rfl | rfl <;> rfl) (by rcases hz with rfl | rfl <;> rfl) (by rw [fl_len]; exact hj) hd (fun H1 locs1 hP1 _ hS1 => ?_)
  · rw [cw_at ho.1, ce_O ho]
    rfl
  · have hP2 : va_P (gD g) cls (cw g (wr σ k j v)) H1 := by
      rw [← cw_set (g := g) (σ := σ) ho.1 (ce_put v ho hj hr1) wr_o]
      exact hP1
    exact kk ls H1 locs1 hl hP2 hS1

theorem r_iald (C : Cx g E cc nL own ret d) {k n : Nat} {a : Int} (j : Nat) (hA : isA k n) (ha : a = (j : Int)) (hj : j < n) (hd : decode cc pc = .ok (.iaload, 1)) (kk : J g E post nL (pc + 1) lv (.int (iI (σ k j)) :: st) σ) : J g E post nL pc lv (.int (iI a) :: .ref (gA g k) :: st) σ := by
  obtain ⟨p, e, R, s, m, args, below, meth, c⟩ := E
  obtain ⟨hx, hb, hml, hown, hts, hr, hlk, hR, hF, hD⟩ := C
  intro ls H locs hl hP hS
  have hn := hA.2.2.2.2
  refine va_iald hx hb hF.1 hP k 0 (cA := gI g) (n := n) (f := fun j => iI (σ k j)) ?_ rfl (iI_in ha hj hn) hd ?_
  · rw [cw_at hA.1, ce_A hA]
  · rw [iI_clamp ha (by omega)]
    exact kk ls H locs hl hP hS

theorem r_iast (C : Cx g E cc nL own ret d) {k n : Nat} {a x : Int} (j : Nat) (hA : isA k n) (ha : a = (j : Int)) (hj : j < n) (hd : decode cc pc = .ok (.iastore, 1)) (kk : J g E post nL (pc + 1) lv st (wr σ k j x)) : J g E post nL pc lv (.int (iI x) :: .int (iI a) :: .ref (gA g k) :: st) σ := by
  obtain ⟨p, e, R, s, m, args, below, meth, c⟩ := E
  obtain ⟨hx, hb, hml, hown, hts, hr, hlk, hR, hF, hD⟩ := C
  intro ls H locs hl hP hS
  have hn := hA.2.2.2.2
  refine va_iast hx hb hF.1 hP (cwD hD σ) hS k 0 (cA := gI g) (n := n) (f := fun j => iI (σ k j)) ?_ rfl (iI_in ha hj hn) hd (fun H1 locs1 hP1 _ hS1 => ?_)
  · rw [cw_at hA.1, ce_A hA]
  · rw [iI_clamp ha (by omega), cw_set hA.1 (ce_ast x hA) wr_o] at hP1
    exact kk ls H1 locs1 hl hP1 hS1

theorem r_alen (C : Cx g E cc nL own ret d) {k n : Nat} (hA : isA k n) (hd : decode cc pc = .ok (.arraylength, 1)) (kk : J g E post nL (pc + 1) lv (.int (iI (n : Int)) :: st) σ) : J g E post nL pc lv (.ref (gA g k) :: st) σ := by
  obtain ⟨p, e, R, s, m, args, below, meth, c⟩ := E
  obtain ⟨hx, hb, hml, hown, hts, hr, hlk, hR, hF, hD⟩ := C
  intro ls H locs hl hP hS
  refine va_alen hx hb hF.1 hP k 0 (cA := gI g) (x := (n, .inl (fun j => iI (σ k j)))) ?_ (ty := .int) rfl (iI_nat n).symm hd (kk ls H locs hl hP hS)
  rw [cw_at hA.1, ce_A hA]

theorem r_aald (C : Cx g E cc nL own ret d) {a : Int} (j : Nat) (ha : a = (j : Int)) (hj : j < 4) (hd : decode cc pc = .ok (.aaload, 1)) (kk : J g E post nL (pc + 1) lv (.ref (gA g (31 + 2 * j)) :: st) σ) : J g E post nL pc lv (.int (iI a) :: .ref (gA g 30) :: st) σ := by
  obtain ⟨p, e, R, s, m, args, below, meth, c⟩ := E
  obtain ⟨hx, hb, hml, hown, hts, hr, hlk, hR, hF, hD⟩ := C
  intro ls H locs hl hP hS
  refine va_aldq hx hb hF.1 hP 30 1 (cA := gQ g) (C := RX1) (n := 4) (f := fun j => some (gA g (31 + 2 * j))) ?_ rfl (iI_in ha hj (by decide)) hd ?_
  · rw [cw_at (by decide)]
    rfl
  · rw [iI_clamp ha (by omega)]
    exact kk ls H locs hl hP hS

theorem r_gets (C : Cx g E cc nL own ret d) {i x : Nat} {n : String} (hZ : ∀ U, Fx g U → Ft g n i U) (hw : Cond.fieldLink own x "DustLand" n "[I" ∈ tbl) (hd : decode cc pc = .ok (.getstatic x, 3)) (kk : J g E post nL (pc + 3) lv (.ref (gT g i) :: st) σ) : J g E post nL pc lv st σ := by
  obtain ⟨p, e, R, s, m, args, below, meth, c⟩ := E
  obtain ⟨hx, hb, hml, hown, hts, hr, hlk, hR, hF, hD⟩ := C
  intro ls H locs hl hP hS
  exact va_gets hx hb (hZ s hF).1 hS hown (hts _ hw) (fun _ h => h) hd (kk ls H locs hl hP hS)

theorem r_getsN (C : Cx g E cc nL own ret d) {i x : Nat} {n : String} (hZ : ∀ U, Fx g U → Ft g n i U) (hw : ∀ U, Fn U → va_Nw (.fieldLinkNest own x RX4 n "[I" RX4) U) (hd : decode cc pc = .ok (.getstatic x, 3)) (kk : J g E post nL (pc + 3) lv (.ref (gT g i) :: st) σ) : J g E post nL pc lv st σ := by
  obtain ⟨p, e, R, s, m, args, below, meth, c⟩ := E
  obtain ⟨hx, hb, hml, hown, hts, hr, hlk, hR, hF, hD⟩ := C
  intro ls H locs hl hP hS
  exact va_getsN hx hb (hZ s hF).1 hS hown (va_Nw.use rfl (hw s hF.2.2.2.2.1)) (fun _ h => h) hd (kk ls H locs hl hP hS)

theorem r_tald (C : Cx g E cc nL own ret d) {i : Nat} {n : String} {a : Int} (j : Nat) (hZ : ∀ U, Fx g U → Ft g n i U) (ha : a = (j : Int)) (hj : j < 7) (hd : decode cc pc = .ok (.iaload, 1)) (kk : J g E post nL (pc + 1) lv (.int (iI (stab i j)) :: st) σ) : J g E post nL pc lv (.int (iI a) :: .ref (gT g i) :: st) σ := by
  obtain ⟨p, e, R, s, m, args, below, meth, c⟩ := E
  obtain ⟨hx, hb, hml, hown, hts, hr, hlk, hR, hF, hD⟩ := C
  intro ls H locs hl hP hS
  refine va_ti hx hb (hZ s hF).2 hS (iI_in ha hj (by decide)) (v := .int (iI (stab i j))) ?_ hd (kk ls H locs hl hP hS)
  rw [iI_clamp ha (by omega)]

theorem r_min (C : Cx g E cc nL own ret d) {i : Nat} {a b : Int} (ha : rng a) (hb2 : rng b) (h1 : 1 ≤ d) (hst : (st.map fun v => v.category).sum ≤ 8) (hw : Cond.methodLink own i yJ9_min_7cf53 ∈ tbl) (hd : decode cc pc = .ok (.invokestatic i, 3)) (k : J g E post nL (pc + 3) lv (.int (iI (min a b)) :: st) σ) : J g E post nL pc lv (.int (iI b) :: .int (iI a) :: st) σ := by
  obtain ⟨p, e, R, s, m, args, below, meth, c⟩ := E
  obtain ⟨hx, hb, hml, hown, hts, hr, hlk, hR, hF, hD⟩ := C
  intro ls H locs hl hP hS
  subst hR
  refine va_mmin hx hb (by rw [hml]; exact hl.1.symm) hown (hts _ hw) (hts _ t_348) (hts _ t_82) (hts _ t_349) h1 (by show _ + 13 ≤ 37 * d; omega) (Nat.zero_le _) (Nat.zero_le _) hd ?_
  have e : (if iI b < iI a then iI b else iI a) = iI (min a b) := by
    by_cases h : b < a
    · rw [if_pos ((iI_lt hb2 ha).mpr h), Int.min_eq_right (by omega)]
    · rw [if_neg (fun q => h ((iI_lt hb2 ha).mp q)), Int.min_eq_left (by omega)]
  rw [e]
  exact k ls H locs hl hP hS

theorem r_copy (C : Cx g E cc nL own ret d) {i k0 k1 n0 n1 : Nat} {a b c2 : Int} (sp dp n : Nat) (hA0 : isA k0 n0) (hA1 : isA k1 n1) (ha : a = (sp : Int)) (hb2 : b = (dp : Int)) (hc : c2 = (n : Int)) (h4 : sp + n ≤ n0) (h5 : dp + n ≤ n1) (h1 : 1 ≤ d) (hst : (st.map fun v => v.category).sum ≤ 8) (hw : Cond.methodLink own i arraycopyName ∈ tbl) (hd : decode cc pc = .ok (.invokestatic i, 3)) (kk : J g E post nL (pc + 3) lv st (us σ k1 (cpy (σ k0) (σ k1) sp dp n))) : J g E post nL pc lv (.int (iI c2) :: .int (iI b) :: .ref (gA g k1) :: .int (iI a) :: .ref (gA g k0) :: st) σ := by
  obtain ⟨p, e, R, s, m, args, below, meth, c⟩ := E
  obtain ⟨hx, hb, hml, hown, hts, hr, hlk, hR, hF, hD⟩ := C
  intro ls H locs hl hP hS
  subst hR
  have hn0 := hA0.2.2.2.2
  have hn1 := hA1.2.2.2.2
  have p1 : ∀ {x : Int} {j : Nat}, x = (j : Int) → j < 2147483648 → ¬ iI x < 0 := fun {x j} h h2 => by
    rw [iI_0, iI_lt ⟨by omega, by omega⟩ rng0]
    omega
  have e1 : (iI a).toNatClampNeg = sp := iI_clamp ha (by omega)
  have e2 : (iI b).toNatClampNeg = dp := iI_clamp hb2 (by omega)
  have e3 : (iI c2).toNatClampNeg = n := iI_clamp hc (by omega)
  refine va_copyi hx hb (by rw [hml]; exact hl.1.symm) hown (hts _ hw) (hts _ t_427) (hts _ t_426) (hts _ t_83) hF.1 hP (cwD hD σ) hS k0 k1 0 0 (c0 := gI g) (c1 := gI g) (n0 := n0) (n1 := n1) (f := fun j => iI (σ k0 j)) (g := fun j => iI (σ k1 j)) (ty := .int) ?_ ?_ rfl rfl rfl (p1 ha (by omega)) (p1 hb2 (by omega)) (p1 hc (by omega)) (by rw [e1, e3]; exact h4) (by rw [e2, e3]; exact h5) (fun _ _ => rfl) h1 (Nat.le_trans (Nat.add_le_add hst (show nativeFrameWords "java/lang/System" "arraycopy" 5 + 11 ≤ 29 by decide +kernel)) (show 8 + 29 ≤ 37 * d by omega)) hd (fun H1 locs1 hP1 _ hS1 => ?_)
  · rw [cw_at hA0.1, ce_A hA0]
  · rw [cw_at hA1.1, ce_A hA1]
  · rw [e1, e2, e3] at hP1
    have e4 : ce g (us σ k1 (cpy (σ k0) (σ k1) sp dp n)) k1 = .inl (gI g, n1, .inl (va_cpy (fun j => iI (σ k0 j)) (fun j => iI (σ k1 j)) sp dp n)) := by
      rw [ce_A hA1, us_s]
      congr 4
      funext q
      unfold cpy va_cpy
      split <;> rfl
    rw [cw_set hA1.1 e4 (fun q h => us_n _ _ h)] at hP1
    exact kk ls H1 locs1 hl hP1 hS1

theorem r_iret {v : Int} (C : Cx g E cc nL own (some .int) d) (hp : post (some (.int (iI v))) σ) (hd : decode cc pc = .ok (.ireturn, 1)) : J g E post nL pc lv [.int (iI v)] σ := by
  obtain ⟨p, e, R, s, m, args, below, meth, c⟩ := E
  obtain ⟨hx, hb, hml, hown, hts, hr, hlk, hR, hF, hD⟩ := C
  intro ls H locs hl hP hS
  exact W.iret hx hb hr (fun t ht hW => ⟨⟨_, σ, rfl, hp, by rw [ht]; exact hP⟩, hS.F ht⟩) hS.2.2 hd hlk

theorem r_zret {v : Int} (hz : v = 0 ∨ v = 1) (C : Cx g E cc nL own (some .boolean) d) (hp : post (some (.int (iI v))) σ) (hd : decode cc pc = .ok (.ireturn, 1)) : J g E post nL pc lv [.int (iI v)] σ := by
  obtain ⟨p, e, R, s, m, args, below, meth, c⟩ := E
  obtain ⟨hx, hb, hml, hown, hts, hr, hlk, hR, hF, hD⟩ := C
  intro ls H locs hl hP hS
  exact W.zret hx hb hr (by rcases hz with rfl | rfl <;> rfl) (fun t ht hW => ⟨⟨_, σ, rfl, hp, by rw [ht]; exact hP⟩, hS.F ht⟩) hS.2.2 hd hlk

theorem r_nret {v : Int} {ty : FieldType} (hz : narrow ty (.int (iI v)) = .int (iI v)) (C : Cx g E cc nL own (some ty) d) (hp : post (some (.int (iI v))) σ) (hd : decode cc pc = .ok (.ireturn, 1)) : J g E post nL pc lv [.int (iI v)] σ := by
  obtain ⟨p, e, R, s, m, args, below, meth, c⟩ := E
  obtain ⟨hx, hb, hml, hown, hts, hr, hlk, hR, hF, hD⟩ := C
  intro ls H locs hl hP hS
  exact W.zret hx hb hr hz (fun t ht hW => ⟨⟨_, σ, rfl, hp, by rw [ht]; exact hP⟩, hS.F ht⟩) hS.2.2 hd hlk

theorem r_lret {v : Int} (C : Cx g E cc nL own (some .long) d) (hp : post (some (.long (iL v))) σ) (hd : decode cc pc = .ok (.lreturn, 1)) : J g E post nL pc lv [.long (iL v)] σ := by
  obtain ⟨p, e, R, s, m, args, below, meth, c⟩ := E
  obtain ⟨hx, hb, hml, hown, hts, hr, hlk, hR, hF, hD⟩ := C
  intro ls H locs hl hP hS
  exact W.lret hx hb hr (fun t ht hW => ⟨⟨_, σ, rfl, hp, by rw [ht]; exact hP⟩, hS.F ht⟩) hS.2.2 hd hlk

theorem r_vret  (C : Cx g E cc nL own none d) (hp : post none σ) (hd : decode cc pc = .ok (.return_, 1)) : J g E post nL pc lv [] σ := by
  obtain ⟨p, e, R, s, m, args, below, meth, c⟩ := E
  obtain ⟨hx, hb, hml, hown, hts, hr, hlk, hR, hF, hD⟩ := C
  intro ls H locs hl hP hS
  exact W.vret hx hb hr (fun t ht hW => ⟨⟨_, σ, rfl, hp, by rw [ht]; exact hP⟩, hS.F ht⟩) hS.2.2 hd hlk

theorem r_aret {v : Nat} {nm : String} (C : Cx g E cc nL own (some (.object nm)) d) (hp : post (some (.ref v)) σ) (hd : decode cc pc = .ok (.areturn, 1)) : J g E post nL pc lv [.ref v] σ := by
  obtain ⟨p, e, R, s, m, args, below, meth, c⟩ := E
  obtain ⟨hx, hb, hml, hown, hts, hr, hlk, hR, hF, hD⟩ := C
  intro ls H locs hl hP hS
  exact W.aret hx hb hr (Or.inl ⟨_, rfl⟩) (Or.inr ⟨_, rfl⟩) (fun t ht hW => ⟨⟨_, σ, rfl, hp, by rw [ht]; exact hP⟩, hS.F ht⟩) hS.2.2 hd hlk

end ROWS
/-- what the tables say of a method, once for all its calls -/
def Yi (y : MethodName) (cy : ByteArray) (n : Nat) (ry : Option FieldType) (nA : Nat) (Cn : String) : Prop := (y.cls = Cn ∧ y.cls ≠ "java/lang/invoke/MethodHandle" ∧ y.cls ≠ "java/lang/invoke/VarHandle" ∧ (parseMethodDescriptor y.desc).map (fun d => d.parameters.length) = some nA) ∧ Cond.initialized y.cls ∈ tbl ∧ Cond.code y cy n ry ∈ tbl ∧ Cond.instanceMethod y ∈ tbl ∧ Cond.selects Cn y y ∈ tbl
def Ys (y : MethodName) (cy : ByteArray) (n : Nat) (ry : Option FieldType) (nA : Nat) : Prop := (y.cls ≠ "java/lang/invoke/MethodHandle" ∧ y.cls ≠ "java/lang/invoke/VarHandle" ∧ (parseMethodDescriptor y.desc).map (fun d => d.parameters.length) = some nA) ∧ Cond.initialized y.cls ∈ tbl ∧ Cond.code y cy n ry ∈ tbl ∧ Cond.static y ∈ tbl
section CALLS
variable {p : Program} {l : Launch} {e : Env} {R : Room} {s : State} {m : MethodId} {args : Array Value} {below : List Frame} {meth : Method} {c : Code} {H : Heap} {locs : List Loc} {Q : State → Prop} {pc : Nat} {ls : Array Slot} {rest st0 : List Value} {a : Array Value} {g : Gt}
theorem call_go {po : Option Value → Sg → Prop} (hr : va_Run p l e R s m args below meth c H locs 0 0 0 0 (F0 m pc ls st0) rest (Qn g po a) (aw g)) (hS : va_S (aw g) s.heap H locs)
    (kk : ∀ (v : Option Value) (σ' : Sg) (H1 : Heap) (locs1 : List Loc), po v σ' → va_P (gD g) cls (cw g σ') H1 → va_S (aw g) s.heap H1 locs1 → W p l e R s m args below meth c H1 locs1 0 0 Q (F0 m (pc + 3) ls (v.toList ++ rest))) : W p l e R s m args below meth c H locs 0 0 Q (F0 m pc ls st0) := by
  intro T hT X
  obtain ⟨v, st₀, t, T', L, h0, X', hL, e1, e2, ⟨⟨v2, σ', hv, hp, hb⟩, hz, hk⟩, st⟩ := hr T hT X
  cases hv
  rw [h0] at hz hk
  obtain ⟨t2, a1, b1⟩ := kk v σ' T'.heap (locs ++ L) hp (by rw [e1]; exact hb)
    ⟨Nat.le_trans hS.1 (by rw [e1]; exact hz), fun q h1 h2 => by rw [e1, hk q (Nat.lt_of_lt_of_le h1 hS.1) h2]; exact hS.2.1 q h1 h2, fun q hq => by
      rcases List.mem_append.mp hq with h | h
      · exact hS.2.2 q h
      · exact hL q h⟩ T' rfl X'
  exact ⟨t2, st t2 a1, b1⟩
end CALLS
section CALLS2
variable {g : Gt} {E : Ev} {post : Option Value → Sg → Prop} {cc : ByteArray} {nL pc d : Nat} {own : String} {ret : Option FieldType} {lv : List (Nat × Value)} {st st0 : List Value} {σ : Sg} {y : MethodName} {cy : ByteArray} {n nA dy i : Nat} {ry : Option FieldType} {As : List Value} {po : Option Value → Sg → Prop}
theorem r_callV (C : Cx g E cc nL own ret d) {k ci : Nat} {q : vw_C} (hM : Mt g y cy n ry dy (.ref (gA g k) :: As) σ po) (hY : Yi y cy n ry nA q.1) (ho : isO k ci) (hq : cls[ci]? = some q) (hnA : As.length = nA) (w1 : Cond.methodLink own i y ∈ tbl) (hR2 : dy + 1 ≤ d ∧ 19 + n + 37 * dy ≤ 37 * d) (hrest : (st.map fun v => v.category).sum ≤ 8) (hst : st0 = As.reverse ++ .ref (gA g k) :: st) (hd : decode cc pc = .ok (.invokevirtual i, 3))
    (kk : ∀ (v : Option Value) (σ' : Sg), po v σ' → J g E post nL (pc + 3) lv (v.toList ++ st) σ') : J g E post nL pc lv st0 σ := by
  obtain ⟨p, e, R, s, m, args, below, meth, c⟩ := E
  obtain ⟨hx, hb, hml, hown, hts, hr, hlk, hR, hF, hD⟩ := C
  intro ls H locs hl hP hS
  subst hR
  obtain ⟨hy, w4, w5, w2, w3⟩ := hY
  have hcb : CallB (rmD d) s args own i y cy n ry (wsOf y cy n ry) (rmD dy) 0 0 nA := callB_of nA hts (wsOf_good w5) rfl rfl rfl (hts _ w4) (hts _ w1) hy.2 ⟨hR2.1, by show 8 + (n + 11) + 37 * dy ≤ 37 * d; omega⟩
  refine call_go (va_runV (C := q.1) (As := As) (rest := st) (b := gA g k) (g := F0 m pc ls st0) ⟨hx, hb, hml, hown, hts⟩ hM ⟨hcb, hts _ w2, hts _ w3⟩ ⟨FrameBlind_Wd g _ σ, va_recv hF.1 hP hq (q0 := k) (fs := fl g σ k (nf ci)) (by rw [cw_at ho.1, ce_O ho]), fun U hU hW => ⟨rfl, by rw [hU]; exact hP, Fx_warm hW (fun a h1 h2 => by rw [hU]; exact hS.2.1 a h1 h2) hF, hD⟩⟩ rfl hnA hl.1 hst (lv_room hrest) hd ⟨Nat.zero_le _, Nat.zero_le _⟩) hS (fun v σ' H1 locs1 hp hP1 hS1 => kk v σ' hp ls H1 locs1 hl hP1 hS1)
theorem r_callS (C : Cx g E cc nL own ret d) (hM : Mt g y cy n ry dy As σ po) (hY : Ys y cy n ry nA) (hnA : As.length = nA) (w1 : Cond.methodLink own i y ∈ tbl) (hR2 : dy + 1 ≤ d ∧ 19 + n + 37 * dy ≤ 37 * d) (hrest : (st.map fun v => v.category).sum ≤ 8) (hst : st0 = As.reverse ++ st) (hd : decode cc pc = .ok (.invokestatic i, 3))
    (kk : ∀ (v : Option Value) (σ' : Sg), po v σ' → J g E post nL (pc + 3) lv (v.toList ++ st) σ') : J g E post nL pc lv st0 σ := by
  obtain ⟨p, e, R, s, m, args, below, meth, c⟩ := E
  obtain ⟨hx, hb, hml, hown, hts, hr, hlk, hR, hF, hD⟩ := C
  intro ls H locs hl hP hS
  subst hR
  obtain ⟨hy, w4, w5, w2⟩ := hY
  have hcb : CallB (rmD d) s args own i y cy n ry (wsOf y cy n ry) (rmD dy) 0 0 nA := callB_of nA hts (wsOf_good w5) rfl rfl rfl (hts _ w4) (hts _ w1) hy ⟨hR2.1, by show 8 + (n + 11) + 37 * dy ≤ 37 * d; omega⟩
  refine call_go (va_runS (As := As) (rest := st) (g := F0 m pc ls st0) ⟨hx, hb, hml, hown, hts⟩ hM ⟨hcb, hts _ w2⟩ ⟨FrameBlind_Wd g _ σ, fun U hU hW => ⟨rfl, by rw [hU]; exact hP, Fx_warm hW (fun a h1 h2 => by rw [hU]; exact hS.2.1 a h1 h2) hF, hD⟩⟩ rfl hnA hl.1 hst (lv_room hrest) hd ⟨Nat.zero_le _, Nat.zero_le _⟩) hS (fun v σ' H1 locs1 hp hP1 hS1 => kk v σ' hp ls H1 locs1 hl hP1 hS1)
theorem r_callSN (C : Cx g E cc nL own ret d) {host : String} (hM : Mt g y cy n ry dy As σ po) (hY : Ys y cy n ry nA) (hnA : As.length = nA) (w1 : ∀ U, Fn U → va_Nw (.methodLinkNest own i y host) U) (hR2 : dy + 1 ≤ d ∧ 19 + n + 37 * dy ≤ 37 * d) (hrest : (st.map fun v => v.category).sum ≤ 8) (hst : st0 = As.reverse ++ st) (hd : decode cc pc = .ok (.invokestatic i, 3))
    (kk : ∀ (v : Option Value) (σ' : Sg), po v σ' → J g E post nL (pc + 3) lv (v.toList ++ st) σ') : J g E post nL pc lv st0 σ := by
  obtain ⟨p, e, R, s, m, args, below, meth, c⟩ := E
  obtain ⟨hx, hb, hml, hown, hts, hr, hlk, hR, hF, hD⟩ := C
  intro ls H locs hl hP hS
  subst hR
  obtain ⟨hy, w4, w5, w2⟩ := hY
  have hcn : va_CN (rmD d) s args own i y host cy n ry (wsOf y cy n ry) (rmD dy) 0 0 nA := va_cnB nA hts (wsOf_good w5) rfl rfl rfl (w1 s hF.2.2.2.2.1) (hts _ w4) hy ⟨hR2.1, by show 8 + (n + 11) + 37 * dy ≤ 37 * d; omega⟩
  refine call_go (va_runSN (As := As) (rest := st) (g := F0 m pc ls st0) ⟨hx, hb, hml, hown, hts⟩ hM ⟨hcn, hts _ w2, trivial⟩ ⟨FrameBlind_Wd g _ σ, fun U hU hW => ⟨rfl, by rw [hU]; exact hP, Fx_warm hW (fun a h1 h2 => by rw [hU]; exact hS.2.1 a h1 h2) hF, hD⟩⟩ rfl hnA hl.1 hst (lv_room hrest) hd ⟨Nat.zero_le _, Nat.zero_le _⟩) hS (fun v σ' H1 locs1 hp hP1 hS1 => kk v σ' hp ls H1 locs1 hl hP1 hS1)
end CALLS2
end
