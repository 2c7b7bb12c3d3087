section
-- ===== PART A: goes FIRST, ahead of the names: the tables' words, and 'selects' of the private methods out of them =====
/-- a private method of a class that the tables say can be made, by its rows of tables_1 -/
def lw_okq (q : MethodName × Nat) : Prop := (q.1.cls ≠ "java/lang/invoke/MethodHandle" ∧ q.1.cls ≠ "java/lang/invoke/VarHandle") ∧ Cond.instantiable q.1.cls q.2 ∈ tables_1 ∧ Cond.privateMethod q.1 ∈ tables_1 ∧ Cond.instanceMethod q.1 ∈ tables_1
theorem lw_p0 : lw_okq (⟨"InsideOut", "finding", "(I)I"⟩, 9) := ⟨⟨by decide +kernel, by decide +kernel⟩, List.mem_of_getElem? (i := 19) (by decide +kernel), List.mem_of_getElem? (i := 252) (by decide +kernel), List.mem_of_getElem? (i := 253) (by decide +kernel)⟩
theorem lw_p1 : lw_okq (⟨"InsideOut", "isUmbrella", "(I)Z"⟩, 9) := ⟨⟨by decide +kernel, by decide +kernel⟩, List.mem_of_getElem? (i := 19) (by decide +kernel), List.mem_of_getElem? (i := 304) (by decide +kernel), List.mem_of_getElem? (i := 305) (by decide +kernel)⟩
theorem lw_p2 : lw_okq (⟨"InsideOut$Umbrella", "holdByHabit", "(IIZ)V"⟩, 8) := ⟨⟨by decide +kernel, by decide +kernel⟩, List.mem_of_getElem? (i := 79) (by decide +kernel), List.mem_of_getElem? (i := 361) (by decide +kernel), List.mem_of_getElem? (i := 362) (by decide +kernel)⟩
theorem lw_p3 : lw_okq (⟨"InsideOut$Umbrella", "turn", "(IZ)Z"⟩, 8) := ⟨⟨by decide +kernel, by decide +kernel⟩, List.mem_of_getElem? (i := 79) (by decide +kernel), List.mem_of_getElem? (i := 365) (by decide +kernel), List.mem_of_getElem? (i := 366) (by decide +kernel)⟩
theorem lw_p4 : lw_okq (⟨"InsideOut", "startWalk", "(I)V"⟩, 9) := ⟨⟨by decide +kernel, by decide +kernel⟩, List.mem_of_getElem? (i := 19) (by decide +kernel), List.mem_of_getElem? (i := 394) (by decide +kernel), List.mem_of_getElem? (i := 395) (by decide +kernel)⟩
theorem lw_p5 : lw_okq (⟨"InsideOut", "driest", "(III)I"⟩, 9) := ⟨⟨by decide +kernel, by decide +kernel⟩, List.mem_of_getElem? (i := 19) (by decide +kernel), List.mem_of_getElem? (i := 448) (by decide +kernel), List.mem_of_getElem? (i := 449) (by decide +kernel)⟩
theorem lw_p6 : lw_okq (⟨"InsideOut", "fitting", "(IIII)I"⟩, 9) := ⟨⟨by decide +kernel, by decide +kernel⟩, List.mem_of_getElem? (i := 19) (by decide +kernel), List.mem_of_getElem? (i := 490) (by decide +kernel), List.mem_of_getElem? (i := 491) (by decide +kernel)⟩
theorem lw_p7 : lw_okq (⟨"InsideOut$Reader", "readToken", "()V"⟩, 5) := ⟨⟨by decide +kernel, by decide +kernel⟩, List.mem_of_getElem? (i := 173) (by decide +kernel), List.mem_of_getElem? (i := 559) (by decide +kernel), List.mem_of_getElem? (i := 560) (by decide +kernel)⟩
theorem lw_p8 : lw_okq (⟨"InsideOut$Reader", "readItem", "(LInsideOut$World;)Z"⟩, 5) := ⟨⟨by decide +kernel, by decide +kernel⟩, List.mem_of_getElem? (i := 173) (by decide +kernel), List.mem_of_getElem? (i := 571) (by decide +kernel), List.mem_of_getElem? (i := 572) (by decide +kernel)⟩
theorem lw_p9 : lw_okq (⟨"InsideOut$Reader", "isWord", "(Ljava/lang/String;)Z"⟩, 5) := ⟨⟨by decide +kernel, by decide +kernel⟩, List.mem_of_getElem? (i := 173) (by decide +kernel), List.mem_of_getElem? (i := 585) (by decide +kernel), List.mem_of_getElem? (i := 586) (by decide +kernel)⟩
theorem lw_p10 : lw_okq (⟨"InsideOut$Reader", "readUmbrella", "(LInsideOut$World;I)Z"⟩, 5) := ⟨⟨by decide +kernel, by decide +kernel⟩, List.mem_of_getElem? (i := 173) (by decide +kernel), List.mem_of_getElem? (i := 637) (by decide +kernel), List.mem_of_getElem? (i := 638) (by decide +kernel)⟩
theorem lw_p11 : lw_okq (⟨"InsideOut$Reader", "readMark", "(LInsideOut$Umbrella;Ljava/lang/String;I)Z"⟩, 5) := ⟨⟨by decide +kernel, by decide +kernel⟩, List.mem_of_getElem? (i := 173) (by decide +kernel), List.mem_of_getElem? (i := 644) (by decide +kernel), List.mem_of_getElem? (i := 645) (by decide +kernel)⟩
theorem lw_p12 : lw_okq (⟨"InsideOut$Reader", "nextNumber", "(I)I"⟩, 5) := ⟨⟨by decide +kernel, by decide +kernel⟩, List.mem_of_getElem? (i := 173) (by decide +kernel), List.mem_of_getElem? (i := 649) (by decide +kernel), List.mem_of_getElem? (i := 650) (by decide +kernel)⟩
theorem lw_p13 : lw_okq (⟨"InsideOut$Reader", "readWind", "(LInsideOut$Street;I)Z"⟩, 5) := ⟨⟨by decide +kernel, by decide +kernel⟩, List.mem_of_getElem? (i := 173) (by decide +kernel), List.mem_of_getElem? (i := 663) (by decide +kernel), List.mem_of_getElem? (i := 664) (by decide +kernel)⟩
theorem lw_p14 : lw_okq (⟨"InsideOut$Reader", "readRoof", "(LInsideOut$Street;I)Z"⟩, 5) := ⟨⟨by decide +kernel, by decide +kernel⟩, List.mem_of_getElem? (i := 173) (by decide +kernel), List.mem_of_getElem? (i := 669) (by decide +kernel), List.mem_of_getElem? (i := 670) (by decide +kernel)⟩
theorem lw_p15 : lw_okq (⟨"InsideOut$Reader", "readWeather", "(LInsideOut$Street;Z)Z"⟩, 5) := ⟨⟨by decide +kernel, by decide +kernel⟩, List.mem_of_getElem? (i := 173) (by decide +kernel), List.mem_of_getElem? (i := 675) (by decide +kernel), List.mem_of_getElem? (i := 676) (by decide +kernel)⟩
def lw_privs_1 : List (MethodName × Nat) := [(⟨"InsideOut", "finding", "(I)I"⟩, 9), (⟨"InsideOut", "isUmbrella", "(I)Z"⟩, 9), (⟨"InsideOut$Umbrella", "holdByHabit", "(IIZ)V"⟩, 8), (⟨"InsideOut$Umbrella", "turn", "(IZ)Z"⟩, 8), (⟨"InsideOut", "startWalk", "(I)V"⟩, 9), (⟨"InsideOut", "driest", "(III)I"⟩, 9), (⟨"InsideOut", "fitting", "(IIII)I"⟩, 9), (⟨"InsideOut$Reader", "readToken", "()V"⟩, 5), (⟨"InsideOut$Reader", "readItem", "(LInsideOut$World;)Z"⟩, 5), (⟨"InsideOut$Reader", "isWord", "(Ljava/lang/String;)Z"⟩, 5), (⟨"InsideOut$Reader", "readUmbrella", "(LInsideOut$World;I)Z"⟩, 5), (⟨"InsideOut$Reader", "readMark", "(LInsideOut$Umbrella;Ljava/lang/String;I)Z"⟩, 5), (⟨"InsideOut$Reader", "nextNumber", "(I)I"⟩, 5), (⟨"InsideOut$Reader", "readWind", "(LInsideOut$Street;I)Z"⟩, 5), (⟨"InsideOut$Reader", "readRoof", "(LInsideOut$Street;I)Z"⟩, 5), (⟨"InsideOut$Reader", "readWeather", "(LInsideOut$Street;Z)Z"⟩, 5)]
theorem lw_r1 : ∀ q ∈ lw_privs_1, lw_okq q := List.forall_mem_cons.mpr ⟨lw_p0, List.forall_mem_cons.mpr ⟨lw_p1, List.forall_mem_cons.mpr ⟨lw_p2, List.forall_mem_cons.mpr ⟨lw_p3, List.forall_mem_cons.mpr ⟨lw_p4, List.forall_mem_cons.mpr ⟨lw_p5, List.forall_mem_cons.mpr ⟨lw_p6, List.forall_mem_cons.mpr ⟨lw_p7, List.forall_mem_cons.mpr ⟨lw_p8, List.forall_mem_cons.mpr ⟨lw_p9, List.forall_mem_cons.mpr ⟨lw_p10, List.forall_mem_cons.mpr ⟨lw_p11, List.forall_mem_cons.mpr ⟨lw_p12, List.forall_mem_cons.mpr ⟨lw_p13, List.forall_mem_cons.mpr ⟨lw_p14, List.forall_mem_cons.mpr ⟨lw_p15, fun _ h => absurd h List.not_mem_nil⟩⟩⟩⟩⟩⟩⟩⟩⟩⟩⟩⟩⟩⟩⟩⟩
theorem lw_p16 : lw_okq (⟨"InsideOutModel", "finds", "(I)I"⟩, 21) := ⟨⟨by decide +kernel, by decide +kernel⟩, List.mem_of_getElem? (i := 755) (by decide +kernel), List.mem_of_getElem? (i := 838) (by decide +kernel), List.mem_of_getElem? (i := 839) (by decide +kernel)⟩
theorem lw_p17 : lw_okq (⟨"InsideOutModel", "becomes", "(II)I"⟩, 21) := ⟨⟨by decide +kernel, by decide +kernel⟩, List.mem_of_getElem? (i := 755) (by decide +kernel), List.mem_of_getElem? (i := 842) (by decide +kernel), List.mem_of_getElem? (i := 843) (by decide +kernel)⟩
theorem lw_p18 : lw_okq (⟨"InsideOutModel", "wind", "(I)I"⟩, 21) := ⟨⟨by decide +kernel, by decide +kernel⟩, List.mem_of_getElem? (i := 755) (by decide +kernel), List.mem_of_getElem? (i := 851) (by decide +kernel), List.mem_of_getElem? (i := 852) (by decide +kernel)⟩
theorem lw_p19 : lw_okq (⟨"InsideOutModel", "there", "(I)I"⟩, 21) := ⟨⟨by decide +kernel, by decide +kernel⟩, List.mem_of_getElem? (i := 755) (by decide +kernel), List.mem_of_getElem? (i := 855) (by decide +kernel), List.mem_of_getElem? (i := 856) (by decide +kernel)⟩
theorem lw_p20 : lw_okq (⟨"InsideOutModel", "its", "(II)I"⟩, 21) := ⟨⟨by decide +kernel, by decide +kernel⟩, List.mem_of_getElem? (i := 755) (by decide +kernel), List.mem_of_getElem? (i := 859) (by decide +kernel), List.mem_of_getElem? (i := 860) (by decide +kernel)⟩
theorem lw_p21 : lw_okq (⟨"InsideOutModel", "comes", "(I)V"⟩, 21) := ⟨⟨by decide +kernel, by decide +kernel⟩, List.mem_of_getElem? (i := 755) (by decide +kernel), List.mem_of_getElem? (i := 873) (by decide +kernel), List.mem_of_getElem? (i := 874) (by decide +kernel)⟩
theorem lw_p22 : lw_okq (⟨"InsideOutModel", "isUmbrella", "(I)Z"⟩, 21) := ⟨⟨by decide +kernel, by decide +kernel⟩, List.mem_of_getElem? (i := 755) (by decide +kernel), List.mem_of_getElem? (i := 884) (by decide +kernel), List.mem_of_getElem? (i := 885) (by decide +kernel)⟩
theorem lw_p23 : lw_okq (⟨"InsideOutModel", "stiff", "(I)I"⟩, 21) := ⟨⟨by decide +kernel, by decide +kernel⟩, List.mem_of_getElem? (i := 755) (by decide +kernel), List.mem_of_getElem? (i := 889) (by decide +kernel), List.mem_of_getElem? (i := 890) (by decide +kernel)⟩
theorem lw_p24 : lw_okq (⟨"InsideOutModel", "covers", "(I)I"⟩, 21) := ⟨⟨by decide +kernel, by decide +kernel⟩, List.mem_of_getElem? (i := 755) (by decide +kernel), List.mem_of_getElem? (i := 896) (by decide +kernel), List.mem_of_getElem? (i := 897) (by decide +kernel)⟩
theorem lw_p25 : lw_okq (⟨"InsideOutModel", "pace", "(I)I"⟩, 21) := ⟨⟨by decide +kernel, by decide +kernel⟩, List.mem_of_getElem? (i := 755) (by decide +kernel), List.mem_of_getElem? (i := 903) (by decide +kernel), List.mem_of_getElem? (i := 904) (by decide +kernel)⟩
theorem lw_p26 : lw_okq (⟨"InsideOutModel", "bearsOn", "(III)I"⟩, 21) := ⟨⟨by decide +kernel, by decide +kernel⟩, List.mem_of_getElem? (i := 755) (by decide +kernel), List.mem_of_getElem? (i := 920) (by decide +kernel), List.mem_of_getElem? (i := 921) (by decide +kernel)⟩
theorem lw_p27 : lw_okq (⟨"InsideOutModel", "tick", "()I"⟩, 21) := ⟨⟨by decide +kernel, by decide +kernel⟩, List.mem_of_getElem? (i := 755) (by decide +kernel), List.mem_of_getElem? (i := 930) (by decide +kernel), List.mem_of_getElem? (i := 931) (by decide +kernel)⟩
theorem lw_p28 : lw_okq (⟨"InsideOutModel", "isHome", "(I)Z"⟩, 21) := ⟨⟨by decide +kernel, by decide +kernel⟩, List.mem_of_getElem? (i := 755) (by decide +kernel), List.mem_of_getElem? (i := 934) (by decide +kernel), List.mem_of_getElem? (i := 935) (by decide +kernel)⟩
theorem lw_p29 : lw_okq (⟨"InsideOutModel", "goesOn", "(I)Z"⟩, 21) := ⟨⟨by decide +kernel, by decide +kernel⟩, List.mem_of_getElem? (i := 755) (by decide +kernel), List.mem_of_getElem? (i := 938) (by decide +kernel), List.mem_of_getElem? (i := 939) (by decide +kernel)⟩
theorem lw_p30 : lw_okq (⟨"InsideOutModel", "heldBy", "(I)I"⟩, 21) := ⟨⟨by decide +kernel, by decide +kernel⟩, List.mem_of_getElem? (i := 755) (by decide +kernel), List.mem_of_getElem? (i := 942) (by decide +kernel), List.mem_of_getElem? (i := 943) (by decide +kernel)⟩
theorem lw_p31 : lw_okq (⟨"InsideOutModel", "homes", "()I"⟩, 21) := ⟨⟨by decide +kernel, by decide +kernel⟩, List.mem_of_getElem? (i := 755) (by decide +kernel), List.mem_of_getElem? (i := 946) (by decide +kernel), List.mem_of_getElem? (i := 947) (by decide +kernel)⟩
def lw_privs_2 : List (MethodName × Nat) := [(⟨"InsideOutModel", "finds", "(I)I"⟩, 21), (⟨"InsideOutModel", "becomes", "(II)I"⟩, 21), (⟨"InsideOutModel", "wind", "(I)I"⟩, 21), (⟨"InsideOutModel", "there", "(I)I"⟩, 21), (⟨"InsideOutModel", "its", "(II)I"⟩, 21), (⟨"InsideOutModel", "comes", "(I)V"⟩, 21), (⟨"InsideOutModel", "isUmbrella", "(I)Z"⟩, 21), (⟨"InsideOutModel", "stiff", "(I)I"⟩, 21), (⟨"InsideOutModel", "covers", "(I)I"⟩, 21), (⟨"InsideOutModel", "pace", "(I)I"⟩, 21), (⟨"InsideOutModel", "bearsOn", "(III)I"⟩, 21), (⟨"InsideOutModel", "tick", "()I"⟩, 21), (⟨"InsideOutModel", "isHome", "(I)Z"⟩, 21), (⟨"InsideOutModel", "goesOn", "(I)Z"⟩, 21), (⟨"InsideOutModel", "heldBy", "(I)I"⟩, 21), (⟨"InsideOutModel", "homes", "()I"⟩, 21)]
theorem lw_r2 : ∀ q ∈ lw_privs_2, lw_okq q := List.forall_mem_cons.mpr ⟨lw_p16, List.forall_mem_cons.mpr ⟨lw_p17, List.forall_mem_cons.mpr ⟨lw_p18, List.forall_mem_cons.mpr ⟨lw_p19, List.forall_mem_cons.mpr ⟨lw_p20, List.forall_mem_cons.mpr ⟨lw_p21, List.forall_mem_cons.mpr ⟨lw_p22, List.forall_mem_cons.mpr ⟨lw_p23, List.forall_mem_cons.mpr ⟨lw_p24, List.forall_mem_cons.mpr ⟨lw_p25, List.forall_mem_cons.mpr ⟨lw_p26, List.forall_mem_cons.mpr ⟨lw_p27, List.forall_mem_cons.mpr ⟨lw_p28, List.forall_mem_cons.mpr ⟨lw_p29, List.forall_mem_cons.mpr ⟨lw_p30, List.forall_mem_cons.mpr ⟨lw_p31, fun _ h => absurd h List.not_mem_nil⟩⟩⟩⟩⟩⟩⟩⟩⟩⟩⟩⟩⟩⟩⟩⟩
theorem lw_p32 : lw_okq (⟨"InsideOutModel", "sumOf", "(I)I"⟩, 21) := ⟨⟨by decide +kernel, by decide +kernel⟩, List.mem_of_getElem? (i := 755) (by decide +kernel), List.mem_of_getElem? (i := 954) (by decide +kernel), List.mem_of_getElem? (i := 955) (by decide +kernel)⟩
theorem lw_p33 : lw_okq (⟨"InsideOutModel", "outs", "()I"⟩, 21) := ⟨⟨by decide +kernel, by decide +kernel⟩, List.mem_of_getElem? (i := 755) (by decide +kernel), List.mem_of_getElem? (i := 958) (by decide +kernel), List.mem_of_getElem? (i := 959) (by decide +kernel)⟩
theorem lw_p34 : lw_okq (⟨"InsideOutModel", "roofs", "()I"⟩, 21) := ⟨⟨by decide +kernel, by decide +kernel⟩, List.mem_of_getElem? (i := 755) (by decide +kernel), List.mem_of_getElem? (i := 962) (by decide +kernel), List.mem_of_getElem? (i := 963) (by decide +kernel)⟩
theorem lw_p35 : lw_okq (⟨"InsideOutModel", "goesAlone", "(I)V"⟩, 21) := ⟨⟨by decide +kernel, by decide +kernel⟩, List.mem_of_getElem? (i := 755) (by decide +kernel), List.mem_of_getElem? (i := 974) (by decide +kernel), List.mem_of_getElem? (i := 975) (by decide +kernel)⟩
theorem lw_p36 : lw_okq (⟨"InsideOutModel", "follows", "(I)I"⟩, 21) := ⟨⟨by decide +kernel, by decide +kernel⟩, List.mem_of_getElem? (i := 755) (by decide +kernel), List.mem_of_getElem? (i := 982) (by decide +kernel), List.mem_of_getElem? (i := 983) (by decide +kernel)⟩
theorem lw_p37 : lw_okq (⟨"InsideOutModel", "orNone", "(I)I"⟩, 21) := ⟨⟨by decide +kernel, by decide +kernel⟩, List.mem_of_getElem? (i := 755) (by decide +kernel), List.mem_of_getElem? (i := 986) (by decide +kernel), List.mem_of_getElem? (i := 987) (by decide +kernel)⟩
theorem lw_p38 : lw_okq (⟨"InsideOutModel", "bestOf", "(III)I"⟩, 21) := ⟨⟨by decide +kernel, by decide +kernel⟩, List.mem_of_getElem? (i := 755) (by decide +kernel), List.mem_of_getElem? (i := 1007) (by decide +kernel), List.mem_of_getElem? (i := 1008) (by decide +kernel)⟩
theorem lw_p39 : lw_okq (⟨"InsideOutModel", "begins", "()V"⟩, 21) := ⟨⟨by decide +kernel, by decide +kernel⟩, List.mem_of_getElem? (i := 755) (by decide +kernel), List.mem_of_getElem? (i := 1011) (by decide +kernel), List.mem_of_getElem? (i := 1012) (by decide +kernel)⟩
theorem lw_p40 : lw_okq (⟨"InsideOutModel", "looksAt", "(II)V"⟩, 21) := ⟨⟨by decide +kernel, by decide +kernel⟩, List.mem_of_getElem? (i := 755) (by decide +kernel), List.mem_of_getElem? (i := 1016) (by decide +kernel), List.mem_of_getElem? (i := 1017) (by decide +kernel)⟩
theorem lw_p41 : lw_okq (⟨"InsideOutModel", "isWhole", "(I)Z"⟩, 21) := ⟨⟨by decide +kernel, by decide +kernel⟩, List.mem_of_getElem? (i := 755) (by decide +kernel), List.mem_of_getElem? (i := 1040) (by decide +kernel), List.mem_of_getElem? (i := 1041) (by decide +kernel)⟩
theorem lw_p42 : lw_okq (⟨"InsideOutModel", "wantsFor", "(II)I"⟩, 21) := ⟨⟨by decide +kernel, by decide +kernel⟩, List.mem_of_getElem? (i := 755) (by decide +kernel), List.mem_of_getElem? (i := 1052) (by decide +kernel), List.mem_of_getElem? (i := 1053) (by decide +kernel)⟩
theorem lw_p43 : lw_okq (⟨"InsideOutModel", "wants", "(I)I"⟩, 21) := ⟨⟨by decide +kernel, by decide +kernel⟩, List.mem_of_getElem? (i := 755) (by decide +kernel), List.mem_of_getElem? (i := 1056) (by decide +kernel), List.mem_of_getElem? (i := 1057) (by decide +kernel)⟩
theorem lw_p44 : lw_okq (⟨"InsideOutModel", "couldBe", "(III)I"⟩, 21) := ⟨⟨by decide +kernel, by decide +kernel⟩, List.mem_of_getElem? (i := 755) (by decide +kernel), List.mem_of_getElem? (i := 1064) (by decide +kernel), List.mem_of_getElem? (i := 1065) (by decide +kernel)⟩
theorem lw_p45 : lw_okq (⟨"InsideOutModel", "isTold", "(II)Z"⟩, 21) := ⟨⟨by decide +kernel, by decide +kernel⟩, List.mem_of_getElem? (i := 755) (by decide +kernel), List.mem_of_getElem? (i := 1068) (by decide +kernel), List.mem_of_getElem? (i := 1069) (by decide +kernel)⟩
theorem lw_p46 : lw_okq (⟨"InsideOutModel", "draw", "()I"⟩, 21) := ⟨⟨by decide +kernel, by decide +kernel⟩, List.mem_of_getElem? (i := 755) (by decide +kernel), List.mem_of_getElem? (i := 1081) (by decide +kernel), List.mem_of_getElem? (i := 1082) (by decide +kernel)⟩
theorem lw_p47 : lw_okq (⟨"InsideOutModel", "nextToken", "()V"⟩, 21) := ⟨⟨by decide +kernel, by decide +kernel⟩, List.mem_of_getElem? (i := 755) (by decide +kernel), List.mem_of_getElem? (i := 1111) (by decide +kernel), List.mem_of_getElem? (i := 1112) (by decide +kernel)⟩
def lw_privs_3 : List (MethodName × Nat) := [(⟨"InsideOutModel", "sumOf", "(I)I"⟩, 21), (⟨"InsideOutModel", "outs", "()I"⟩, 21), (⟨"InsideOutModel", "roofs", "()I"⟩, 21), (⟨"InsideOutModel", "goesAlone", "(I)V"⟩, 21), (⟨"InsideOutModel", "follows", "(I)I"⟩, 21), (⟨"InsideOutModel", "orNone", "(I)I"⟩, 21), (⟨"InsideOutModel", "bestOf", "(III)I"⟩, 21), (⟨"InsideOutModel", "begins", "()V"⟩, 21), (⟨"InsideOutModel", "looksAt", "(II)V"⟩, 21), (⟨"InsideOutModel", "isWhole", "(I)Z"⟩, 21), (⟨"InsideOutModel", "wantsFor", "(II)I"⟩, 21), (⟨"InsideOutModel", "wants", "(I)I"⟩, 21), (⟨"InsideOutModel", "couldBe", "(III)I"⟩, 21), (⟨"InsideOutModel", "isTold", "(II)Z"⟩, 21), (⟨"InsideOutModel", "draw", "()I"⟩, 21), (⟨"InsideOutModel", "nextToken", "()V"⟩, 21)]
theorem lw_r3 : ∀ q ∈ lw_privs_3, lw_okq q := List.forall_mem_cons.mpr ⟨lw_p32, List.forall_mem_cons.mpr ⟨lw_p33, List.forall_mem_cons.mpr ⟨lw_p34, List.forall_mem_cons.mpr ⟨lw_p35, List.forall_mem_cons.mpr ⟨lw_p36, List.forall_mem_cons.mpr ⟨lw_p37, List.forall_mem_cons.mpr ⟨lw_p38, List.forall_mem_cons.mpr ⟨lw_p39, List.forall_mem_cons.mpr ⟨lw_p40, List.forall_mem_cons.mpr ⟨lw_p41, List.forall_mem_cons.mpr ⟨lw_p42, List.forall_mem_cons.mpr ⟨lw_p43, List.forall_mem_cons.mpr ⟨lw_p44, List.forall_mem_cons.mpr ⟨lw_p45, List.forall_mem_cons.mpr ⟨lw_p46, List.forall_mem_cons.mpr ⟨lw_p47, fun _ h => absurd h List.not_mem_nil⟩⟩⟩⟩⟩⟩⟩⟩⟩⟩⟩⟩⟩⟩⟩⟩
theorem lw_p48 : lw_okq (⟨"InsideOutModel", "byteAt", "(I)I"⟩, 21) := ⟨⟨by decide +kernel, by decide +kernel⟩, List.mem_of_getElem? (i := 755) (by decide +kernel), List.mem_of_getElem? (i := 1115) (by decide +kernel), List.mem_of_getElem? (i := 1116) (by decide +kernel)⟩
theorem lw_p49 : lw_okq (⟨"InsideOutModel", "kindHere", "()I"⟩, 21) := ⟨⟨by decide +kernel, by decide +kernel⟩, List.mem_of_getElem? (i := 755) (by decide +kernel), List.mem_of_getElem? (i := 1125) (by decide +kernel), List.mem_of_getElem? (i := 1126) (by decide +kernel)⟩
theorem lw_p50 : lw_okq (⟨"InsideOutModel", "isWord", "(I)Z"⟩, 21) := ⟨⟨by decide +kernel, by decide +kernel⟩, List.mem_of_getElem? (i := 755) (by decide +kernel), List.mem_of_getElem? (i := 1129) (by decide +kernel), List.mem_of_getElem? (i := 1130) (by decide +kernel)⟩
theorem lw_p51 : lw_okq (⟨"InsideOutModel", "has3", "(IIII)Z"⟩, 21) := ⟨⟨by decide +kernel, by decide +kernel⟩, List.mem_of_getElem? (i := 755) (by decide +kernel), List.mem_of_getElem? (i := 1133) (by decide +kernel), List.mem_of_getElem? (i := 1134) (by decide +kernel)⟩
theorem lw_p52 : lw_okq (⟨"InsideOutModel", "isFive", "(IIIII)Z"⟩, 21) := ⟨⟨by decide +kernel, by decide +kernel⟩, List.mem_of_getElem? (i := 755) (by decide +kernel), List.mem_of_getElem? (i := 1137) (by decide +kernel), List.mem_of_getElem? (i := 1138) (by decide +kernel)⟩
theorem lw_p53 : lw_okq (⟨"InsideOutModel", "isFour", "(IIII)Z"⟩, 21) := ⟨⟨by decide +kernel, by decide +kernel⟩, List.mem_of_getElem? (i := 755) (by decide +kernel), List.mem_of_getElem? (i := 1141) (by decide +kernel), List.mem_of_getElem? (i := 1142) (by decide +kernel)⟩
theorem lw_p54 : lw_okq (⟨"InsideOutModel", "isSix", "(IIIIII)Z"⟩, 21) := ⟨⟨by decide +kernel, by decide +kernel⟩, List.mem_of_getElem? (i := 755) (by decide +kernel), List.mem_of_getElem? (i := 1145) (by decide +kernel), List.mem_of_getElem? (i := 1146) (by decide +kernel)⟩
theorem lw_p55 : lw_okq (⟨"InsideOutModel", "umbrellaHere", "(I)Z"⟩, 21) := ⟨⟨by decide +kernel, by decide +kernel⟩, List.mem_of_getElem? (i := 755) (by decide +kernel), List.mem_of_getElem? (i := 1149) (by decide +kernel), List.mem_of_getElem? (i := 1150) (by decide +kernel)⟩
theorem lw_p56 : lw_okq (⟨"InsideOutModel", "fails", "()Z"⟩, 21) := ⟨⟨by decide +kernel, by decide +kernel⟩, List.mem_of_getElem? (i := 755) (by decide +kernel), List.mem_of_getElem? (i := 1153) (by decide +kernel), List.mem_of_getElem? (i := 1154) (by decide +kernel)⟩
theorem lw_p57 : lw_okq (⟨"InsideOutModel", "isTwo", "(II)Z"⟩, 21) := ⟨⟨by decide +kernel, by decide +kernel⟩, List.mem_of_getElem? (i := 755) (by decide +kernel), List.mem_of_getElem? (i := 1157) (by decide +kernel), List.mem_of_getElem? (i := 1158) (by decide +kernel)⟩
theorem lw_p58 : lw_okq (⟨"InsideOutModel", "perhaps", "(ZI)Z"⟩, 21) := ⟨⟨by decide +kernel, by decide +kernel⟩, List.mem_of_getElem? (i := 755) (by decide +kernel), List.mem_of_getElem? (i := 1161) (by decide +kernel), List.mem_of_getElem? (i := 1162) (by decide +kernel)⟩
theorem lw_p59 : lw_okq (⟨"InsideOutModel", "isNumber", "(II)Z"⟩, 21) := ⟨⟨by decide +kernel, by decide +kernel⟩, List.mem_of_getElem? (i := 755) (by decide +kernel), List.mem_of_getElem? (i := 1165) (by decide +kernel), List.mem_of_getElem? (i := 1166) (by decide +kernel)⟩
theorem lw_p60 : lw_okq (⟨"InsideOutModel", "streetHere", "()Z"⟩, 21) := ⟨⟨by decide +kernel, by decide +kernel⟩, List.mem_of_getElem? (i := 755) (by decide +kernel), List.mem_of_getElem? (i := 1169) (by decide +kernel), List.mem_of_getElem? (i := 1170) (by decide +kernel)⟩
theorem lw_p61 : lw_okq (⟨"InsideOutModel", "stepHere", "(I)Z"⟩, 21) := ⟨⟨by decide +kernel, by decide +kernel⟩, List.mem_of_getElem? (i := 755) (by decide +kernel), List.mem_of_getElem? (i := 1173) (by decide +kernel), List.mem_of_getElem? (i := 1174) (by decide +kernel)⟩
theorem lw_p62 : lw_okq (⟨"InsideOutModel", "roofHere", "(I)Z"⟩, 21) := ⟨⟨by decide +kernel, by decide +kernel⟩, List.mem_of_getElem? (i := 755) (by decide +kernel), List.mem_of_getElem? (i := 1177) (by decide +kernel), List.mem_of_getElem? (i := 1178) (by decide +kernel)⟩
theorem lw_p63 : lw_okq (⟨"InsideOutModel", "weatherHere", "(I)Z"⟩, 21) := ⟨⟨by decide +kernel, by decide +kernel⟩, List.mem_of_getElem? (i := 755) (by decide +kernel), List.mem_of_getElem? (i := 1181) (by decide +kernel), List.mem_of_getElem? (i := 1182) (by decide +kernel)⟩
def lw_privs_4 : List (MethodName × Nat) := [(⟨"InsideOutModel", "byteAt", "(I)I"⟩, 21), (⟨"InsideOutModel", "kindHere", "()I"⟩, 21), (⟨"InsideOutModel", "isWord", "(I)Z"⟩, 21), (⟨"InsideOutModel", "has3", "(IIII)Z"⟩, 21), (⟨"InsideOutModel", "isFive", "(IIIII)Z"⟩, 21), (⟨"InsideOutModel", "isFour", "(IIII)Z"⟩, 21), (⟨"InsideOutModel", "isSix", "(IIIIII)Z"⟩, 21), (⟨"InsideOutModel", "umbrellaHere", "(I)Z"⟩, 21), (⟨"InsideOutModel", "fails", "()Z"⟩, 21), (⟨"InsideOutModel", "isTwo", "(II)Z"⟩, 21), (⟨"InsideOutModel", "perhaps", "(ZI)Z"⟩, 21), (⟨"InsideOutModel", "isNumber", "(II)Z"⟩, 21), (⟨"InsideOutModel", "streetHere", "()Z"⟩, 21), (⟨"InsideOutModel", "stepHere", "(I)Z"⟩, 21), (⟨"InsideOutModel", "roofHere", "(I)Z"⟩, 21), (⟨"InsideOutModel", "weatherHere", "(I)Z"⟩, 21)]
theorem lw_r4 : ∀ q ∈ lw_privs_4, lw_okq q := List.forall_mem_cons.mpr ⟨lw_p48, List.forall_mem_cons.mpr ⟨lw_p49, List.forall_mem_cons.mpr ⟨lw_p50, List.forall_mem_cons.mpr ⟨lw_p51, List.forall_mem_cons.mpr ⟨lw_p52, List.forall_mem_cons.mpr ⟨lw_p53, List.forall_mem_cons.mpr ⟨lw_p54, List.forall_mem_cons.mpr ⟨lw_p55, List.forall_mem_cons.mpr ⟨lw_p56, List.forall_mem_cons.mpr ⟨lw_p57, List.forall_mem_cons.mpr ⟨lw_p58, List.forall_mem_cons.mpr ⟨lw_p59, List.forall_mem_cons.mpr ⟨lw_p60, List.forall_mem_cons.mpr ⟨lw_p61, List.forall_mem_cons.mpr ⟨lw_p62, List.forall_mem_cons.mpr ⟨lw_p63, fun _ h => absurd h List.not_mem_nil⟩⟩⟩⟩⟩⟩⟩⟩⟩⟩⟩⟩⟩⟩⟩⟩
def lw_privs : List (MethodName × Nat) := lw_privs_1 ++ (lw_privs_2 ++ (lw_privs_3 ++ (lw_privs_4)))
def lw_tbl : List Cond := k2_sels lw_privs ++ tables_1
theorem lw_privs_ok : ∀ q ∈ lw_privs, lw_okq q := by
  show ∀ q ∈ lw_privs_1 ++ (lw_privs_2 ++ (lw_privs_3 ++ (lw_privs_4))), lw_okq q
  exact List.forall_mem_append.mpr ⟨lw_r1, List.forall_mem_append.mpr ⟨lw_r2, List.forall_mem_append.mpr ⟨lw_r3, lw_r4⟩⟩⟩
def RX0 : String := "InsideOut$Reader"
def TX0 : u_T := fun k => match k with
  | 0 => ("InsideOut$Reader", "tape", "LInsideOut$Tape;", true)
  | 1 => ("InsideOut$Reader", "place", "I", false)
  | 2 => ("InsideOut$Reader", "behind", "I", false)
  | 3 => ("InsideOut$Reader", "token", "I", false)
  | _ => ("InsideOut$Reader", "number", "I", false)
def tyX0 : Nat → FieldType := fun k => match k with
  | 0 => .object "InsideOut$Tape"
  | 1 => .int
  | 2 => .int
  | 3 => .int
  | _ => .int
theorem nmX0 : ∀ a, a < 5 → ∀ b, b < 5 → a ≠ b → (TX0 a).2.1 ≠ (TX0 b).2.1 := by decide +kernel
theorem tyX0_ok : ∀ k, k < 5 → parseFieldDescriptor (TX0 k).2.2.1 = some (tyX0 k) := by decide +kernel
def RX1 : String := "InsideOut$Sheet"
def TX1 : u_T := fun k => match k with
  | 0 => ("InsideOut$Sheet", "numbers", "[I", true)
  | 1 => ("InsideOut$Sheet", "bits", "I", false)
  | _ => ("InsideOut$Sheet", "size", "I", false)
def tyX1 : Nat → FieldType := fun k => match k with
  | 0 => .array .int
  | 1 => .int
  | _ => .int
theorem nmX1 : ∀ a, a < 3 → ∀ b, b < 3 → a ≠ b → (TX1 a).2.1 ≠ (TX1 b).2.1 := by decide +kernel
theorem tyX1_ok : ∀ k, k < 3 → parseFieldDescriptor (TX1 k).2.2.1 = some (tyX1 k) := by decide +kernel
def RX2 : String := "InsideOut$Street"
def TX2 : u_T := fun k => match k with
  | 0 => ("InsideOut$Street", "from", "[I", true)
  | 1 => ("InsideOut$Street", "strength", "[I", true)
  | 2 => ("InsideOut$Street", "roof", "[I", true)
  | 3 => ("InsideOut$Street", "rain", "I", false)
  | 4 => ("InsideOut$Street", "gust", "I", false)
  | _ => ("InsideOut$Street", "tick", "I", false)
def tyX2 : Nat → FieldType := fun k => match k with
  | 0 => .array .int
  | 1 => .array .int
  | 2 => .array .int
  | 3 => .int
  | 4 => .int
  | _ => .int
theorem nmX2 : ∀ a, a < 6 → ∀ b, b < 6 → a ≠ b → (TX2 a).2.1 ≠ (TX2 b).2.1 := by decide +kernel
theorem tyX2_ok : ∀ k, k < 6 → parseFieldDescriptor (TX2 k).2.2.1 = some (tyX2 k) := by decide +kernel
def RX3 : String := "InsideOut$Tape"
def TX3 : u_T := fun k => match k with
  | 0 => ("InsideOut$Tape", "bytes", "[I", true)
  | _ => ("InsideOut$Tape", "length", "I", false)
def tyX3 : Nat → FieldType := fun k => match k with
  | 0 => .array .int
  | _ => .int
theorem nmX3 : ∀ a, a < 2 → ∀ b, b < 2 → a ≠ b → (TX3 a).2.1 ≠ (TX3 b).2.1 := by decide +kernel
theorem tyX3_ok : ∀ k, k < 2 → parseFieldDescriptor (TX3 k).2.2.1 = some (tyX3 k) := by decide +kernel
def RX4 : String := "InsideOut$Umbrella"
def TX4 : u_T := fun k => match k with
  | 0 => ("InsideOut$Umbrella", "kind", "I", false)
  | 1 => ("InsideOut$Umbrella", "at", "I", false)
  | 2 => ("InsideOut$Umbrella", "held", "I", false)
  | 3 => ("InsideOut$Umbrella", "habit", "I", false)
  | 4 => ("InsideOut$Umbrella", "ribs", "I", false)
  | 5 => ("InsideOut$Umbrella", "out", "I", false)
  | 6 => ("InsideOut$Umbrella", "turned", "I", false)
  | _ => ("InsideOut$Umbrella", "wet", "I", false)
def tyX4 : Nat → FieldType := fun k => match k with
  | 0 => .int
  | 1 => .int
  | 2 => .int
  | 3 => .int
  | 4 => .int
  | 5 => .int
  | 6 => .int
  | _ => .int
theorem nmX4 : ∀ a, a < 8 → ∀ b, b < 8 → a ≠ b → (TX4 a).2.1 ≠ (TX4 b).2.1 := by decide +kernel
theorem tyX4_ok : ∀ k, k < 8 → parseFieldDescriptor (TX4 k).2.2.1 = some (tyX4 k) := by decide +kernel
def RX5 : String := "InsideOut$Walk"
def TX5 : u_T := fun k => match k with
  | 0 => ("InsideOut$Walk", "street", "LInsideOut$Street;", true)
  | _ => ("InsideOut$Walk", "walker", "LInsideOut$Umbrella;", true)
def tyX5 : Nat → FieldType := fun k => match k with
  | 0 => .object "InsideOut$Street"
  | _ => .object "InsideOut$Umbrella"
theorem nmX5 : ∀ a, a < 2 → ∀ b, b < 2 → a ≠ b → (TX5 a).2.1 ≠ (TX5 b).2.1 := by decide +kernel
theorem tyX5_ok : ∀ k, k < 2 → parseFieldDescriptor (TX5 k).2.2.1 = some (tyX5 k) := by decide +kernel
def RX6 : String := "InsideOut$World"
def TX6 : u_T := fun k => match k with
  | 0 => ("InsideOut$World", "street", "LInsideOut$Street;", true)
  | 1 => ("InsideOut$World", "umbrellas", "[LInsideOut$Umbrella;", true)
  | 2 => ("InsideOut$World", "size", "I", false)
  | 3 => ("InsideOut$World", "spots", "[I", true)
  | _ => ("InsideOut$World", "z", "I", false)
def tyX6 : Nat → FieldType := fun k => match k with
  | 0 => .object "InsideOut$Street"
  | 1 => .array (.object "InsideOut$Umbrella")
  | 2 => .int
  | 3 => .array .int
  | _ => .int
theorem nmX6 : ∀ a, a < 5 → ∀ b, b < 5 → a ≠ b → (TX6 a).2.1 ≠ (TX6 b).2.1 := by decide +kernel
theorem tyX6_ok : ∀ k, k < 5 → parseFieldDescriptor (TX6 k).2.2.1 = some (tyX6 k) := by decide +kernel
def RX7 : String := "InsideOut"
def TX7 : u_T := fun k => match k with
  | 0 => ("InsideOut", "world", "LInsideOut$World;", true)
  | 1 => ("InsideOut", "kept", "LInsideOut$World;", true)
  | 2 => ("InsideOut", "draft", "LInsideOut$World;", true)
  | 3 => ("InsideOut", "somethingKept", "Z", false)
  | 4 => ("InsideOut", "walk", "LInsideOut$Walk;", true)
  | 5 => ("InsideOut", "tape", "LInsideOut$Tape;", true)
  | 6 => ("InsideOut", "reader", "LInsideOut$Reader;", true)
  | 7 => ("InsideOut", "sheets", "[LInsideOut$Sheet;", true)
  | _ => ("InsideOut", "findings", "[I", true)
def tyX7 : Nat → FieldType := fun k => match k with
  | 0 => .object "InsideOut$World"
  | 1 => .object "InsideOut$World"
  | 2 => .object "InsideOut$World"
  | 3 => .boolean
  | 4 => .object "InsideOut$Walk"
  | 5 => .object "InsideOut$Tape"
  | 6 => .object "InsideOut$Reader"
  | 7 => .array (.object "InsideOut$Sheet")
  | _ => .array .int
theorem nmX7 : ∀ a, a < 9 → ∀ b, b < 9 → a ≠ b → (TX7 a).2.1 ≠ (TX7 b).2.1 := by decide +kernel
theorem tyX7_ok : ∀ k, k < 9 → parseFieldDescriptor (TX7 k).2.2.1 = some (tyX7 k) := by decide +kernel
def RX8 : String := "InsideOutModel"
def TX8 : u_T := fun k => match k with
  | 0 => ("InsideOutModel", "s", "[I", true)
  | 1 => ("InsideOutModel", "kept", "[I", true)
  | 2 => ("InsideOutModel", "before", "[I", true)
  | 3 => ("InsideOutModel", "aside", "[I", true)
  | 4 => ("InsideOutModel", "isKept", "Z", false)
  | 5 => ("InsideOutModel", "findings", "[I", true)
  | 6 => ("InsideOutModel", "tape", "[I", true)
  | 7 => ("InsideOutModel", "taped", "I", false)
  | 8 => ("InsideOutModel", "bitsOf", "[I", true)
  | 9 => ("InsideOutModel", "sizes", "[I", true)
  | 10 => ("InsideOutModel", "numbers", "[I", true)
  | 11 => ("InsideOutModel", "homeWet", "I", false)
  | 12 => ("InsideOutModel", "homeTurned", "I", false)
  | 13 => ("InsideOutModel", "homeRibs", "I", false)
  | 14 => ("InsideOutModel", "best", "I", false)
  | 15 => ("InsideOutModel", "driest", "I", false)
  | 16 => ("InsideOutModel", "token", "I", false)
  | 17 => ("InsideOutModel", "from", "I", false)
  | 18 => ("InsideOutModel", "to", "I", false)
  | 19 => ("InsideOutModel", "value", "I", false)
  | _ => ("InsideOutModel", "faultAt", "I", false)
def tyX8 : Nat → FieldType := fun k => match k with
  | 0 => .array .int
  | 1 => .array .int
  | 2 => .array .int
  | 3 => .array .int
  | 4 => .boolean
  | 5 => .array .int
  | 6 => .array .int
  | 7 => .int
  | 8 => .array .int
  | 9 => .array .int
  | 10 => .array .int
  | 11 => .int
  | 12 => .int
  | 13 => .int
  | 14 => .int
  | 15 => .int
  | 16 => .int
  | 17 => .int
  | 18 => .int
  | 19 => .int
  | _ => .int
theorem nmX8 : ∀ a, a < 21 → ∀ b, b < 21 → a ≠ b → (TX8 a).2.1 ≠ (TX8 b).2.1 := by decide +kernel
theorem tyX8_ok : ∀ k, k < 21 → parseFieldDescriptor (TX8 k).2.2.1 = some (tyX8 k) := by decide +kernel
abbrev vwCl : List vw_C := [(RX0, TX0, 5), (RX1, TX1, 3), (RX2, TX2, 6), (RX3, TX3, 2), (RX4, TX4, 8), (RX5, TX5, 2), (RX6, TX6, 5), (RX7, TX7, 9), (RX8, TX8, 21)]
def RJ6 : String := "java/lang/Integer"
def RJ9 : String := "java/lang/Math"
def RJ0 : String := "java/lang/String"
def RJ1 : String := "java/lang/StringLatin1"
def RJ2 : String := "java/lang/StringUTF16"
def RJ10 : String := "java/lang/System"
def RJ7 : String := "java/util/Arrays"
def RJ3 : String := "jdk/internal/util/Preconditions"
def RL : String := "InsideOutLaw"
/-- a method: its name, code, locals, answer -/
abbrev MR : Type := MethodName × ByteArray × Nat × Option FieldType
abbrev yX0_init : MethodName := ⟨RX0, "<init>", "(LInsideOut$Tape;)V"⟩
abbrev cX0_init : ByteArray := prog_2_method_1_code
abbrev mX0_init : MR := (yX0_init, cX0_init, 2, none)
abbrev yX0_readInto : MethodName := ⟨RX0, "readInto", "(LInsideOut$World;)I"⟩
abbrev cX0_readInto : ByteArray := prog_2_method_2_code
abbrev mX0_readInto : MR := (yX0_readInto, cX0_readInto, 3, (some .int))
abbrev yX0_readItem : MethodName := ⟨RX0, "readItem", "(LInsideOut$World;)Z"⟩
abbrev cX0_readItem : ByteArray := prog_2_method_3_code
abbrev mX0_readItem : MR := (yX0_readItem, cX0_readItem, 3, (some .boolean))
abbrev yX0_readUmbrella : MethodName := ⟨RX0, "readUmbrella", "(LInsideOut$World;I)Z"⟩
abbrev cX0_readUmbrella : ByteArray := prog_2_method_4_code
abbrev mX0_readUmbrella : MR := (yX0_readUmbrella, cX0_readUmbrella, 4, (some .boolean))
abbrev yX0_readMark : MethodName := ⟨RX0, "readMark", "(LInsideOut$Umbrella;Ljava/lang/String;I)Z"⟩
abbrev cX0_readMark : ByteArray := prog_2_method_5_code
abbrev mX0_readMark : MR := (yX0_readMark, cX0_readMark, 5, (some .boolean))
abbrev yX0_readWind : MethodName := ⟨RX0, "readWind", "(LInsideOut$Street;I)Z"⟩
abbrev cX0_readWind : ByteArray := prog_2_method_6_code
abbrev mX0_readWind : MR := (yX0_readWind, cX0_readWind, 5, (some .boolean))
abbrev yX0_readRoof : MethodName := ⟨RX0, "readRoof", "(LInsideOut$Street;I)Z"⟩
abbrev cX0_readRoof : ByteArray := prog_2_method_7_code
abbrev mX0_readRoof : MR := (yX0_readRoof, cX0_readRoof, 4, (some .boolean))
abbrev yX0_readWeather : MethodName := ⟨RX0, "readWeather", "(LInsideOut$Street;Z)Z"⟩
abbrev cX0_readWeather : ByteArray := prog_2_method_8_code
abbrev mX0_readWeather : MR := (yX0_readWeather, cX0_readWeather, 4, (some .boolean))
abbrev yX0_nextNumber : MethodName := ⟨RX0, "nextNumber", "(I)I"⟩
abbrev cX0_nextNumber : ByteArray := prog_2_method_9_code
abbrev mX0_nextNumber : MR := (yX0_nextNumber, cX0_nextNumber, 2, (some .int))
abbrev yX0_isWord : MethodName := ⟨RX0, "isWord", "(Ljava/lang/String;)Z"⟩
abbrev cX0_isWord : ByteArray := prog_2_method_10_code
abbrev mX0_isWord : MR := (yX0_isWord, cX0_isWord, 3, (some .boolean))
abbrev yX0_readToken : MethodName := ⟨RX0, "readToken", "()V"⟩
abbrev cX0_readToken : ByteArray := prog_2_method_11_code
abbrev mX0_readToken : MR := (yX0_readToken, cX0_readToken, 3, none)
abbrev yX0_tokenOf : MethodName := ⟨RX0, "tokenOf", "(I)I"⟩
abbrev cX0_tokenOf : ByteArray := prog_2_method_12_code
abbrev mX0_tokenOf : MR := (yX0_tokenOf, cX0_tokenOf, 1, (some .int))
abbrev yX0_wordOfKind : MethodName := ⟨RX0, "wordOfKind", "(I)Ljava/lang/String;"⟩
abbrev cX0_wordOfKind : ByteArray := prog_2_method_13_code
abbrev mX0_wordOfKind : MR := (yX0_wordOfKind, cX0_wordOfKind, 1, (some (.object "java/lang/String")))
abbrev yX0_wordOfFrom : MethodName := ⟨RX0, "wordOfFrom", "(I)Ljava/lang/String;"⟩
abbrev cX0_wordOfFrom : ByteArray := prog_2_method_14_code
abbrev mX0_wordOfFrom : MR := (yX0_wordOfFrom, cX0_wordOfFrom, 1, (some (.object "java/lang/String")))
abbrev yX1_init : MethodName := ⟨RX1, "<init>", "()V"⟩
abbrev cX1_init : ByteArray := prog_3_method_1_code
abbrev mX1_init : MR := (yX1_init, cX1_init, 1, none)
abbrev yX1_isMissing : MethodName := ⟨RX1, "isMissing", "()Z"⟩
abbrev cX1_isMissing : ByteArray := prog_3_method_2_code
abbrev mX1_isMissing : MR := (yX1_isMissing, cX1_isMissing, 1, (some .boolean))
abbrev yX1_clear : MethodName := ⟨RX1, "clear", "(II)V"⟩
abbrev cX1_clear : ByteArray := prog_3_method_3_code
abbrev mX1_clear : MR := (yX1_clear, cX1_clear, 3, none)
abbrev yX1_has : MethodName := ⟨RX1, "has", "(II)Z"⟩
abbrev cX1_has : ByteArray := prog_3_method_4_code
abbrev mX1_has : MR := (yX1_has, cX1_has, 3, (some .boolean))
abbrev yX1_put : MethodName := ⟨RX1, "put", "(II)V"⟩
abbrev cX1_put : ByteArray := prog_3_method_5_code
abbrev mX1_put : MR := (yX1_put, cX1_put, 3, none)
abbrev yX2_init : MethodName := ⟨RX2, "<init>", "()V"⟩
abbrev cX2_init : ByteArray := prog_4_method_1_code
abbrev mX2_init : MR := (yX2_init, cX2_init, 1, none)
abbrev yX2_setTo : MethodName := ⟨RX2, "setTo", "(LInsideOut$Street;)V"⟩
abbrev cX2_setTo : ByteArray := prog_4_method_2_code
abbrev mX2_setTo : MR := (yX2_setTo, cX2_setTo, 2, none)
abbrev yX2_windOn : MethodName := ⟨RX2, "windOn", "(I)I"⟩
abbrev cX2_windOn : ByteArray := prog_4_method_3_code
abbrev mX2_windOn : MR := (yX2_windOn, cX2_windOn, 3, (some .int))
abbrev yX2_roofs : MethodName := ⟨RX2, "roofs", "()I"⟩
abbrev cX2_roofs : ByteArray := prog_4_method_4_code
abbrev mX2_roofs : MR := (yX2_roofs, cX2_roofs, 3, (some .int))
abbrev yX2_nextTick : MethodName := ⟨RX2, "nextTick", "(I)V"⟩
abbrev cX2_nextTick : ByteArray := prog_4_method_5_code
abbrev mX2_nextTick : MR := (yX2_nextTick, cX2_nextTick, 2, none)
abbrev yX3_init : MethodName := ⟨RX3, "<init>", "()V"⟩
abbrev cX3_init : ByteArray := prog_5_method_1_code
abbrev mX3_init : MR := (yX3_init, cX3_init, 1, none)
abbrev yX3_append : MethodName := ⟨RX3, "append", "(II)V"⟩
abbrev cX3_append : ByteArray := prog_5_method_2_code
abbrev mX3_append : MR := (yX3_append, cX3_append, 4, none)
abbrev yX3_byteAt : MethodName := ⟨RX3, "byteAt", "(I)I"⟩
abbrev cX3_byteAt : ByteArray := prog_5_method_3_code
abbrev mX3_byteAt : MR := (yX3_byteAt, cX3_byteAt, 2, (some .int))
abbrev yX4_init : MethodName := ⟨RX4, "<init>", "()V"⟩
abbrev cX4_init : ByteArray := prog_6_method_1_code
abbrev mX4_init : MR := (yX4_init, cX4_init, 1, none)
abbrev yX4_beNew : MethodName := ⟨RX4, "beNew", "(I)V"⟩
abbrev cX4_beNew : ByteArray := prog_6_method_2_code
abbrev mX4_beNew : MR := (yX4_beNew, cX4_beNew, 2, none)
abbrev yX4_setTo : MethodName := ⟨RX4, "setTo", "(LInsideOut$Umbrella;)V"⟩
abbrev cX4_setTo : ByteArray := prog_6_method_3_code
abbrev mX4_setTo : MR := (yX4_setTo, cX4_setTo, 2, none)
abbrev yX4_mark : MethodName := ⟨RX4, "mark", "(I)I"⟩
abbrev cX4_mark : ByteArray := prog_6_method_4_code
abbrev mX4_mark : MR := (yX4_mark, cX4_mark, 2, (some .int))
abbrev yX4_setMark : MethodName := ⟨RX4, "setMark", "(II)V"⟩
abbrev cX4_setMark : ByteArray := prog_6_method_5_code
abbrev mX4_setMark : MR := (yX4_setMark, cX4_setMark, 3, none)
abbrev yX4_stiff : MethodName := ⟨RX4, "stiff", "()I"⟩
abbrev cX4_stiff : ByteArray := prog_6_method_6_code
abbrev mX4_stiff : MR := (yX4_stiff, cX4_stiff, 5, (some .int))
abbrev yX4_bearable : MethodName := ⟨RX4, "bearable", "(III)I"⟩
abbrev cX4_bearable : ByteArray := prog_6_method_7_code
abbrev mX4_bearable : MR := (yX4_bearable, cX4_bearable, 4, (some .int))
abbrev yX4_covers : MethodName := ⟨RX4, "covers", "(LInsideOut$Street;)I"⟩
abbrev cX4_covers : ByteArray := prog_6_method_8_code
abbrev mX4_covers : MR := (yX4_covers, cX4_covers, 5, (some .int))
abbrev yX4_pace : MethodName := ⟨RX4, "pace", "(I)I"⟩
abbrev cX4_pace : ByteArray := prog_6_method_9_code
abbrev mX4_pace : MR := (yX4_pace, cX4_pace, 2, (some .int))
abbrev yX4_walkOn : MethodName := ⟨RX4, "walkOn", "(LInsideOut$Street;)Z"⟩
abbrev cX4_walkOn : ByteArray := prog_6_method_10_code
abbrev mX4_walkOn : MR := (yX4_walkOn, cX4_walkOn, 8, (some .boolean))
abbrev yX4_holdByHabit : MethodName := ⟨RX4, "holdByHabit", "(IIZ)V"⟩
abbrev cX4_holdByHabit : ByteArray := prog_6_method_11_code
abbrev mX4_holdByHabit : MR := (yX4_holdByHabit, cX4_holdByHabit, 4, none)
abbrev yX4_turn : MethodName := ⟨RX4, "turn", "(IZ)Z"⟩
abbrev cX4_turn : ByteArray := prog_6_method_12_code
abbrev mX4_turn : MR := (yX4_turn, cX4_turn, 3, (some .boolean))
abbrev yX5_init : MethodName := ⟨RX5, "<init>", "()V"⟩
abbrev cX5_init : ByteArray := prog_7_method_1_code
abbrev mX5_init : MR := (yX5_init, cX5_init, 1, none)
abbrev yX5_start : MethodName := ⟨RX5, "start", "(LInsideOut$Street;LInsideOut$Umbrella;)V"⟩
abbrev cX5_start : ByteArray := prog_7_method_2_code
abbrev mX5_start : MR := (yX5_start, cX5_start, 3, none)
abbrev yX5_choose : MethodName := ⟨RX5, "choose", "(II)Z"⟩
abbrev cX5_choose : ByteArray := prog_7_method_3_code
abbrev mX5_choose : MR := (yX5_choose, cX5_choose, 3, (some .boolean))
abbrev yX5_goOn : MethodName := ⟨RX5, "goOn", "()V"⟩
abbrev cX5_goOn : ByteArray := prog_7_method_4_code
abbrev mX5_goOn : MR := (yX5_goOn, cX5_goOn, 1, none)
abbrev yX5_ticksHome : MethodName := ⟨RX5, "ticksHome", "()I"⟩
abbrev cX5_ticksHome : ByteArray := prog_7_method_5_code
abbrev mX5_ticksHome : MR := (yX5_ticksHome, cX5_ticksHome, 2, (some .int))
abbrev yX5_ticksTillTurned : MethodName := ⟨RX5, "ticksTillTurned", "()I"⟩
abbrev cX5_ticksTillTurned : ByteArray := prog_7_method_6_code
abbrev mX5_ticksTillTurned : MR := (yX5_ticksTillTurned, cX5_ticksTillTurned, 3, (some .int))
abbrev yX5_comesHomeUnturned : MethodName := ⟨RX5, "comesHomeUnturned", "()Z"⟩
abbrev cX5_comesHomeUnturned : ByteArray := prog_7_method_7_code
abbrev mX5_comesHomeUnturned : MR := (yX5_comesHomeUnturned, cX5_comesHomeUnturned, 3, (some .boolean))
abbrev yX5_follows : MethodName := ⟨RX5, "follows", "(LInsideOut$Sheet;)Z"⟩
abbrev cX5_follows : ByteArray := prog_7_method_8_code
abbrev mX5_follows : MR := (yX5_follows, cX5_follows, 3, (some .boolean))
abbrev yX6_init : MethodName := ⟨RX6, "<init>", "()V"⟩
abbrev cX6_init : ByteArray := prog_8_method_1_code
abbrev mX6_init : MR := (yX6_init, cX6_init, 2, none)
abbrev yX6_become : MethodName := ⟨RX6, "become", "(LInsideOut$World;)V"⟩
abbrev cX6_become : ByteArray := prog_8_method_2_code
abbrev mX6_become : MR := (yX6_become, cX6_become, 3, none)
abbrev yX6_isFull : MethodName := ⟨RX6, "isFull", "()Z"⟩
abbrev cX6_isFull : ByteArray := prog_8_method_3_code
abbrev mX6_isFull : MR := (yX6_isFull, cX6_isFull, 1, (some .boolean))
abbrev yX6_addUmbrella : MethodName := ⟨RX6, "addUmbrella", "(I)I"⟩
abbrev cX6_addUmbrella : ByteArray := prog_8_method_4_code
abbrev mX6_addUmbrella : MR := (yX6_addUmbrella, cX6_addUmbrella, 3, (some .int))
abbrev yX6_passTick : MethodName := ⟨RX6, "passTick", "()I"⟩
abbrev cX6_passTick : ByteArray := prog_8_method_5_code
abbrev mX6_passTick : MR := (yX6_passTick, cX6_passTick, 3, (some .int))
abbrev yX6_draw : MethodName := ⟨RX6, "draw", "()I"⟩
abbrev cX6_draw : ByteArray := prog_8_method_6_code
abbrev mX6_draw : MR := (yX6_draw, cX6_draw, 1, (some .int))
abbrev yX6_setOf : MethodName := ⟨RX6, "setOf", "(II)I"⟩
abbrev cX6_setOf : ByteArray := prog_8_method_7_code
abbrev mX6_setOf : MR := (yX6_setOf, cX6_setOf, 5, (some .int))
abbrev yX6_sumOf : MethodName := ⟨RX6, "sumOf", "(I)I"⟩
abbrev cX6_sumOf : ByteArray := prog_8_method_8_code
abbrev mX6_sumOf : MR := (yX6_sumOf, cX6_sumOf, 4, (some .int))
abbrev yX6_spotsHolding : MethodName := ⟨RX6, "spotsHolding", "()I"⟩
abbrev cX6_spotsHolding : ByteArray := prog_8_method_9_code
abbrev mX6_spotsHolding : MR := (yX6_spotsHolding, cX6_spotsHolding, 3, (some .int))
abbrev yX7_init : MethodName := ⟨RX7, "<init>", "()V"⟩
abbrev cX7_init : ByteArray := prog_1_method_1_code
abbrev mX7_init : MR := (yX7_init, cX7_init, 2, none)
abbrev yX7_step : MethodName := ⟨RX7, "step", "(III)I"⟩
abbrev cX7_step : ByteArray := prog_1_method_2_code
abbrev mX7_step : MR := (yX7_step, cX7_step, 8, (some .int))
abbrev yX7_stepOf : MethodName := ⟨RX7, "stepOf", "(II)I"⟩
abbrev cX7_stepOf : ByteArray := prog_1_method_3_code
abbrev mX7_stepOf : MR := (yX7_stepOf, cX7_stepOf, 4, (some .int))
abbrev yX7_weather : MethodName := ⟨RX7, "weather", "(II)I"⟩
abbrev cX7_weather : ByteArray := prog_1_method_4_code
abbrev mX7_weather : MR := (yX7_weather, cX7_weather, 5, (some .int))
abbrev yX7_umbrella : MethodName := ⟨RX7, "umbrella", "(I)I"⟩
abbrev cX7_umbrella : ByteArray := prog_1_method_5_code
abbrev mX7_umbrella : MR := (yX7_umbrella, cX7_umbrella, 2, (some .int))
abbrev yX7_of : MethodName := ⟨RX7, "of", "(II)I"⟩
abbrev cX7_of : ByteArray := prog_1_method_6_code
abbrev mX7_of : MR := (yX7_of, cX7_of, 4, (some .int))
abbrev yX7_change : MethodName := ⟨RX7, "change", "(III)I"⟩
abbrev cX7_change : ByteArray := prog_1_method_7_code
abbrev mX7_change : MR := (yX7_change, cX7_change, 6, (some .int))
abbrev yX7_bears : MethodName := ⟨RX7, "bears", "(III)I"⟩
abbrev cX7_bears : ByteArray := prog_1_method_8_code
abbrev mX7_bears : MR := (yX7_bears, cX7_bears, 5, (some .int))
abbrev yX7_go : MethodName := ⟨RX7, "go", "(I)I"⟩
abbrev cX7_go : ByteArray := prog_1_method_9_code
abbrev mX7_go : MR := (yX7_go, cX7_go, 3, (some .int))
abbrev yX7_now : MethodName := ⟨RX7, "now", "(I)I"⟩
abbrev cX7_now : ByteArray := prog_1_method_10_code
abbrev mX7_now : MR := (yX7_now, cX7_now, 2, (some .int))
abbrev yX7_ahead : MethodName := ⟨RX7, "ahead", "(III)I"⟩
abbrev cX7_ahead : ByteArray := prog_1_method_11_code
abbrev mX7_ahead : MR := (yX7_ahead, cX7_ahead, 5, (some .int))
abbrev yX7_home : MethodName := ⟨RX7, "home", "(I)I"⟩
abbrev cX7_home : ByteArray := prog_1_method_12_code
abbrev mX7_home : MR := (yX7_home, cX7_home, 3, (some .int))
abbrev yX7_homeWith : MethodName := ⟨RX7, "homeWith", "(II)I"⟩
abbrev cX7_homeWith : ByteArray := prog_1_method_13_code
abbrev mX7_homeWith : MR := (yX7_homeWith, cX7_homeWith, 3, (some .int))
abbrev yX7_whup : MethodName := ⟨RX7, "whup", "(I)I"⟩
abbrev cX7_whup : ByteArray := prog_1_method_14_code
abbrev mX7_whup : MR := (yX7_whup, cX7_whup, 3, (some .int))
abbrev yX7_first : MethodName := ⟨RX7, "first", "()I"⟩
abbrev cX7_first : ByteArray := prog_1_method_15_code
abbrev mX7_first : MR := (yX7_first, cX7_first, 5, (some .int))
abbrev yX7_habitFor : MethodName := ⟨RX7, "habitFor", "(I)I"⟩
abbrev cX7_habitFor : ByteArray := prog_1_method_16_code
abbrev mX7_habitFor : MR := (yX7_habitFor, cX7_habitFor, 2, (some .int))
abbrev yX7_heldFor : MethodName := ⟨RX7, "heldFor", "(I)I"⟩
abbrev cX7_heldFor : ByteArray := prog_1_method_17_code
abbrev mX7_heldFor : MR := (yX7_heldFor, cX7_heldFor, 2, (some .int))
abbrev yX7_kindFor : MethodName := ⟨RX7, "kindFor", "(I)I"⟩
abbrev cX7_kindFor : ByteArray := prog_1_method_18_code
abbrev mX7_kindFor : MR := (yX7_kindFor, cX7_kindFor, 2, (some .int))
abbrev yX7_roofFor : MethodName := ⟨RX7, "roofFor", "(I)I"⟩
abbrev cX7_roofFor : ByteArray := prog_1_method_19_code
abbrev mX7_roofFor : MR := (yX7_roofFor, cX7_roofFor, 2, (some .int))
abbrev yX7_waitFor : MethodName := ⟨RX7, "waitFor", "(I)I"⟩
abbrev cX7_waitFor : ByteArray := prog_1_method_20_code
abbrev mX7_waitFor : MR := (yX7_waitFor, cX7_waitFor, 2, (some .int))
abbrev yX7_gustFor : MethodName := ⟨RX7, "gustFor", "(I)I"⟩
abbrev cX7_gustFor : ByteArray := prog_1_method_21_code
abbrev mX7_gustFor : MR := (yX7_gustFor, cX7_gustFor, 3, (some .int))
abbrev yX7_ribsFor : MethodName := ⟨RX7, "ribsFor", "(I)I"⟩
abbrev cX7_ribsFor : ByteArray := prog_1_method_22_code
abbrev mX7_ribsFor : MR := (yX7_ribsFor, cX7_ribsFor, 3, (some .int))
abbrev yX7_fits : MethodName := ⟨RX7, "fits", "(II)I"⟩
abbrev cX7_fits : ByteArray := prog_1_method_23_code
abbrev mX7_fits : MR := (yX7_fits, cX7_fits, 3, (some .int))
abbrev yX7_kinds : MethodName := ⟨RX7, "kinds", "(II)I"⟩
abbrev cX7_kinds : ByteArray := prog_1_method_24_code
abbrev mX7_kinds : MR := (yX7_kinds, cX7_kinds, 3, (some .int))
abbrev yX7_gusts : MethodName := ⟨RX7, "gusts", "(I)I"⟩
abbrev cX7_gusts : ByteArray := prog_1_method_25_code
abbrev mX7_gusts : MR := (yX7_gusts, cX7_gusts, 6, (some .int))
abbrev yX7_odds : MethodName := ⟨RX7, "odds", "(II)J"⟩
abbrev cX7_odds : ByteArray := prog_1_method_26_code
abbrev mX7_odds : MR := (yX7_odds, cX7_odds, 10, (some .long))
abbrev yX7_seed : MethodName := ⟨RX7, "seed", "(I)I"⟩
abbrev cX7_seed : ByteArray := prog_1_method_27_code
abbrev mX7_seed : MR := (yX7_seed, cX7_seed, 3, (some .int))
abbrev yX7_feed : MethodName := ⟨RX7, "feed", "(II)I"⟩
abbrev cX7_feed : ByteArray := prog_1_method_28_code
abbrev mX7_feed : MR := (yX7_feed, cX7_feed, 3, (some .int))
abbrev yX7_wipe : MethodName := ⟨RX7, "wipe", "()I"⟩
abbrev cX7_wipe : ByteArray := prog_1_method_29_code
abbrev mX7_wipe : MR := (yX7_wipe, cX7_wipe, 2, (some .int))
abbrev yX7_text : MethodName := ⟨RX7, "text", "()I"⟩
abbrev cX7_text : ByteArray := prog_1_method_30_code
abbrev mX7_text : MR := (yX7_text, cX7_text, 2, (some .int))
abbrev yX7_hold : MethodName := ⟨RX7, "hold", "(II)I"⟩
abbrev cX7_hold : ByteArray := prog_1_method_31_code
abbrev mX7_hold : MR := (yX7_hold, cX7_hold, 3, (some .int))
abbrev yX7_as : MethodName := ⟨RX7, "as", "(II)I"⟩
abbrev cX7_as : ByteArray := prog_1_method_32_code
abbrev mX7_as : MR := (yX7_as, cX7_as, 4, (some .int))
abbrev yX7_sheet : MethodName := ⟨RX7, "sheet", "(III)I"⟩
abbrev cX7_sheet : ByteArray := prog_1_method_33_code
abbrev mX7_sheet : MR := (yX7_sheet, cX7_sheet, 4, (some .int))
abbrev yX7_write : MethodName := ⟨RX7, "write", "(III)I"⟩
abbrev cX7_write : ByteArray := prog_1_method_34_code
abbrev mX7_write : MR := (yX7_write, cX7_write, 5, (some .int))
abbrev yX7_copy : MethodName := ⟨RX7, "copy", "(IIIII)I"⟩
abbrev cX7_copy : ByteArray := prog_1_method_35_code
abbrev mX7_copy : MR := (yX7_copy, cX7_copy, 8, (some .int))
abbrev yX7_load : MethodName := ⟨RX7, "load", "(I)I"⟩
abbrev cX7_load : ByteArray := prog_1_method_36_code
abbrev mX7_load : MR := (yX7_load, cX7_load, 4, (some .int))
abbrev yX7_judge : MethodName := ⟨RX7, "judge", "(I)I"⟩
abbrev cX7_judge : ByteArray := prog_1_method_37_code
abbrev mX7_judge : MR := (yX7_judge, cX7_judge, 4, (some .int))
abbrev yX7_image : MethodName := ⟨RX7, "image", "()I"⟩
abbrev cX7_image : ByteArray := prog_1_method_38_code
abbrev mX7_image : MR := (yX7_image, cX7_image, 1, (some .int))
abbrev yX7_undo : MethodName := ⟨RX7, "undo", "()I"⟩
abbrev cX7_undo : ByteArray := prog_1_method_39_code
abbrev mX7_undo : MR := (yX7_undo, cX7_undo, 1, (some .int))
abbrev yX7_tear : MethodName := ⟨RX7, "tear", "()I"⟩
abbrev cX7_tear : ByteArray := prog_1_method_40_code
abbrev mX7_tear : MR := (yX7_tear, cX7_tear, 2, (some .int))
abbrev yX7_count : MethodName := ⟨RX7, "count", "(I)I"⟩
abbrev cX7_count : ByteArray := prog_1_method_41_code
abbrev mX7_count : MR := (yX7_count, cX7_count, 2, (some .int))
abbrev yX7_status : MethodName := ⟨RX7, "status", "(I)I"⟩
abbrev cX7_status : ByteArray := prog_1_method_42_code
abbrev mX7_status : MR := (yX7_status, cX7_status, 4, (some .int))
abbrev yX7_finding : MethodName := ⟨RX7, "finding", "(I)I"⟩
abbrev cX7_finding : ByteArray := prog_1_method_43_code
abbrev mX7_finding : MR := (yX7_finding, cX7_finding, 2, (some .int))
abbrev yX7_isWithin : MethodName := ⟨RX7, "isWithin", "(II)Z"⟩
abbrev cX7_isWithin : ByteArray := prog_1_method_44_code
abbrev mX7_isWithin : MR := (yX7_isWithin, cX7_isWithin, 2, (some .boolean))
abbrev yX7_isStep : MethodName := ⟨RX7, "isStep", "(I)Z"⟩
abbrev cX7_isStep : ByteArray := prog_1_method_45_code
abbrev mX7_isStep : MR := (yX7_isStep, cX7_isStep, 1, (some .boolean))
abbrev yX7_isKind : MethodName := ⟨RX7, "isKind", "(I)Z"⟩
abbrev cX7_isKind : ByteArray := prog_1_method_46_code
abbrev mX7_isKind : MR := (yX7_isKind, cX7_isKind, 1, (some .boolean))
abbrev yX7_isSpot : MethodName := ⟨RX7, "isSpot", "(I)Z"⟩
abbrev cX7_isSpot : ByteArray := prog_1_method_47_code
abbrev mX7_isSpot : MR := (yX7_isSpot, cX7_isSpot, 1, (some .boolean))
abbrev yX7_isSheet : MethodName := ⟨RX7, "isSheet", "(I)Z"⟩
abbrev cX7_isSheet : ByteArray := prog_1_method_48_code
abbrev mX7_isSheet : MR := (yX7_isSheet, cX7_isSheet, 1, (some .boolean))
abbrev yX7_isUmbrella : MethodName := ⟨RX7, "isUmbrella", "(I)Z"⟩
abbrev cX7_isUmbrella : ByteArray := prog_1_method_49_code
abbrev mX7_isUmbrella : MR := (yX7_isUmbrella, cX7_isUmbrella, 2, (some .boolean))
abbrev yX7_isUnder : MethodName := ⟨RX7, "isUnder", "(II)Z"⟩
abbrev cX7_isUnder : ByteArray := prog_1_method_50_code
abbrev mX7_isUnder : MR := (yX7_isUnder, cX7_isUnder, 4, (some .boolean))
abbrev yX7_startWalk : MethodName := ⟨RX7, "startWalk", "(I)V"⟩
abbrev cX7_startWalk : ByteArray := prog_1_method_51_code
abbrev mX7_startWalk : MR := (yX7_startWalk, cX7_startWalk, 2, none)
abbrev yX7_driest : MethodName := ⟨RX7, "driest", "(III)I"⟩
abbrev cX7_driest : ByteArray := prog_1_method_52_code
abbrev mX7_driest : MR := (yX7_driest, cX7_driest, 7, (some .int))
abbrev yX7_fitting : MethodName := ⟨RX7, "fitting", "(IIII)I"⟩
abbrev cX7_fitting : ByteArray := prog_1_method_53_code
abbrev mX7_fitting : MR := (yX7_fitting, cX7_fitting, 7, (some .int))
abbrev yX8_init : MethodName := ⟨RX8, "<init>", "()V"⟩
abbrev cX8_init : ByteArray := prog_10_method_1_code
abbrev mX8_init : MR := (yX8_init, cX8_init, 2, none)
abbrev yX8_isIn : MethodName := ⟨RX8, "isIn", "(JJJ)Z"⟩
abbrev cX8_isIn : ByteArray := prog_10_method_2_code
abbrev mX8_isIn : MR := (yX8_isIn, cX8_isIn, 6, (some .boolean))
abbrev yX8_finds : MethodName := ⟨RX8, "finds", "(I)I"⟩
abbrev cX8_finds : ByteArray := prog_10_method_3_code
abbrev mX8_finds : MR := (yX8_finds, cX8_finds, 2, (some .int))
abbrev yX8_becomes : MethodName := ⟨RX8, "becomes", "(II)I"⟩
abbrev cX8_becomes : ByteArray := prog_10_method_4_code
abbrev mX8_becomes : MR := (yX8_becomes, cX8_becomes, 4, (some .int))
abbrev yX8_copyRow : MethodName := ⟨RX8, "copyRow", "([I[I)V"⟩
abbrev cX8_copyRow : ByteArray := prog_10_method_5_code
abbrev mX8_copyRow : MR := (yX8_copyRow, cX8_copyRow, 3, none)
abbrev yX8_isStep : MethodName := ⟨RX8, "isStep", "(I)Z"⟩
abbrev cX8_isStep : ByteArray := prog_10_method_6_code
abbrev mX8_isStep : MR := (yX8_isStep, cX8_isStep, 1, (some .boolean))
abbrev yX8_isUmbrella : MethodName := ⟨RX8, "isUmbrella", "(I)Z"⟩
abbrev cX8_isUmbrella : ByteArray := prog_10_method_7_code
abbrev mX8_isUmbrella : MR := (yX8_isUmbrella, cX8_isUmbrella, 2, (some .boolean))
abbrev yX8_at : MethodName := ⟨RX8, "at", "(II)I"⟩
abbrev cX8_at : ByteArray := prog_10_method_8_code
abbrev mX8_at : MR := (yX8_at, cX8_at, 2, (some .int))
abbrev yX8_its : MethodName := ⟨RX8, "its", "(II)I"⟩
abbrev cX8_its : ByteArray := prog_10_method_9_code
abbrev mX8_its : MR := (yX8_its, cX8_its, 3, (some .int))
abbrev yX8_least : MethodName := ⟨RX8, "least", "(II)I"⟩
abbrev cX8_least : ByteArray := prog_10_method_10_code
abbrev mX8_least : MR := (yX8_least, cX8_least, 2, (some .int))
abbrev yX8_greatest : MethodName := ⟨RX8, "greatest", "(II)I"⟩
abbrev cX8_greatest : ByteArray := prog_10_method_11_code
abbrev mX8_greatest : MR := (yX8_greatest, cX8_greatest, 2, (some .int))
abbrev yX8_orNone : MethodName := ⟨RX8, "orNone", "(I)I"⟩
abbrev cX8_orNone : ByteArray := prog_10_method_12_code
abbrev mX8_orNone : MR := (yX8_orNone, cX8_orNone, 2, (some .int))
abbrev yX8_many : MethodName := ⟨RX8, "many", "(I)I"⟩
abbrev cX8_many : ByteArray := prog_10_method_13_code
abbrev mX8_many : MR := (yX8_many, cX8_many, 3, (some .int))
abbrev yX8_step : MethodName := ⟨RX8, "step", "(III)I"⟩
abbrev cX8_step : ByteArray := prog_10_method_14_code
abbrev mX8_step : MR := (yX8_step, cX8_step, 4, (some .int))
abbrev yX8_wind : MethodName := ⟨RX8, "wind", "(I)I"⟩
abbrev cX8_wind : ByteArray := prog_10_method_15_code
abbrev mX8_wind : MR := (yX8_wind, cX8_wind, 3, (some .int))
abbrev yX8_there : MethodName := ⟨RX8, "there", "(I)I"⟩
abbrev cX8_there : ByteArray := prog_10_method_16_code
abbrev mX8_there : MR := (yX8_there, cX8_there, 4, (some .int))
abbrev yX8_stepOf : MethodName := ⟨RX8, "stepOf", "(II)I"⟩
abbrev cX8_stepOf : ByteArray := prog_10_method_17_code
abbrev mX8_stepOf : MR := (yX8_stepOf, cX8_stepOf, 3, (some .int))
abbrev yX8_weather : MethodName := ⟨RX8, "weather", "(II)I"⟩
abbrev cX8_weather : ByteArray := prog_10_method_18_code
abbrev mX8_weather : MR := (yX8_weather, cX8_weather, 3, (some .int))
abbrev yX8_comes : MethodName := ⟨RX8, "comes", "(I)V"⟩
abbrev cX8_comes : ByteArray := prog_10_method_19_code
abbrev mX8_comes : MR := (yX8_comes, cX8_comes, 3, none)
abbrev yX8_umbrella : MethodName := ⟨RX8, "umbrella", "(I)I"⟩
abbrev cX8_umbrella : ByteArray := prog_10_method_20_code
abbrev mX8_umbrella : MR := (yX8_umbrella, cX8_umbrella, 2, (some .int))
abbrev yX8_stiff : MethodName := ⟨RX8, "stiff", "(I)I"⟩
abbrev cX8_stiff : ByteArray := prog_10_method_21_code
abbrev mX8_stiff : MR := (yX8_stiff, cX8_stiff, 4, (some .int))
abbrev yX8_bearsOn : MethodName := ⟨RX8, "bearsOn", "(III)I"⟩
abbrev cX8_bearsOn : ByteArray := prog_10_method_22_code
abbrev mX8_bearsOn : MR := (yX8_bearsOn, cX8_bearsOn, 6, (some .int))
abbrev yX8_covers : MethodName := ⟨RX8, "covers", "(I)I"⟩
abbrev cX8_covers : ByteArray := prog_10_method_23_code
abbrev mX8_covers : MR := (yX8_covers, cX8_covers, 5, (some .int))
abbrev yX8_pace : MethodName := ⟨RX8, "pace", "(I)I"⟩
abbrev cX8_pace : ByteArray := prog_10_method_24_code
abbrev mX8_pace : MR := (yX8_pace, cX8_pace, 2, (some .int))
abbrev yX8_of : MethodName := ⟨RX8, "of", "(II)I"⟩
abbrev cX8_of : ByteArray := prog_10_method_25_code
abbrev mX8_of : MR := (yX8_of, cX8_of, 3, (some .int))
abbrev yX8_greatestOf : MethodName := ⟨RX8, "greatestOf", "(I)I"⟩
abbrev cX8_greatestOf : ByteArray := prog_10_method_26_code
abbrev mX8_greatestOf : MR := (yX8_greatestOf, cX8_greatestOf, 1, (some .int))
abbrev yX8_change : MethodName := ⟨RX8, "change", "(III)I"⟩
abbrev cX8_change : ByteArray := prog_10_method_27_code
abbrev mX8_change : MR := (yX8_change, cX8_change, 5, (some .int))
abbrev yX8_bears : MethodName := ⟨RX8, "bears", "(III)I"⟩
abbrev cX8_bears : ByteArray := prog_10_method_28_code
abbrev mX8_bears : MR := (yX8_bears, cX8_bears, 4, (some .int))
abbrev yX8_isHome : MethodName := ⟨RX8, "isHome", "(I)Z"⟩
abbrev cX8_isHome : ByteArray := prog_10_method_29_code
abbrev mX8_isHome : MR := (yX8_isHome, cX8_isHome, 2, (some .boolean))
abbrev yX8_heldBy : MethodName := ⟨RX8, "heldBy", "(I)I"⟩
abbrev cX8_heldBy : ByteArray := prog_10_method_30_code
abbrev mX8_heldBy : MR := (yX8_heldBy, cX8_heldBy, 3, (some .int))
abbrev yX8_goesOn : MethodName := ⟨RX8, "goesOn", "(I)Z"⟩
abbrev cX8_goesOn : ByteArray := prog_10_method_31_code
abbrev mX8_goesOn : MR := (yX8_goesOn, cX8_goesOn, 8, (some .boolean))
abbrev yX8_tick : MethodName := ⟨RX8, "tick", "()I"⟩
abbrev cX8_tick : ByteArray := prog_10_method_32_code
abbrev mX8_tick : MR := (yX8_tick, cX8_tick, 3, (some .int))
abbrev yX8_homes : MethodName := ⟨RX8, "homes", "()I"⟩
abbrev cX8_homes : ByteArray := prog_10_method_33_code
abbrev mX8_homes : MR := (yX8_homes, cX8_homes, 3, (some .int))
abbrev yX8_go : MethodName := ⟨RX8, "go", "(I)I"⟩
abbrev cX8_go : ByteArray := prog_10_method_34_code
abbrev mX8_go : MR := (yX8_go, cX8_go, 4, (some .int))
abbrev yX8_sumOf : MethodName := ⟨RX8, "sumOf", "(I)I"⟩
abbrev cX8_sumOf : ByteArray := prog_10_method_35_code
abbrev mX8_sumOf : MR := (yX8_sumOf, cX8_sumOf, 4, (some .int))
abbrev yX8_outs : MethodName := ⟨RX8, "outs", "()I"⟩
abbrev cX8_outs : ByteArray := prog_10_method_36_code
abbrev mX8_outs : MR := (yX8_outs, cX8_outs, 3, (some .int))
abbrev yX8_roofs : MethodName := ⟨RX8, "roofs", "()I"⟩
abbrev cX8_roofs : ByteArray := prog_10_method_37_code
abbrev mX8_roofs : MR := (yX8_roofs, cX8_roofs, 3, (some .int))
abbrev yX8_now : MethodName := ⟨RX8, "now", "(I)I"⟩
abbrev cX8_now : ByteArray := prog_10_method_38_code
abbrev mX8_now : MR := (yX8_now, cX8_now, 2, (some .int))
abbrev yX8_goesAlone : MethodName := ⟨RX8, "goesAlone", "(I)V"⟩
abbrev cX8_goesAlone : ByteArray := prog_10_method_39_code
abbrev mX8_goesAlone : MR := (yX8_goesAlone, cX8_goesAlone, 3, none)
abbrev yX8_ahead : MethodName := ⟨RX8, "ahead", "(III)I"⟩
abbrev cX8_ahead : ByteArray := prog_10_method_40_code
abbrev mX8_ahead : MR := (yX8_ahead, cX8_ahead, 5, (some .int))
abbrev yX8_follows : MethodName := ⟨RX8, "follows", "(I)I"⟩
abbrev cX8_follows : ByteArray := prog_10_method_41_code
abbrev mX8_follows : MR := (yX8_follows, cX8_follows, 4, (some .int))
abbrev yX8_home : MethodName := ⟨RX8, "home", "(I)I"⟩
abbrev cX8_home : ByteArray := prog_10_method_42_code
abbrev mX8_home : MR := (yX8_home, cX8_home, 2, (some .int))
abbrev yX8_homeWith : MethodName := ⟨RX8, "homeWith", "(II)I"⟩
abbrev cX8_homeWith : ByteArray := prog_10_method_43_code
abbrev mX8_homeWith : MR := (yX8_homeWith, cX8_homeWith, 3, (some .int))
abbrev yX8_whup : MethodName := ⟨RX8, "whup", "(I)I"⟩
abbrev cX8_whup : ByteArray := prog_10_method_44_code
abbrev mX8_whup : MR := (yX8_whup, cX8_whup, 5, (some .int))
abbrev yX8_first : MethodName := ⟨RX8, "first", "()I"⟩
abbrev cX8_first : ByteArray := prog_10_method_45_code
abbrev mX8_first : MR := (yX8_first, cX8_first, 6, (some .int))
abbrev yX8_begins : MethodName := ⟨RX8, "begins", "()V"⟩
abbrev cX8_begins : ByteArray := prog_10_method_46_code
abbrev mX8_begins : MR := (yX8_begins, cX8_begins, 1, none)
abbrev yX8_looksAt : MethodName := ⟨RX8, "looksAt", "(II)V"⟩
abbrev cX8_looksAt : ByteArray := prog_10_method_47_code
abbrev mX8_looksAt : MR := (yX8_looksAt, cX8_looksAt, 3, none)
abbrev yX8_bestOf : MethodName := ⟨RX8, "bestOf", "(III)I"⟩
abbrev cX8_bestOf : ByteArray := prog_10_method_48_code
abbrev mX8_bestOf : MR := (yX8_bestOf, cX8_bestOf, 6, (some .int))
abbrev yX8_habitFor : MethodName := ⟨RX8, "habitFor", "(I)I"⟩
abbrev cX8_habitFor : ByteArray := prog_10_method_49_code
abbrev mX8_habitFor : MR := (yX8_habitFor, cX8_habitFor, 2, (some .int))
abbrev yX8_heldFor : MethodName := ⟨RX8, "heldFor", "(I)I"⟩
abbrev cX8_heldFor : ByteArray := prog_10_method_50_code
abbrev mX8_heldFor : MR := (yX8_heldFor, cX8_heldFor, 2, (some .int))
abbrev yX8_kindFor : MethodName := ⟨RX8, "kindFor", "(I)I"⟩
abbrev cX8_kindFor : ByteArray := prog_10_method_51_code
abbrev mX8_kindFor : MR := (yX8_kindFor, cX8_kindFor, 2, (some .int))
abbrev yX8_roofFor : MethodName := ⟨RX8, "roofFor", "(I)I"⟩
abbrev cX8_roofFor : ByteArray := prog_10_method_52_code
abbrev mX8_roofFor : MR := (yX8_roofFor, cX8_roofFor, 3, (some .int))
abbrev yX8_waitFor : MethodName := ⟨RX8, "waitFor", "(I)I"⟩
abbrev cX8_waitFor : ByteArray := prog_10_method_53_code
abbrev mX8_waitFor : MR := (yX8_waitFor, cX8_waitFor, 4, (some .int))
abbrev yX8_isWhole : MethodName := ⟨RX8, "isWhole", "(I)Z"⟩
abbrev cX8_isWhole : ByteArray := prog_10_method_54_code
abbrev mX8_isWhole : MR := (yX8_isWhole, cX8_isWhole, 2, (some .boolean))
abbrev yX8_gustFor : MethodName := ⟨RX8, "gustFor", "(I)I"⟩
abbrev cX8_gustFor : ByteArray := prog_10_method_55_code
abbrev mX8_gustFor : MR := (yX8_gustFor, cX8_gustFor, 4, (some .int))
abbrev yX8_ribsFor : MethodName := ⟨RX8, "ribsFor", "(I)I"⟩
abbrev cX8_ribsFor : ByteArray := prog_10_method_56_code
abbrev mX8_ribsFor : MR := (yX8_ribsFor, cX8_ribsFor, 5, (some .int))
abbrev yX8_isTold : MethodName := ⟨RX8, "isTold", "(II)Z"⟩
abbrev cX8_isTold : ByteArray := prog_10_method_57_code
abbrev mX8_isTold : MR := (yX8_isTold, cX8_isTold, 6, (some .boolean))
abbrev yX8_couldBe : MethodName := ⟨RX8, "couldBe", "(III)I"⟩
abbrev cX8_couldBe : ByteArray := prog_10_method_58_code
abbrev mX8_couldBe : MR := (yX8_couldBe, cX8_couldBe, 7, (some .int))
abbrev yX8_wantsFor : MethodName := ⟨RX8, "wantsFor", "(II)I"⟩
abbrev cX8_wantsFor : ByteArray := prog_10_method_59_code
abbrev mX8_wantsFor : MR := (yX8_wantsFor, cX8_wantsFor, 3, (some .int))
abbrev yX8_fits : MethodName := ⟨RX8, "fits", "(II)I"⟩
abbrev cX8_fits : ByteArray := prog_10_method_60_code
abbrev mX8_fits : MR := (yX8_fits, cX8_fits, 4, (some .int))
abbrev yX8_kinds : MethodName := ⟨RX8, "kinds", "(II)I"⟩
abbrev cX8_kinds : ByteArray := prog_10_method_61_code
abbrev mX8_kinds : MR := (yX8_kinds, cX8_kinds, 4, (some .int))
abbrev yX8_draw : MethodName := ⟨RX8, "draw", "()I"⟩
abbrev cX8_draw : ByteArray := prog_10_method_62_code
abbrev mX8_draw : MR := (yX8_draw, cX8_draw, 1, (some .int))
abbrev yX8_gusts : MethodName := ⟨RX8, "gusts", "(I)I"⟩
abbrev cX8_gusts : ByteArray := prog_10_method_63_code
abbrev mX8_gusts : MR := (yX8_gusts, cX8_gusts, 5, (some .int))
abbrev yX8_odds : MethodName := ⟨RX8, "odds", "(II)J"⟩
abbrev cX8_odds : ByteArray := prog_10_method_64_code
abbrev mX8_odds : MR := (yX8_odds, cX8_odds, 9, (some .long))
abbrev yX8_seed : MethodName := ⟨RX8, "seed", "(I)I"⟩
abbrev cX8_seed : ByteArray := prog_10_method_65_code
abbrev mX8_seed : MR := (yX8_seed, cX8_seed, 2, (some .int))
abbrev yX8_feed : MethodName := ⟨RX8, "feed", "(II)I"⟩
abbrev cX8_feed : ByteArray := prog_10_method_66_code
abbrev mX8_feed : MR := (yX8_feed, cX8_feed, 4, (some .int))
abbrev yX8_wipe : MethodName := ⟨RX8, "wipe", "()I"⟩
abbrev cX8_wipe : ByteArray := prog_10_method_67_code
abbrev mX8_wipe : MR := (yX8_wipe, cX8_wipe, 2, (some .int))
abbrev yX8_isLetter : MethodName := ⟨RX8, "isLetter", "(I)Z"⟩
abbrev cX8_isLetter : ByteArray := prog_10_method_68_code
abbrev mX8_isLetter : MR := (yX8_isLetter, cX8_isLetter, 1, (some .boolean))
abbrev yX8_isDigit : MethodName := ⟨RX8, "isDigit", "(I)Z"⟩
abbrev cX8_isDigit : ByteArray := prog_10_method_69_code
abbrev mX8_isDigit : MR := (yX8_isDigit, cX8_isDigit, 1, (some .boolean))
abbrev yX8_byteAt : MethodName := ⟨RX8, "byteAt", "(I)I"⟩
abbrev cX8_byteAt : ByteArray := prog_10_method_70_code
abbrev mX8_byteAt : MR := (yX8_byteAt, cX8_byteAt, 2, (some .int))
abbrev yX8_nextToken : MethodName := ⟨RX8, "nextToken", "()V"⟩
abbrev cX8_nextToken : ByteArray := prog_10_method_71_code
abbrev mX8_nextToken : MR := (yX8_nextToken, cX8_nextToken, 2, none)
abbrev yX8_has3 : MethodName := ⟨RX8, "has3", "(IIII)Z"⟩
abbrev cX8_has3 : ByteArray := prog_10_method_72_code
abbrev mX8_has3 : MR := (yX8_has3, cX8_has3, 5, (some .boolean))
abbrev yX8_isWord : MethodName := ⟨RX8, "isWord", "(I)Z"⟩
abbrev cX8_isWord : ByteArray := prog_10_method_73_code
abbrev mX8_isWord : MR := (yX8_isWord, cX8_isWord, 2, (some .boolean))
abbrev yX8_fails : MethodName := ⟨RX8, "fails", "()Z"⟩
abbrev cX8_fails : ByteArray := prog_10_method_74_code
abbrev mX8_fails : MR := (yX8_fails, cX8_fails, 1, (some .boolean))
abbrev yX8_isFour : MethodName := ⟨RX8, "isFour", "(IIII)Z"⟩
abbrev cX8_isFour : ByteArray := prog_10_method_75_code
abbrev mX8_isFour : MR := (yX8_isFour, cX8_isFour, 5, (some .boolean))
abbrev yX8_isFive : MethodName := ⟨RX8, "isFive", "(IIIII)Z"⟩
abbrev cX8_isFive : ByteArray := prog_10_method_76_code
abbrev mX8_isFive : MR := (yX8_isFive, cX8_isFive, 6, (some .boolean))
abbrev yX8_isSix : MethodName := ⟨RX8, "isSix", "(IIIIII)Z"⟩
abbrev cX8_isSix : ByteArray := prog_10_method_77_code
abbrev mX8_isSix : MR := (yX8_isSix, cX8_isSix, 7, (some .boolean))
abbrev yX8_isNumber : MethodName := ⟨RX8, "isNumber", "(II)Z"⟩
abbrev cX8_isNumber : ByteArray := prog_10_method_78_code
abbrev mX8_isNumber : MR := (yX8_isNumber, cX8_isNumber, 3, (some .boolean))
abbrev yX8_kindHere : MethodName := ⟨RX8, "kindHere", "()I"⟩
abbrev cX8_kindHere : ByteArray := prog_10_method_79_code
abbrev mX8_kindHere : MR := (yX8_kindHere, cX8_kindHere, 1, (some .int))
abbrev yX8_isTwo : MethodName := ⟨RX8, "isTwo", "(II)Z"⟩
abbrev cX8_isTwo : ByteArray := prog_10_method_80_code
abbrev mX8_isTwo : MR := (yX8_isTwo, cX8_isTwo, 3, (some .boolean))
abbrev yX8_perhaps : MethodName := ⟨RX8, "perhaps", "(ZI)Z"⟩
abbrev cX8_perhaps : ByteArray := prog_10_method_81_code
abbrev mX8_perhaps : MR := (yX8_perhaps, cX8_perhaps, 3, (some .boolean))
abbrev yX8_umbrellaHere : MethodName := ⟨RX8, "umbrellaHere", "(I)Z"⟩
abbrev cX8_umbrellaHere : ByteArray := prog_10_method_82_code
abbrev mX8_umbrellaHere : MR := (yX8_umbrellaHere, cX8_umbrellaHere, 2, (some .boolean))
abbrev yX8_stepHere : MethodName := ⟨RX8, "stepHere", "(I)Z"⟩
abbrev cX8_stepHere : ByteArray := prog_10_method_83_code
abbrev mX8_stepHere : MR := (yX8_stepHere, cX8_stepHere, 3, (some .boolean))
abbrev yX8_roofHere : MethodName := ⟨RX8, "roofHere", "(I)Z"⟩
abbrev cX8_roofHere : ByteArray := prog_10_method_84_code
abbrev mX8_roofHere : MR := (yX8_roofHere, cX8_roofHere, 2, (some .boolean))
abbrev yX8_weatherHere : MethodName := ⟨RX8, "weatherHere", "(I)Z"⟩
abbrev cX8_weatherHere : ByteArray := prog_10_method_85_code
abbrev mX8_weatherHere : MR := (yX8_weatherHere, cX8_weatherHere, 2, (some .boolean))
abbrev yX8_streetHere : MethodName := ⟨RX8, "streetHere", "()Z"⟩
abbrev cX8_streetHere : ByteArray := prog_10_method_86_code
abbrev mX8_streetHere : MR := (yX8_streetHere, cX8_streetHere, 1, (some .boolean))
abbrev yX8_text : MethodName := ⟨RX8, "text", "()I"⟩
abbrev cX8_text : ByteArray := prog_10_method_87_code
abbrev mX8_text : MR := (yX8_text, cX8_text, 5, (some .int))
abbrev yX8_hold : MethodName := ⟨RX8, "hold", "(II)I"⟩
abbrev cX8_hold : ByteArray := prog_10_method_88_code
abbrev mX8_hold : MR := (yX8_hold, cX8_hold, 3, (some .int))
abbrev yX8_isUnder : MethodName := ⟨RX8, "isUnder", "(II)Z"⟩
abbrev cX8_isUnder : ByteArray := prog_10_method_89_code
abbrev mX8_isUnder : MR := (yX8_isUnder, cX8_isUnder, 2, (some .boolean))
abbrev yX8_as : MethodName := ⟨RX8, "as", "(II)I"⟩
abbrev cX8_as : ByteArray := prog_10_method_90_code
abbrev mX8_as : MR := (yX8_as, cX8_as, 4, (some .int))
abbrev yX8_isSheet : MethodName := ⟨RX8, "isSheet", "(I)Z"⟩
abbrev cX8_isSheet : ByteArray := prog_10_method_91_code
abbrev mX8_isSheet : MR := (yX8_isSheet, cX8_isSheet, 1, (some .boolean))
abbrev yX8_sheet : MethodName := ⟨RX8, "sheet", "(III)I"⟩
abbrev cX8_sheet : ByteArray := prog_10_method_92_code
abbrev mX8_sheet : MR := (yX8_sheet, cX8_sheet, 5, (some .int))
abbrev yX8_write : MethodName := ⟨RX8, "write", "(III)I"⟩
abbrev cX8_write : ByteArray := prog_10_method_93_code
abbrev mX8_write : MR := (yX8_write, cX8_write, 4, (some .int))
abbrev yX8_copy : MethodName := ⟨RX8, "copy", "(IIIII)I"⟩
abbrev cX8_copy : ByteArray := prog_10_method_94_code
abbrev mX8_copy : MR := (yX8_copy, cX8_copy, 10, (some .int))
abbrev yX8_wants : MethodName := ⟨RX8, "wants", "(I)I"⟩
abbrev cX8_wants : ByteArray := prog_10_method_95_code
abbrev mX8_wants : MR := (yX8_wants, cX8_wants, 2, (some .int))
abbrev yX8_load : MethodName := ⟨RX8, "load", "(I)I"⟩
abbrev cX8_load : ByteArray := prog_10_method_96_code
abbrev mX8_load : MR := (yX8_load, cX8_load, 3, (some .int))
abbrev yX8_judge : MethodName := ⟨RX8, "judge", "(I)I"⟩
abbrev cX8_judge : ByteArray := prog_10_method_97_code
abbrev mX8_judge : MR := (yX8_judge, cX8_judge, 3, (some .int))
abbrev yX8_image : MethodName := ⟨RX8, "image", "()I"⟩
abbrev cX8_image : ByteArray := prog_10_method_98_code
abbrev mX8_image : MR := (yX8_image, cX8_image, 1, (some .int))
abbrev yX8_undo : MethodName := ⟨RX8, "undo", "()I"⟩
abbrev cX8_undo : ByteArray := prog_10_method_99_code
abbrev mX8_undo : MR := (yX8_undo, cX8_undo, 1, (some .int))
abbrev yX8_tear : MethodName := ⟨RX8, "tear", "()I"⟩
abbrev cX8_tear : ByteArray := prog_10_method_100_code
abbrev mX8_tear : MR := (yX8_tear, cX8_tear, 2, (some .int))
abbrev yX8_count : MethodName := ⟨RX8, "count", "(I)I"⟩
abbrev cX8_count : ByteArray := prog_10_method_101_code
abbrev mX8_count : MR := (yX8_count, cX8_count, 4, (some .int))
abbrev yX8_status : MethodName := ⟨RX8, "status", "(I)I"⟩
abbrev cX8_status : ByteArray := prog_10_method_102_code
abbrev mX8_status : MR := (yX8_status, cX8_status, 2, (some .int))
abbrev yJ6_bitCount_0f7a4 : MethodName := ⟨RJ6, "bitCount", "(I)I"⟩
abbrev cJ6_bitCount_0f7a4 : ByteArray := prog_11_method_49_code
abbrev mJ6_bitCount_0f7a4 : MR := (yJ6_bitCount_0f7a4, cJ6_bitCount_0f7a4, 1, (some .int))
abbrev yJ9_max_7cf53 : MethodName := ⟨RJ9, "max", "(II)I"⟩
abbrev cJ9_max_7cf53 : ByteArray := prog_12_method_65_code
abbrev mJ9_max_7cf53 : MR := (yJ9_max_7cf53, cJ9_max_7cf53, 2, (some .int))
abbrev yJ9_min_7cf53 : MethodName := ⟨RJ9, "min", "(II)I"⟩
abbrev cJ9_min_7cf53 : ByteArray := prog_12_method_69_code
abbrev mJ9_min_7cf53 : MR := (yJ9_min_7cf53, cJ9_min_7cf53, 2, (some .int))
abbrev yJ0_length_8abf5 : MethodName := ⟨RJ0, "length", "()I"⟩
abbrev cJ0_length_8abf5 : ByteArray := prog_13_method_54_code
abbrev mJ0_length_8abf5 : MR := (yJ0_length_8abf5, cJ0_length_8abf5, 1, (some .int))
abbrev yJ0_charAt_5068e : MethodName := ⟨RJ0, "charAt", "(I)C"⟩
abbrev cJ0_charAt_5068e : ByteArray := prog_13_method_56_code
abbrev mJ0_charAt_5068e : MR := (yJ0_charAt_5068e, cJ0_charAt_5068e, 2, (some .char))
abbrev yJ0_coder_7d493 : MethodName := ⟨RJ0, "coder", "()B"⟩
abbrev cJ0_coder_7d493 : ByteArray := prog_13_method_152_code
abbrev mJ0_coder_7d493 : MR := (yJ0_coder_7d493, cJ0_coder_7d493, 1, (some .byte))
abbrev yJ0_isLatin1_aae02 : MethodName := ⟨RJ0, "isLatin1", "()Z"⟩
abbrev cJ0_isLatin1_aae02 : ByteArray := prog_13_method_154_code
abbrev mJ0_isLatin1_aae02 : MR := (yJ0_isLatin1_aae02, cJ0_isLatin1_aae02, 1, (some .boolean))
abbrev yJ0_checkIndex_df160 : MethodName := ⟨RJ0, "checkIndex", "(II)V"⟩
abbrev cJ0_checkIndex_df160 : ByteArray := prog_13_method_155_code
abbrev mJ0_checkIndex_df160 : MR := (yJ0_checkIndex_df160, cJ0_checkIndex_df160, 2, none)
abbrev yJ1_charAt_3b067 : MethodName := ⟨RJ1, "charAt", "([BI)C"⟩
abbrev cJ1_charAt_3b067 : ByteArray := prog_14_method_2_code
abbrev mJ1_charAt_3b067 : MR := (yJ1_charAt_3b067, cJ1_charAt_3b067, 2, (some .char))
abbrev yJ2_getChar_3b067 : MethodName := ⟨RJ2, "getChar", "([BI)C"⟩
abbrev cJ2_getChar_3b067 : ByteArray := prog_15_method_5_code
abbrev mJ2_getChar_3b067 : MR := (yJ2_getChar_3b067, cJ2_getChar_3b067, 2, (some .char))
abbrev yJ2_length_9d52b : MethodName := ⟨RJ2, "length", "([B)I"⟩
abbrev cJ2_length_9d52b : ByteArray := prog_15_method_6_code
abbrev mJ2_length_9d52b : MR := (yJ2_length_9d52b, cJ2_length_9d52b, 1, (some .int))
abbrev yJ2_charAt_3b067 : MethodName := ⟨RJ2, "charAt", "([BI)C"⟩
abbrev cJ2_charAt_3b067 : ByteArray := prog_15_method_83_code
abbrev mJ2_charAt_3b067 : MR := (yJ2_charAt_3b067, cJ2_charAt_3b067, 2, (some .char))
abbrev yJ2_checkIndex_2214a : MethodName := ⟨RJ2, "checkIndex", "(I[B)V"⟩
abbrev cJ2_checkIndex_2214a : ByteArray := prog_15_method_91_code
abbrev mJ2_checkIndex_2214a : MR := (yJ2_checkIndex_2214a, cJ2_checkIndex_2214a, 2, none)
abbrev yJ7_fill_53178 : MethodName := ⟨RJ7, "fill", "([II)V"⟩
abbrev cJ7_fill_53178 : ByteArray := prog_17_method_103_code
abbrev mJ7_fill_53178 : MR := (yJ7_fill_53178, cJ7_fill_53178, 4, none)
abbrev yJ3_checkIndex_8e157 : MethodName := ⟨RJ3, "checkIndex", "(IILjava/util/function/BiFunction;)I"⟩
abbrev cJ3_checkIndex_8e157 : ByteArray := prog_18_method_11_code
abbrev mJ3_checkIndex_8e157 : MR := (yJ3_checkIndex_8e157, cJ3_checkIndex_8e157, 3, (some .int))
end
section
/-! the words that a method's contract takes along: all that stay true -/
def lwg : List Cond := lw_tbl.filter goodWord
theorem tG {w : Cond} (i : Nat) (h : tables_1[i]? = some w) (hg : goodWord w = true) : w ∈ lwg := List.mem_filter.mpr ⟨List.mem_append_right _ (List.mem_of_getElem? h), hg⟩
theorem tP {w : Cond} (i : Nat) (h : (k2_sels lw_privs)[i]? = some w) (hg : goodWord w = true) : w ∈ lwg := List.mem_filter.mpr ⟨List.mem_append_left _ (List.mem_of_getElem? h), hg⟩
theorem lwg_good {big : List Cond} (h : ∀ w ∈ lwg, w ∈ big) : GoodIn big lwg := fun w hw => ⟨h w hw, good_of_word (List.mem_filter.mp hw).2⟩
abbrev wM (M : MR) : List Cond := Cond.code M.1 M.2.1 M.2.2.1 M.2.2.2 :: lwg
theorem wM_good {M : MR} (h : Cond.code M.1 M.2.1 M.2.2.1 M.2.2.2 ∈ lwg) : GoodIn lwg (wM M) := fun w hw => by
  rcases List.mem_cons.mp hw with e | e
  · rw [e]; exact ⟨h, good_of_word (List.mem_filter.mp h).2⟩
  · exact ⟨e, good_of_word (List.mem_filter.mp e).2⟩
/-! the picture of the heap: a table of shapes, and a number for each place of each cell -/
/-- classes and slots; the classes of arrays (0 int, 1 Sheet, 2 Umbrella); the first cell's address; the String constants and their bytes; GREATEST, KIND_ABOVE -/
abbrev GG : Type := va_G × (Nat → ClassId) × Nat × (Nat → Nat) × (Nat → Nat) × Nat × Nat
abbrev Sg : Type := Nat → Nat → Int32
/-- an object: its class, its fields (none: a number; some none: null; some (some j): cell j); an int array: its length; an array of references: its class's number, its cells -/
abbrev Sh : Type := (Nat × List (Option (Option Nat))) ⊕ (Nat ⊕ (Nat × List (Option Nat)))
def ad (G : GG) (k : Nat) : Nat := G.2.2.1 + k
def AA (G : GG) : Nat → Prop := fun q => G.2.2.1 ≤ q
def fv (G : GG) (f : Nat → Int32) (i : Nat) : Option (Option Nat) → Value
  | none => .int (f i)
  | some none => .null
  | some (some j) => .ref (ad G j)
def vl (G : GG) (f : Nat → Int32) (fs : List (Option (Option Nat))) : List Value := fs.mapIdx (fun i x => fv G f i x)
def ce (G : GG) (f : Nat → Int32) : Sh → va_E
  | .inl (ci, fs) => .inr (ci, vl G f fs)
  | .inr (.inl n) => .inl (G.2.1 0, n, .inl f)
  | .inr (.inr (c, js)) => .inl (G.2.1 c, js.length, .inr (.inr (.inr (.inr (fun i => ((js[i]?).getD none).map (ad G))))))
def wl (G : GG) (T : List Sh) (σ : Sg) : va_W := T.mapIdx (fun k sh => (ad G k, ce G (σ k) sh))
def Pic (G : GG) (T : List Sh) (σ : Sg) (H : Heap) : Prop := va_P G.1 vwCl (wl G T σ) H
/-- one number changes -/
def st2 (σ : Sg) (k i : Nat) (v : Int32) : Sg := fun a b => if a = k then (if b = i then v else σ a b) else σ a b
theorem st2_eq (σ : Sg) (k i : Nat) (v : Int32) : va_up σ k (upd (σ k) i v) = st2 σ k i v := by
  funext a b
  simp only [va_up, upd, st2]
  by_cases h : a = k
  · subst h; simp [upd]
  · simp [h]
theorem wl_at {G : GG} {T : List Sh} {σ : Sg} {k : Nat} {sh : Sh} (h : T[k]? = some sh) : (wl G T σ)[k]? = some (ad G k, ce G (σ k) sh) := by
  simp [wl, List.getElem?_mapIdx, h]
theorem wl_of {G : GG} {T : List Sh} {σ : Sg} {k : Nat} {q : Nat × va_E} (h : (wl G T σ)[k]? = some q) : q.1 = ad G k := by
  simp only [wl, List.getElem?_mapIdx] at h
  cases hT : T[k]? with
  | none => rw [hT] at h; cases h
  | some sh => rw [hT] at h; cases h; rfl
theorem wl_D {G : GG} {T : List Sh} {σ : Sg} : va_D (AA G) (wl G T σ) := by
  refine ⟨fun i j p q hi hj e => ?_, fun k q hk => ?_⟩
  · rw [wl_of hi, wl_of hj] at e
    simp only [ad] at e
    omega
  · rw [wl_of hk]; exact Nat.le_add_right _ _
theorem wl_len {G : GG} {T : List Sh} {σ : Sg} : (wl G T σ).length = T.length := by simp [wl]
theorem wl_set {G : GG} {T : List Sh} {σ : Sg} {k : Nat} {sh : Sh} (h : T[k]? = some sh) (f : Nat → Int32) : (wl G T σ).set k (ad G k, ce G f sh) = wl G T (va_up σ k f) := by
  have hl := (List.getElem?_eq_some_iff.mp h).1
  refine List.ext_getElem? fun j => ?_
  by_cases hj : j = k
  · subst hj
    rw [List.getElem?_set_self (by rw [wl_len]; exact hl), wl_at h]
    simp [va_up]
  · rw [List.getElem?_set_ne (Ne.symm hj)]
    simp only [wl, List.getElem?_mapIdx, va_up, if_neg hj]
theorem vl_at {G : GG} {f : Nat → Int32} {fs : List (Option (Option Nat))} {i : Nat} {x : Option (Option Nat)} (h : fs[i]? = some x) : (vl G f fs)[i]? = some (fv G f i x) := by
  simp [vl, List.getElem?_mapIdx, h]
theorem vl_set {G : GG} {f : Nat → Int32} {fs : List (Option (Option Nat))} {i : Nat} (h : fs[i]? = some none) (v : Int32) : (vl G f fs).set i (.int v) = vl G (upd f i v) fs := by
  have hl := (List.getElem?_eq_some_iff.mp h).1
  refine List.ext_getElem? fun j => ?_
  by_cases hj : j = i
  · subst hj
    rw [List.getElem?_set_self (by simp [vl]; exact hl), vl_at h]
    simp [fv, upd]
  · rw [List.getElem?_set_ne (Ne.symm hj)]
    simp only [vl, List.getElem?_mapIdx]
    cases fs[j]? with
    | none => rfl
    | some x =>
      cases x with
      | none => simp [fv, upd, hj]
      | some y => cases y <;> simp [fv]
/-! the locals: a list, place by place -/
def lo (ls : Array Slot) (nL : Nat) (L : List (Option Value)) : Prop := ls.size = nL ∧ lv_wf ls ∧ ∀ (i : Nat) (v : Value), L[i]? = some (some v) → ls[i]? = some (.val v)
def al (L : List (Option Value)) : List (Nat × Value) := (List.range L.length).filterMap (fun i => ((L[i]?).getD none).map (fun v => (i, v)))
theorem al_mem {L : List (Option Value)} {i : Nat} {v : Value} : (i, v) ∈ al L ↔ L[i]? = some (some v) := by
  simp only [al, List.mem_filterMap, List.mem_range]
  constructor
  · rintro ⟨j, hj, h⟩
    cases hL : L[j]? with
    | none => rw [hL] at h; cases h
    | some o =>
      cases o with
      | none => rw [hL] at h; cases h
      | some w => rw [hL] at h; cases h; exact hL
  · intro h
    exact ⟨i, (List.getElem?_eq_some_iff.mp h).1, by rw [h]; rfl⟩
theorem lo_has {ls : Array Slot} {nL : Nat} {L : List (Option Value)} (h : lo ls nL L) : lv_has ls nL (al L) := ⟨h.1, h.2.1, fun q hq => h.2.2 q.1 q.2 (al_mem.mp hq)⟩
/-- not a long -/
def nl1 : Option (Option Value) → Bool
  | some (some (.long _)) => false
  | some (some (.double _)) => false
  | _ => true
theorem nl1_cat {x : Option (Option Value)} {v : Value} (h : nl1 x = true) (hx : x = some (some v)) : ¬ v.category = 2 := by
  subst hx
  cases v <;> simp_all [nl1, Value.category]
theorem lo_set1 {ls ls' : Array Slot} {nL i : Nat} {v : Value} {L : List (Option Value)} (h' : lv_has ls' nL ((i, v) :: (al L).filter (fun q => !(q.1 == i) && !(q.1 + 1 == i && q.2.category == 2)))) (hp : ∀ j, j + 1 = i → nl1 L[j]? = true) : lo ls' nL (L.set i (some v)) := by
  refine ⟨h'.1, h'.2.1, fun j w hj => ?_⟩
  by_cases e : j = i
  · subst e
    have hl : j < L.length := by
      rcases Nat.lt_or_ge j L.length with q | q
      · exact q
      · rw [List.getElem?_eq_none (by simp; exact q)] at hj; cases hj
    rw [List.getElem?_set_self hl] at hj
    cases hj
    exact h'.2.2 (j, v) List.mem_cons_self
  · rw [List.getElem?_set_ne (Ne.symm e)] at hj
    refine h'.2.2 (j, w) (List.mem_cons_of_mem _ (List.mem_filter.mpr ⟨al_mem.mpr hj, ?_⟩))
    by_cases e2 : j + 1 = i
    · have := nl1_cat (hp j e2) hj
      simp [e, this]
    · simp [e, e2]
theorem lo_set2 {ls ls' : Array Slot} {nL i : Nat} {v : Value} {L : List (Option Value)} (h' : lv_has ls' nL ((i, v) :: (al L).filter (fun q => !(q.1 == i) && (!(q.1 == i + 1) && !(q.1 + 1 == i && q.2.category == 2))))) (hp : ∀ j, j + 1 = i → nl1 L[j]? = true) : lo ls' nL ((L.set i (some v)).set (i + 1) none) := by
  refine ⟨h'.1, h'.2.1, fun j w hj => ?_⟩
  by_cases e1 : j = i + 1
  · subst e1
    rcases Nat.lt_or_ge (i + 1) L.length with q | q
    · rw [List.getElem?_set_self (by simp; exact q)] at hj; cases hj
    · rw [List.getElem?_eq_none (by simp; exact q)] at hj; cases hj
  rw [List.getElem?_set_ne (Ne.symm e1)] at hj
  by_cases e : j = i
  · subst e
    have hl : j < L.length := by
      rcases Nat.lt_or_ge j L.length with q | q
      · exact q
      · rw [List.getElem?_eq_none (by simp; exact q)] at hj; cases hj
    rw [List.getElem?_set_self hl] at hj
    cases hj
    exact h'.2.2 (j, v) List.mem_cons_self
  · rw [List.getElem?_set_ne (Ne.symm e)] at hj
    refine h'.2.2 (j, w) (List.mem_cons_of_mem _ (List.mem_filter.mpr ⟨al_mem.mpr hj, ?_⟩))
    by_cases e2 : j + 1 = i
    · have := nl1_cat (hp j e2) hj
      simp [e, e1, this]
    · simp [e, e1, e2]
/-! what is known of the state beside the picture: classes, statics, String constants, links of nest mates -/
def tyL (G : GG) : List (ClassId × FieldType) := [(G.2.1 0, .int), (G.2.1 1, .object "InsideOut$Sheet"), (G.2.1 2, .object "InsideOut$Umbrella")]
def gT : Nat → Value := fun j => .int (([6, 16, 3, 3, 8, 1, 999, 99999] : List Int32).getD j 0)
def kT : Nat → Value := fun j => .int (([-1, 0, 0, 2, 3, 0, 1] : List Int32).getD j 0)
def sN : List (Nat × String) := [(156, "big"), (158, "small"), (160, "bent"), (162, "binned"), (164, "paper"), (166, "golf"), (168, "umbrella"), (87, "at"), (93, "ribs"), (95, "held"), (97, "habit"), (170, "left"), (172, "right"), (174, "below"), (60, "roof"), (65, "open"), (67, "rain"), (73, "gust")]
def sL : List Nat := [3, 5, 4, 6, 5, 4, 8, 2, 4, 4, 5, 4, 5, 5, 4, 4, 4, 4]
def sB : List (List Int32) := [[98, 105, 103], [115, 109, 97, 108, 108], [98, 101, 110, 116], [98, 105, 110, 110, 101, 100], [112, 97, 112, 101, 114], [103, 111, 108, 102], [117, 109, 98, 114, 101, 108, 108, 97], [97, 116], [114, 105, 98, 115], [104, 101, 108, 100], [104, 97, 98, 105, 116], [108, 101, 102, 116], [114, 105, 103, 104, 116], [98, 101, 108, 111, 119], [114, 111, 111, 102], [111, 112, 101, 110], [114, 97, 105, 110], [103, 117, 115, 116]]
def nW : List Cond := [.methodLinkNest "InsideOut$World" 35 yX4_init "InsideOut", .methodLinkNest "InsideOut" 28 yX5_init "InsideOut", .methodLinkNest "InsideOut$Walk" 20 yX4_init "InsideOut", .methodLinkNest "InsideOut" 35 yX3_init "InsideOut", .methodLinkNest "InsideOut" 59 yX1_init "InsideOut", .methodLinkNest "InsideOut$Street" 43 yX7_isStep "InsideOut", .methodLinkNest "InsideOut$Umbrella" 53 yX7_isStep "InsideOut", .methodLinkNest "InsideOut$Walk" 32 yX7_isStep "InsideOut", .methodLinkNest "InsideOut$Reader" 112 yX7_isStep "InsideOut", .fieldLinkNest "InsideOut$Umbrella" 88 "InsideOut" "GREATEST" "[I" "InsideOut", .fieldLinkNest "InsideOut$Reader" 99 "InsideOut" "GREATEST" "[I" "InsideOut"]
def STA (G : GG) (U : State) (H : Heap) : Prop := va_Z "InsideOut" "GREATEST" "[I" (.ref G.2.2.2.2.2.1) (AA G) U H ∧ va_T .int G.2.2.2.2.2.1 8 gT (AA G) U H ∧ va_Z "InsideOut" "KIND_ABOVE" "[I" (.ref G.2.2.2.2.2.2) (AA G) U H ∧ va_T .int G.2.2.2.2.2.2 7 kT (AA G) U H ∧ vk_S 18 sL sB G.2.2.2.1 G.2.2.2.2.1 (AA G) U H ∧ va_Z "java/lang/String" "COMPACT_STRINGS" "Z" (.int 1) (AA G) U H ∧ va_Zq "jdk/internal/util/Preconditions" "SIOOBE_FORMATTER" "Ljava/util/function/BiFunction;" (AA G) U H
def SRS (G : GG) (U : State) : Prop := (∀ w ∈ nW, va_Nw w U) ∧ (∀ (i : Nat) (q : Nat × String), sN[i]? = some q → vk_R "InsideOut$Reader" q.1 q.2 (G.2.2.2.1 i) U) ∧ va_AO "InsideOut$Sheet" U ∧ va_AO "InsideOut$Umbrella" U
def KK (G : GG) (U : State) : Prop := va_K G.1 vwCl (tyL G) U ∧ STA G U U.heap ∧ SRS G U
theorem STA.moved {G : GG} {u U : State} {H : Heap} (hvm : u.vm.Alike U.vm) (h : STA G u H) : STA G U H := by
  obtain ⟨h1, h2, h3, h4, h5, h6, h7⟩ := h
  exact ⟨h1.moved hvm, h2.moved hvm, h3.moved hvm, h4.moved hvm, h5.moved hvm, h6.moved hvm, h7.moved hvm⟩
theorem STA.kept {G : GG} {U : State} {H H1 : Heap} (h : STA G U H) (hq : ∀ a : Nat, a < H.size → ¬ AA G a → H1[a]? = H[a]?) : STA G U H1 := by
  obtain ⟨h1, h2, h3, h4, h5, h6, h7⟩ := h
  exact ⟨h1.kept hq, h2.kept hq, h3.kept hq, h4.kept hq, h5.kept hq, h6.kept hq, h7.kept hq⟩
theorem nW_tab : ∀ w ∈ nW, w.onTables = true := by
  intro w hw
  simp only [nW, List.mem_cons, List.not_mem_nil, or_false] at hw
  rcases hw with rfl | rfl | rfl | rfl | rfl | rfl | rfl | rfl | rfl | rfl | rfl <;> rfl
theorem SRS.same {G : GG} {u U : State} (hv : u.vm = U.vm) (h : SRS G u) : SRS G U := by
  obtain ⟨h1, h2, h3, h4⟩ := h
  exact ⟨fun w hw => va_Nw.same (nW_tab w hw) hv (h1 w hw), fun i q hq => vk_R.same hv.symm (h2 i q hq), va_AO.moved (by rw [hv]; exact Vm.Alike.refl _) h3, va_AO.moved (by rw [hv]; exact Vm.Alike.refl _) h4⟩
theorem SRS.warm {G : GG} {s U : State} (hW : s.WarmedH U.vm) (h : SRS G s) : SRS G U := by
  obtain ⟨h1, h2, h3, h4⟩ := h
  refine ⟨fun w hw => ?_, fun i q hq => vk_R.warm hW (h2 i q hq), va_AO.moved hW.alike h3, va_AO.moved hW.alike h4⟩
  have h := h1 w hw
  simp only [nW, List.mem_cons, List.not_mem_nil, or_false] at hw
  rcases hw with rfl | rfl | rfl | rfl | rfl | rfl | rfl | rfl | rfl | rfl | rfl <;> first | exact va_Nw.warmM hW h | exact va_Nw.warmF hW h
/-- what a method of ours finds -/
def PRE (G : GG) (T : List Sh) (σ : Sg) (U : State) : Prop := Pic G T σ U.heap ∧ KK G U
theorem PRE.calling {G : GG} {T : List Sh} {σ : Sg} {U : State} {g : JFrame} {mk : MethodId} {a : Array Value} (h : PRE G T σ U) : PRE G T σ (U.calling g mk a) := by
  obtain ⟨h1, h2, h3, h4⟩ := h
  exact ⟨h1, va_K.moved (u := U) (U := U.calling g mk a) (Vm.Alike.refl U.vm) h2, STA.moved (u := U) (U := U.calling g mk a) (Vm.Alike.refl U.vm) h3, SRS.same (u := U) (U := U.calling g mk a) rfl h4⟩
theorem PRE.at {G : GG} {T : List Sh} {σ : Sg} {s U : State} {H : Heap} {locs : List Loc} (hK : KK G s) (hP : Pic G T σ H) (hS : va_S (AA G) s.heap H locs) (hU : U.heap = H) (hW : s.WarmedH U.vm) : PRE G T σ U := by
  obtain ⟨h2, h3, h4⟩ := hK
  refine ⟨by rw [hU]; exact hP, va_K.moved hW.alike h2, ?_, SRS.warm hW h4⟩
  rw [hU]
  exact (STA.moved hW.alike h3).kept hS.2.1
end
section
/-! the walk of a method, goal first, over the picture -/
abbrev CX : Type := Program × Launch × Env × Room × State × MethodId × Array Value × List Frame × Method × Code × Nat × Nat × (State → Prop)
abbrev xp (X : CX) : Program := X.1
abbrev xl (X : CX) : Launch := X.2.1
abbrev xe (X : CX) : Env := X.2.2.1
abbrev xR (X : CX) : Room := X.2.2.2.1
abbrev xs (X : CX) : State := X.2.2.2.2.1
abbrev xm (X : CX) : MethodId := X.2.2.2.2.2.1
abbrev xa (X : CX) : Array Value := X.2.2.2.2.2.2.1
abbrev xb (X : CX) : List Frame := X.2.2.2.2.2.2.2.1
abbrev xM (X : CX) : Method := X.2.2.2.2.2.2.2.2.1
abbrev xc (X : CX) : Code := X.2.2.2.2.2.2.2.2.2.1
abbrev xk (X : CX) : Nat := X.2.2.2.2.2.2.2.2.2.2.1
abbrev xn (X : CX) : Nat := X.2.2.2.2.2.2.2.2.2.2.2.1
abbrev xQ (X : CX) : State → Prop := X.2.2.2.2.2.2.2.2.2.2.2.2
def V (X : CX) (G : GG) (T : List Sh) (σ : Sg) (L : List (Option Value)) (st : List Value) (pc : Nat) : Prop :=
  ∀ (H : Heap) (locs : List Loc) (ls : Array Slot), Pic G T σ H → va_S (AA G) (xs X).heap H locs → lo ls (xc X).maxLocals L → W (xp X) (xl X) (xe X) (xR X) (xs X) (xm X) (xa X) (xb X) (xM X) (xc X) H locs (xk X) (xn X) (xQ X) (F0 (xm X) pc ls st)
/-- the body that is walked: its code, class, launch, the words, what is known, its room -/
def Bd (l : Launch) (X : CX) (G : GG) (b : ByteArray) (own : String) (nL D : Nat) : Prop := (xp X).tables.exec = Jvm.exec ∧ (xc X).code = b ∧ (xs X).vm.findClass own = some (xm X).cls ∧ (∀ w ∈ lwg, w.before (xa X) (xs X) = true) ∧ KK G (xs X) ∧ xl X = l ∧ (D ≤ (xR X).frames ∧ 37 * D ≤ (xR X).locals) ∧ xk X ≤ (xR X).cells ∧ xn X ≤ (xR X).slots ∧ (xc X).maxLocals = nL
theorem Bd.ml {l : Launch} {X : CX} {G : GG} {b : ByteArray} {own : String} {nL D : Nat} (B : Bd l X G b own nL D) : (xc X).maxLocals = nL := B.2.2.2.2.2.2.2.2.2
section RW
variable {l : Launch} {X : CX} {G : GG} {T : List Sh} {σ : Sg} {L : List (Option Value)} {st : List Value} {pc : Nat} {b : ByteArray} {own : String} {nL D : Nat}

theorem r_iconst (B : Bd l X G b own nL D) {n : Int} {x : Int32} (d : decode b pc = .ok (.iconst n, 1)) (hx : Int32.ofInt n = x) (k : V X G T σ L (.int x :: st) (pc + 1)) : V X G T σ L (st) pc := fun H locs ls hP hS hl => lv_iconst B.1 B.2.1 d hx (k H locs ls hP hS hl)
theorem r_bipush (B : Bd l X G b own nL D) {n : Int} {x : Int32} (d : decode b pc = .ok (.bipush n, 2)) (hx : (Int8.ofInt n).toInt32 = x) (k : V X G T σ L (.int x :: st) (pc + 2)) : V X G T σ L (st) pc := fun H locs ls hP hS hl => lv_bipush B.1 B.2.1 d hx (k H locs ls hP hS hl)
theorem r_sipush (B : Bd l X G b own nL D) {n : Int} {x : Int32} (d : decode b pc = .ok (.sipush n, 3)) (hx : (Int16.ofInt n).toInt32 = x) (k : V X G T σ L (.int x :: st) (pc + 3)) : V X G T σ L (st) pc := fun H locs ls hP hS hl => lv_sipush B.1 B.2.1 d hx (k H locs ls hP hS hl)
theorem r_lconst (B : Bd l X G b own nL D) {n : Fin 2} {x : Int64} (d : decode b pc = .ok (.lconst n, 1)) (hx : Int64.ofNat (n : Nat) = x) (k : V X G T σ L (.long x :: st) (pc + 1)) : V X G T σ L (st) pc := fun H locs ls hP hS hl => lv_lconst B.1 B.2.1 d hx (k H locs ls hP hS hl)
theorem r_ldc (B : Bd l X G b own nL D) {i : Nat} {x : Int32} (w : Cond.constant own i x ∈ lwg) (d : decode b pc = .ok (.ldc i, 2)) (k : V X G T σ L (.int x :: st) (pc + 2)) : V X G T σ L (st) pc := fun H locs ls hP hS hl => lv_ldc B.1 B.2.1 B.2.2.1 (B.2.2.2.1 _ w) d (k H locs ls hP hS hl)
theorem r_ldc_w (B : Bd l X G b own nL D) {i : Nat} {x : Int32} (w : Cond.constant own i x ∈ lwg) (d : decode b pc = .ok (.ldc_w i, 3)) (k : V X G T σ L (.int x :: st) (pc + 3)) : V X G T σ L (st) pc := fun H locs ls hP hS hl => lv_ldcw B.1 B.2.1 B.2.2.1 (B.2.2.2.1 _ w) d (k H locs ls hP hS hl)
theorem r_ldc2_w (B : Bd l X G b own nL D) {i : Nat} {x : Int64} (w : Cond.constantLong own i x ∈ lwg) (d : decode b pc = .ok (.ldc2_w i, 3)) (k : V X G T σ L (.long x :: st) (pc + 3)) : V X G T σ L (st) pc := fun H locs ls hP hS hl => lv_ldc2 B.1 B.2.1 B.2.2.1 (B.2.2.2.1 _ w) d (k H locs ls hP hS hl)
theorem r_iload_n (B : Bd l X G b own nL D) {n : Fin 4} {x : Int32} (d : decode b pc = .ok (.iload_n n, 1)) (hL : L[(n : Nat)]? = some (some (.int x))) (k : V X G T σ L (.int x :: st) (pc + 1)) : V X G T σ L (st) pc := fun H locs ls hP hS hl => lv_iload_n B.1 B.2.1 d rfl (hl.2.2 _ _ hL) (k H locs ls hP hS hl)
theorem r_iload (B : Bd l X G b own nL D) {n : Nat} {x : Int32} (d : decode b pc = .ok (.iload n, 2)) (hL : L[n]? = some (some (.int x))) (k : V X G T σ L (.int x :: st) (pc + 2)) : V X G T σ L (st) pc := fun H locs ls hP hS hl => lv_iload B.1 B.2.1 d (hl.2.2 _ _ hL) (k H locs ls hP hS hl)
theorem r_lload_n (B : Bd l X G b own nL D) {n : Fin 4} {x : Int64} (d : decode b pc = .ok (.lload_n n, 1)) (hL : L[(n : Nat)]? = some (some (.long x))) (k : V X G T σ L (.long x :: st) (pc + 1)) : V X G T σ L (st) pc := fun H locs ls hP hS hl => lv_lload_n B.1 B.2.1 d rfl (hl.2.2 _ _ hL) (k H locs ls hP hS hl)
theorem r_lload (B : Bd l X G b own nL D) {n : Nat} {x : Int64} (d : decode b pc = .ok (.lload n, 2)) (hL : L[n]? = some (some (.long x))) (k : V X G T σ L (.long x :: st) (pc + 2)) : V X G T σ L (st) pc := fun H locs ls hP hS hl => lv_lload B.1 B.2.1 d (hl.2.2 _ _ hL) (k H locs ls hP hS hl)
theorem r_aload_n (B : Bd l X G b own nL D) {n : Fin 4} {x : Nat} (d : decode b pc = .ok (.aload_n n, 1)) (hL : L[(n : Nat)]? = some (some (.ref x))) (k : V X G T σ L (.ref x :: st) (pc + 1)) : V X G T σ L (st) pc := fun H locs ls hP hS hl => lv_aload_n B.1 B.2.1 d rfl (hl.2.2 _ _ hL) (k H locs ls hP hS hl)
theorem r_aload (B : Bd l X G b own nL D) {n : Nat} {x : Nat} (d : decode b pc = .ok (.aload n, 2)) (hL : L[n]? = some (some (.ref x))) (k : V X G T σ L (.ref x :: st) (pc + 2)) : V X G T σ L (st) pc := fun H locs ls hP hS hl => lv_aload B.1 B.2.1 d (hl.2.2 _ _ hL) (k H locs ls hP hS hl)
theorem r_iadd (B : Bd l X G b own nL D) {x y : Int32} (d : decode b pc = .ok (.iadd, 1)) (k : V X G T σ L (.int (x + y) :: st) (pc + 1)) : V X G T σ L (.int y :: .int x :: st) pc := fun H locs ls hP hS hl => lv_iadd B.1 B.2.1 d  (k H locs ls hP hS hl)
theorem r_isub (B : Bd l X G b own nL D) {x y : Int32} (d : decode b pc = .ok (.isub, 1)) (k : V X G T σ L (.int (x - y) :: st) (pc + 1)) : V X G T σ L (.int y :: .int x :: st) pc := fun H locs ls hP hS hl => lv_isub B.1 B.2.1 d  (k H locs ls hP hS hl)
theorem r_imul (B : Bd l X G b own nL D) {x y : Int32} (d : decode b pc = .ok (.imul, 1)) (k : V X G T σ L (.int (x * y) :: st) (pc + 1)) : V X G T σ L (.int y :: .int x :: st) pc := fun H locs ls hP hS hl => lv_imul B.1 B.2.1 d  (k H locs ls hP hS hl)
theorem r_iand (B : Bd l X G b own nL D) {x y : Int32} (d : decode b pc = .ok (.iand, 1)) (k : V X G T σ L (.int (x &&& y) :: st) (pc + 1)) : V X G T σ L (.int y :: .int x :: st) pc := fun H locs ls hP hS hl => lv_iand B.1 B.2.1 d  (k H locs ls hP hS hl)
theorem r_ior (B : Bd l X G b own nL D) {x y : Int32} (d : decode b pc = .ok (.ior, 1)) (k : V X G T σ L (.int (x ||| y) :: st) (pc + 1)) : V X G T σ L (.int y :: .int x :: st) pc := fun H locs ls hP hS hl => lv_ior B.1 B.2.1 d  (k H locs ls hP hS hl)
theorem r_ixor (B : Bd l X G b own nL D) {x y : Int32} (d : decode b pc = .ok (.ixor, 1)) (k : V X G T σ L (.int (x ^^^ y) :: st) (pc + 1)) : V X G T σ L (.int y :: .int x :: st) pc := fun H locs ls hP hS hl => lv_ixor B.1 B.2.1 d  (k H locs ls hP hS hl)
theorem r_ishl (B : Bd l X G b own nL D) {x y : Int32} (d : decode b pc = .ok (.ishl, 1)) (k : V X G T σ L (.int (x <<< (y &&& 31)) :: st) (pc + 1)) : V X G T σ L (.int y :: .int x :: st) pc := fun H locs ls hP hS hl => lv_ishl B.1 B.2.1 d  (k H locs ls hP hS hl)
theorem r_ishr (B : Bd l X G b own nL D) {x y : Int32} (d : decode b pc = .ok (.ishr, 1)) (k : V X G T σ L (.int (x >>> (y &&& 31)) :: st) (pc + 1)) : V X G T σ L (.int y :: .int x :: st) pc := fun H locs ls hP hS hl => lv_ishr B.1 B.2.1 d  (k H locs ls hP hS hl)
theorem r_ladd (B : Bd l X G b own nL D) {x y : Int64} (d : decode b pc = .ok (.ladd, 1)) (k : V X G T σ L (.long (x + y) :: st) (pc + 1)) : V X G T σ L (.long y :: .long x :: st) pc := fun H locs ls hP hS hl => lv_ladd B.1 B.2.1 d  (k H locs ls hP hS hl)
theorem r_lsub (B : Bd l X G b own nL D) {x y : Int64} (d : decode b pc = .ok (.lsub, 1)) (k : V X G T σ L (.long (x - y) :: st) (pc + 1)) : V X G T σ L (.long y :: .long x :: st) pc := fun H locs ls hP hS hl => lv_lsub B.1 B.2.1 d  (k H locs ls hP hS hl)
theorem r_lmul (B : Bd l X G b own nL D) {x y : Int64} (d : decode b pc = .ok (.lmul, 1)) (k : V X G T σ L (.long (x * y) :: st) (pc + 1)) : V X G T σ L (.long y :: .long x :: st) pc := fun H locs ls hP hS hl => lv_lmul B.1 B.2.1 d  (k H locs ls hP hS hl)
theorem r_idiv (B : Bd l X G b own nL D) {x y : Int32} (hne : ¬ y = 0) (d : decode b pc = .ok (.idiv, 1)) (k : V X G T σ L (.int (x / y) :: st) (pc + 1)) : V X G T σ L (.int y :: .int x :: st) pc := fun H locs ls hP hS hl => lv_idiv B.1 B.2.1 d hne (k H locs ls hP hS hl)
theorem r_irem (B : Bd l X G b own nL D) {x y : Int32} (hne : ¬ y = 0) (d : decode b pc = .ok (.irem, 1)) (k : V X G T σ L (.int (x - x / y * y) :: st) (pc + 1)) : V X G T σ L (.int y :: .int x :: st) pc := fun H locs ls hP hS hl => lv_irem B.1 B.2.1 d hne (k H locs ls hP hS hl)
theorem r_ldiv (B : Bd l X G b own nL D) {x y : Int64} (hne : ¬ y = 0) (d : decode b pc = .ok (.ldiv, 1)) (k : V X G T σ L (.long (x / y) :: st) (pc + 1)) : V X G T σ L (.long y :: .long x :: st) pc := fun H locs ls hP hS hl => lv_ldiv B.1 B.2.1 d hne (k H locs ls hP hS hl)
theorem r_lrem (B : Bd l X G b own nL D) {x y : Int64} (hne : ¬ y = 0) (d : decode b pc = .ok (.lrem, 1)) (k : V X G T σ L (.long (x - x / y * y) :: st) (pc + 1)) : V X G T σ L (.long y :: .long x :: st) pc := fun H locs ls hP hS hl => lv_lrem B.1 B.2.1 d hne (k H locs ls hP hS hl)
theorem r_iushr (B : Bd l X G b own nL D) {x y : Int32} (d : decode b pc = .ok (.iushr, 1)) (k : V X G T σ L (.int (x.toUInt32 >>> (y.toUInt32 &&& Int32.toUInt32 31)).toInt32 :: st) (pc + 1)) : V X G T σ L (.int y :: .int x :: st) pc := fun H locs ls hP hS hl => lv_iushr B.1 B.2.1 d rfl (k H locs ls hP hS hl)
theorem r_i2l (B : Bd l X G b own nL D) {x : Int32} (d : decode b pc = .ok (.i2l, 1)) (k : V X G T σ L (.long x.toInt64 :: st) (pc + 1)) : V X G T σ L (.int x :: st) pc := fun H locs ls hP hS hl => lv_i2l B.1 B.2.1 d rfl (k H locs ls hP hS hl)
theorem r_i2b (B : Bd l X G b own nL D) {x : Int32} (d : decode b pc = .ok (.i2b, 1)) (k : V X G T σ L (.int x.toInt8.toInt32 :: st) (pc + 1)) : V X G T σ L (.int x :: st) pc := fun H locs ls hP hS hl => lv_i2b B.1 B.2.1 d rfl (k H locs ls hP hS hl)
theorem r_i2s (B : Bd l X G b own nL D) {x : Int32} (d : decode b pc = .ok (.i2s, 1)) (k : V X G T σ L (.int x.toInt16.toInt32 :: st) (pc + 1)) : V X G T σ L (.int x :: st) pc := fun H locs ls hP hS hl => lv_i2s B.1 B.2.1 d rfl (k H locs ls hP hS hl)
theorem r_lcmp (B : Bd l X G b own nL D) {x y : Int64} (d : decode b pc = .ok (.lcmp, 1)) (k : V X G T σ L (.int (lg_cmp x y) :: st) (pc + 1)) : V X G T σ L (.long y :: .long x :: st) pc := fun H locs ls hP hS hl => W.lcmp B.1 B.2.1 d  (k H locs ls hP hS hl)
theorem r_dup (B : Bd l X G b own nL D) {x : Value} (hc : x.category = 1) (d : decode b pc = .ok (.dup, 1)) (k : V X G T σ L (x :: x :: st) (pc + 1)) : V X G T σ L (x :: st) pc := fun H locs ls hP hS hl => lv_dup B.1 B.2.1 d hc (k H locs ls hP hS hl)
theorem r_pop (B : Bd l X G b own nL D) {x : Value} (hc : x.category = 1) (d : decode b pc = .ok (.pop, 1)) (k : V X G T σ L (st) (pc + 1)) : V X G T σ L (x :: st) pc := fun H locs ls hP hS hl => lv_pop B.1 B.2.1 d hc (k H locs ls hP hS hl)
theorem r_dup2 (B : Bd l X G b own nL D) {x y : Value} (hx : x.category = 1) (hy : y.category = 1) (d : decode b pc = .ok (.dup2, 1)) (k : V X G T σ L (x :: y :: x :: y :: st) (pc + 1)) : V X G T σ L (x :: y :: st) pc := fun H locs ls hP hS hl => lv_dup2_11 B.1 B.2.1 d hx hy (k H locs ls hP hS hl)
end RW
theorem pj {L : List (Option Value)} (n : Nat) (h : nl1 L[n]? = true) : ∀ j, j + 1 = n + 1 → nl1 L[j]? = true := fun j hj => by
  have e : j = n := by omega
  subst e
  exact h
section RW
variable {l : Launch} {X : CX} {G : GG} {T : List Sh} {σ : Sg} {L : List (Option Value)} {st : List Value} {pc : Nat} {b : ByteArray} {own : String} {nL D : Nat}
theorem r_if_eq (B : Bd l X G b own nL D) {x : Int32} {off : Int} (tgt : Nat) (d : decode b pc = .ok (.ifCond .eq off, 3)) (ht : (pc : Int) + off = (tgt : Int)) (kt : x = 0 → V X G T σ L (st) tgt) (kf : ¬ (x = 0) → V X G T σ L (st) (pc + 3)) : V X G T σ L (.int x :: st) pc := fun H locs ls hP hS hl => lv_if_eq B.1 B.2.1 d ht (fun h => kt h H locs ls hP hS hl) (fun h => kf h H locs ls hP hS hl)
theorem r_if_ne (B : Bd l X G b own nL D) {x : Int32} {off : Int} (tgt : Nat) (d : decode b pc = .ok (.ifCond .ne off, 3)) (ht : (pc : Int) + off = (tgt : Int)) (kt : ¬ x = 0 → V X G T σ L (st) tgt) (kf : x = 0 → V X G T σ L (st) (pc + 3)) : V X G T σ L (.int x :: st) pc := fun H locs ls hP hS hl => lv_if_ne B.1 B.2.1 d ht (fun h => kt h H locs ls hP hS hl) (fun h => kf h H locs ls hP hS hl)
theorem r_if_lt (B : Bd l X G b own nL D) {x : Int32} {off : Int} (tgt : Nat) (d : decode b pc = .ok (.ifCond .lt off, 3)) (ht : (pc : Int) + off = (tgt : Int)) (kt : x < 0 → V X G T σ L (st) tgt) (kf : ¬ (x < 0) → V X G T σ L (st) (pc + 3)) : V X G T σ L (.int x :: st) pc := fun H locs ls hP hS hl => lv_if_lt B.1 B.2.1 d ht (fun h => kt h H locs ls hP hS hl) (fun h => kf h H locs ls hP hS hl)
theorem r_if_ge (B : Bd l X G b own nL D) {x : Int32} {off : Int} (tgt : Nat) (d : decode b pc = .ok (.ifCond .ge off, 3)) (ht : (pc : Int) + off = (tgt : Int)) (kt : 0 ≤ x → V X G T σ L (st) tgt) (kf : ¬ (0 ≤ x) → V X G T σ L (st) (pc + 3)) : V X G T σ L (.int x :: st) pc := fun H locs ls hP hS hl => lv_if_ge B.1 B.2.1 d ht (fun h => kt h H locs ls hP hS hl) (fun h => kf h H locs ls hP hS hl)
theorem r_if_gt (B : Bd l X G b own nL D) {x : Int32} {off : Int} (tgt : Nat) (d : decode b pc = .ok (.ifCond .gt off, 3)) (ht : (pc : Int) + off = (tgt : Int)) (kt : 0 < x → V X G T σ L (st) tgt) (kf : ¬ (0 < x) → V X G T σ L (st) (pc + 3)) : V X G T σ L (.int x :: st) pc := fun H locs ls hP hS hl => lv_if_gt B.1 B.2.1 d ht (fun h => kt h H locs ls hP hS hl) (fun h => kf h H locs ls hP hS hl)
theorem r_if_le (B : Bd l X G b own nL D) {x : Int32} {off : Int} (tgt : Nat) (d : decode b pc = .ok (.ifCond .le off, 3)) (ht : (pc : Int) + off = (tgt : Int)) (kt : x ≤ 0 → V X G T σ L (st) tgt) (kf : ¬ (x ≤ 0) → V X G T σ L (st) (pc + 3)) : V X G T σ L (.int x :: st) pc := fun H locs ls hP hS hl => lv_if_le B.1 B.2.1 d ht (fun h => kt h H locs ls hP hS hl) (fun h => kf h H locs ls hP hS hl)
theorem r_icmp_eq (B : Bd l X G b own nL D) {x y : Int32} {off : Int} (tgt : Nat) (d : decode b pc = .ok (.if_icmp .eq off, 3)) (ht : (pc : Int) + off = (tgt : Int)) (kt : x = y → V X G T σ L (st) tgt) (kf : ¬ (x = y) → V X G T σ L (st) (pc + 3)) : V X G T σ L (.int y :: .int x :: st) pc := fun H locs ls hP hS hl => lv_icmp_eq B.1 B.2.1 d ht (fun h => kt h H locs ls hP hS hl) (fun h => kf h H locs ls hP hS hl)
theorem r_icmp_ne (B : Bd l X G b own nL D) {x y : Int32} {off : Int} (tgt : Nat) (d : decode b pc = .ok (.if_icmp .ne off, 3)) (ht : (pc : Int) + off = (tgt : Int)) (kt : ¬ x = y → V X G T σ L (st) tgt) (kf : x = y → V X G T σ L (st) (pc + 3)) : V X G T σ L (.int y :: .int x :: st) pc := fun H locs ls hP hS hl => lv_icmp_ne B.1 B.2.1 d ht (fun h => kt h H locs ls hP hS hl) (fun h => kf h H locs ls hP hS hl)
theorem r_icmp_lt (B : Bd l X G b own nL D) {x y : Int32} {off : Int} (tgt : Nat) (d : decode b pc = .ok (.if_icmp .lt off, 3)) (ht : (pc : Int) + off = (tgt : Int)) (kt : x < y → V X G T σ L (st) tgt) (kf : ¬ (x < y) → V X G T σ L (st) (pc + 3)) : V X G T σ L (.int y :: .int x :: st) pc := fun H locs ls hP hS hl => lv_icmp_lt B.1 B.2.1 d ht (fun h => kt h H locs ls hP hS hl) (fun h => kf h H locs ls hP hS hl)
theorem r_icmp_ge (B : Bd l X G b own nL D) {x y : Int32} {off : Int} (tgt : Nat) (d : decode b pc = .ok (.if_icmp .ge off, 3)) (ht : (pc : Int) + off = (tgt : Int)) (kt : y ≤ x → V X G T σ L (st) tgt) (kf : ¬ (y ≤ x) → V X G T σ L (st) (pc + 3)) : V X G T σ L (.int y :: .int x :: st) pc := fun H locs ls hP hS hl => lv_icmp_ge B.1 B.2.1 d ht (fun h => kt h H locs ls hP hS hl) (fun h => kf h H locs ls hP hS hl)
theorem r_icmp_gt (B : Bd l X G b own nL D) {x y : Int32} {off : Int} (tgt : Nat) (d : decode b pc = .ok (.if_icmp .gt off, 3)) (ht : (pc : Int) + off = (tgt : Int)) (kt : y < x → V X G T σ L (st) tgt) (kf : ¬ (y < x) → V X G T σ L (st) (pc + 3)) : V X G T σ L (.int y :: .int x :: st) pc := fun H locs ls hP hS hl => lv_icmp_gt B.1 B.2.1 d ht (fun h => kt h H locs ls hP hS hl) (fun h => kf h H locs ls hP hS hl)
theorem r_icmp_le (B : Bd l X G b own nL D) {x y : Int32} {off : Int} (tgt : Nat) (d : decode b pc = .ok (.if_icmp .le off, 3)) (ht : (pc : Int) + off = (tgt : Int)) (kt : x ≤ y → V X G T σ L (st) tgt) (kf : ¬ (x ≤ y) → V X G T σ L (st) (pc + 3)) : V X G T σ L (.int y :: .int x :: st) pc := fun H locs ls hP hS hl => lv_icmp_le B.1 B.2.1 d ht (fun h => kt h H locs ls hP hS hl) (fun h => kf h H locs ls hP hS hl)
theorem r_goto (B : Bd l X G b own nL D) {off : Int} (tgt : Nat) (d : decode b pc = .ok (.goto off, 3)) (ht : (pc : Int) + off = (tgt : Int)) (k : V X G T σ L (st) tgt) : V X G T σ L (st) pc := fun H locs ls hP hS hl => lv_goto B.1 B.2.1 d ht (k H locs ls hP hS hl)
theorem r_tsC (B : Bd l X G b own nL D) {x : Int32} {df lo hi off : Int} {offs : Array Int} {len : Nat} (c : Int32) (tgt : Nat) (d : decode b pc = .ok (.tableswitch df lo hi offs, len)) (h1 : ¬ c.toInt < lo) (h2 : ¬ hi < c.toInt) (ho : offs[(c.toInt - lo).toNat]? = some off) (ht : (pc : Int) + off = (tgt : Int)) (kt : x = c → V X G T σ L (st) tgt) (kf : ¬ x = c → V X G T σ L (.int x :: st) pc) : V X G T σ L (.int x :: st) pc := fun H locs ls hP hS hl => by
  by_cases h : x = c
  · subst h
    exact lv_tableIn B.1 B.2.1 d h1 h2 ho ht (kt rfl H locs ls hP hS hl)
  · exact kf h H locs ls hP hS hl
theorem r_tsD (B : Bd l X G b own nL D) {x : Int32} {df lo hi : Int} {offs : Array Int} {len : Nat} (tgt : Nat) (d : decode b pc = .ok (.tableswitch df lo hi offs, len)) (h : x.toInt < lo ∨ hi < x.toInt) (ht : (pc : Int) + df = (tgt : Int)) (kt : V X G T σ L (st) tgt) : V X G T σ L (.int x :: st) pc := fun H locs ls hP hS hl => lv_tableOut B.1 B.2.1 d h ht (kt H locs ls hP hS hl)
theorem r_lsw (B : Bd l X G b own nL D) {x : Int32} {df off : Int} {ps : Array (Int × Int)} {len : Nat} (tgt : Nat) (d : decode b pc = .ok (.lookupswitch df ps, len)) (hp : (ps.toList.zip (ps.toList.drop 1)).all (fun (a, next) => a.1 < next.1) = true) (ho : Op.lookupswitch.offset ps.toList df x.toInt = off) (ht : (pc : Int) + off = (tgt : Int)) (kt : V X G T σ L (st) tgt) : V X G T σ L (.int x :: st) pc := fun H locs ls hP hS hl => lv_lookup B.1 B.2.1 d hp ho ht (kt H locs ls hP hS hl)
theorem s_istore_n (B : Bd l X G b own nL D) {n : Fin 4} {x : Int32} (d : decode b pc = .ok (.istore_n n, 1)) (hn : (n : Nat) < nL) (hp : ∀ j, j + 1 = (n : Nat) → nl1 L[j]? = true) (k : V X G T σ (L.set n (some (.int x))) (st) (pc + 1)) : V X G T σ L (.int x :: st) pc := fun H locs ls hP hS hl => lv_istore_n B.1 B.2.1 d rfl (lo_has hl) (by rw [B.ml]; exact hn) rfl (fun ls1 h1 => k H locs ls1 hP hS (lo_set1 (ls := ls) h1 hp))
theorem s_istore (B : Bd l X G b own nL D) {n : Nat} {x : Int32} (d : decode b pc = .ok (.istore n, 2)) (hn : n < nL) (hp : ∀ j, j + 1 = n → nl1 L[j]? = true) (k : V X G T σ (L.set n (some (.int x))) (st) (pc + 2)) : V X G T σ L (.int x :: st) pc := fun H locs ls hP hS hl => lv_istore B.1 B.2.1 d (lo_has hl) (by rw [B.ml]; exact hn) rfl (fun ls1 h1 => k H locs ls1 hP hS (lo_set1 (ls := ls) h1 hp))
theorem s_astore_n (B : Bd l X G b own nL D) {n : Fin 4} {x : Nat} (d : decode b pc = .ok (.astore_n n, 1)) (hn : (n : Nat) < nL) (hp : ∀ j, j + 1 = (n : Nat) → nl1 L[j]? = true) (k : V X G T σ (L.set n (some (.ref x))) (st) (pc + 1)) : V X G T σ L (.ref x :: st) pc := fun H locs ls hP hS hl => lv_astore_n B.1 B.2.1 d rfl (lo_has hl) (by rw [B.ml]; exact hn) rfl (fun ls1 h1 => k H locs ls1 hP hS (lo_set1 (ls := ls) h1 hp))
theorem s_astore (B : Bd l X G b own nL D) {n : Nat} {x : Nat} (d : decode b pc = .ok (.astore n, 2)) (hn : n < nL) (hp : ∀ j, j + 1 = n → nl1 L[j]? = true) (k : V X G T σ (L.set n (some (.ref x))) (st) (pc + 2)) : V X G T σ L (.ref x :: st) pc := fun H locs ls hP hS hl => lv_astore B.1 B.2.1 d (lo_has hl) (by rw [B.ml]; exact hn) rfl (fun ls1 h1 => k H locs ls1 hP hS (lo_set1 (ls := ls) h1 hp))
theorem s_lstore_n (B : Bd l X G b own nL D) {n : Fin 4} {x : Int64} (d : decode b pc = .ok (.lstore_n n, 1)) (hn : (n : Nat) + 1 < nL) (hp : ∀ j, j + 1 = (n : Nat) → nl1 L[j]? = true) (k : V X G T σ ((L.set n (some (.long x))).set (n + 1) none) (st) (pc + 1)) : V X G T σ L (.long x :: st) pc := fun H locs ls hP hS hl => lv_lstore_n B.1 B.2.1 d rfl (lo_has hl) (by rw [B.ml]; exact hn) rfl (fun ls1 h1 => k H locs ls1 hP hS (lo_set2 (ls := ls) h1 hp))
theorem s_lstore (B : Bd l X G b own nL D) {n : Nat} {x : Int64} (d : decode b pc = .ok (.lstore n, 2)) (hn : n + 1 < nL) (hp : ∀ j, j + 1 = n → nl1 L[j]? = true) (k : V X G T σ ((L.set n (some (.long x))).set (n + 1) none) (st) (pc + 2)) : V X G T σ L (.long x :: st) pc := fun H locs ls hP hS hl => lv_lstore B.1 B.2.1 d (lo_has hl) (by rw [B.ml]; exact hn) rfl (fun ls1 h1 => k H locs ls1 hP hS (lo_set2 (ls := ls) h1 hp))
theorem s_iinc (B : Bd l X G b own nL D) {n : Nat} {i : Int} {x y : Int32} (d : decode b pc = .ok (.iinc n i, 3)) (hx : L[n]? = some (some (.int x))) (hy : x + Int32.ofInt i = y) (hn : n < nL) (hp : ∀ j, j + 1 = n → nl1 L[j]? = true) (k : V X G T σ (L.set n (some (.int y))) (st) (pc + 3)) : V X G T σ L (st) pc := fun H locs ls hP hS hl => by
  obtain ⟨q, hq⟩ := List.getElem?_of_mem (al_mem.mpr hx)
  exact lv_iinc B.1 B.2.1 d (lo_has hl) hq hy (by rw [B.ml]; exact hn) rfl (fun ls1 h1 => k H locs ls1 hP hS (lo_set1 (ls := ls) h1 hp))
theorem r_istore_0 (B : Bd l X G b own nL D) {x : Int32} {c0 : Option Value} {R : List (Option Value)} (d : decode b pc = .ok (.istore_n 0, 1)) (hn : 0 < nL)  (k : V X G T σ (some (.int x) :: R) (st) (pc + 1)) : V X G T σ (c0 :: R) (.int x :: st) pc := s_istore_n B d hn (fun j hj => absurd hj (Nat.succ_ne_zero j)) k
theorem r_astore_0 (B : Bd l X G b own nL D) {x : Nat} {c0 : Option Value} {R : List (Option Value)} (d : decode b pc = .ok (.astore_n 0, 1)) (hn : 0 < nL)  (k : V X G T σ (some (.ref x) :: R) (st) (pc + 1)) : V X G T σ (c0 :: R) (.ref x :: st) pc := s_astore_n B d hn (fun j hj => absurd hj (Nat.succ_ne_zero j)) k
theorem r_iinc_0 (B : Bd l X G b own nL D) {i : Int} {x y : Int32} {R : List (Option Value)} (d : decode b pc = .ok (.iinc 0 i, 3)) (hy : x + Int32.ofInt i = y) (hn : 0 < nL)  (k : V X G T σ (some (.int y) :: R) (st) (pc + 3)) : V X G T σ (some (.int x) :: R) (st) pc := s_iinc B d rfl hy hn (fun j hj => absurd hj (Nat.succ_ne_zero j)) k
theorem r_lstore_0 (B : Bd l X G b own nL D) {x : Int64} {c0 c1 : Option Value} {R : List (Option Value)} (d : decode b pc = .ok (.lstore_n 0, 1)) (hn : 0 + 1 < nL)  (k : V X G T σ (some (.long x) :: none :: R) (st) (pc + 1)) : V X G T σ (c0 :: c1 :: R) (.long x :: st) pc := s_lstore_n B d hn (fun j hj => absurd hj (Nat.succ_ne_zero j)) k
theorem r_istore_1 (B : Bd l X G b own nL D) {x : Int32} {a0 c0 : Option Value} {R : List (Option Value)} (d : decode b pc = .ok (.istore_n 1, 1)) (hn : 1 < nL) (hp : nl1 (some a0) = true) (k : V X G T σ (a0 :: some (.int x) :: R) (st) (pc + 1)) : V X G T σ (a0 :: c0 :: R) (.int x :: st) pc := s_istore_n B d hn (pj 0 hp) k
theorem r_astore_1 (B : Bd l X G b own nL D) {x : Nat} {a0 c0 : Option Value} {R : List (Option Value)} (d : decode b pc = .ok (.astore_n 1, 1)) (hn : 1 < nL) (hp : nl1 (some a0) = true) (k : V X G T σ (a0 :: some (.ref x) :: R) (st) (pc + 1)) : V X G T σ (a0 :: c0 :: R) (.ref x :: st) pc := s_astore_n B d hn (pj 0 hp) k
theorem r_iinc_1 (B : Bd l X G b own nL D) {i : Int} {x y : Int32} {a0 : Option Value} {R : List (Option Value)} (d : decode b pc = .ok (.iinc 1 i, 3)) (hy : x + Int32.ofInt i = y) (hn : 1 < nL) (hp : nl1 (some a0) = true) (k : V X G T σ (a0 :: some (.int y) :: R) (st) (pc + 3)) : V X G T σ (a0 :: some (.int x) :: R) (st) pc := s_iinc B d rfl hy hn (pj 0 hp) k
theorem r_lstore_1 (B : Bd l X G b own nL D) {x : Int64} {a0 c0 c1 : Option Value} {R : List (Option Value)} (d : decode b pc = .ok (.lstore_n 1, 1)) (hn : 1 + 1 < nL) (hp : nl1 (some a0) = true) (k : V X G T σ (a0 :: some (.long x) :: none :: R) (st) (pc + 1)) : V X G T σ (a0 :: c0 :: c1 :: R) (.long x :: st) pc := s_lstore_n B d hn (pj 0 hp) k
theorem r_istore_2 (B : Bd l X G b own nL D) {x : Int32} {a0 a1 c0 : Option Value} {R : List (Option Value)} (d : decode b pc = .ok (.istore_n 2, 1)) (hn : 2 < nL) (hp : nl1 (some a1) = true) (k : V X G T σ (a0 :: a1 :: some (.int x) :: R) (st) (pc + 1)) : V X G T σ (a0 :: a1 :: c0 :: R) (.int x :: st) pc := s_istore_n B d hn (pj 1 hp) k
theorem r_astore_2 (B : Bd l X G b own nL D) {x : Nat} {a0 a1 c0 : Option Value} {R : List (Option Value)} (d : decode b pc = .ok (.astore_n 2, 1)) (hn : 2 < nL) (hp : nl1 (some a1) = true) (k : V X G T σ (a0 :: a1 :: some (.ref x) :: R) (st) (pc + 1)) : V X G T σ (a0 :: a1 :: c0 :: R) (.ref x :: st) pc := s_astore_n B d hn (pj 1 hp) k
theorem r_iinc_2 (B : Bd l X G b own nL D) {i : Int} {x y : Int32} {a0 a1 : Option Value} {R : List (Option Value)} (d : decode b pc = .ok (.iinc 2 i, 3)) (hy : x + Int32.ofInt i = y) (hn : 2 < nL) (hp : nl1 (some a1) = true) (k : V X G T σ (a0 :: a1 :: some (.int y) :: R) (st) (pc + 3)) : V X G T σ (a0 :: a1 :: some (.int x) :: R) (st) pc := s_iinc B d rfl hy hn (pj 1 hp) k
theorem r_lstore_2 (B : Bd l X G b own nL D) {x : Int64} {a0 a1 c0 c1 : Option Value} {R : List (Option Value)} (d : decode b pc = .ok (.lstore_n 2, 1)) (hn : 2 + 1 < nL) (hp : nl1 (some a1) = true) (k : V X G T σ (a0 :: a1 :: some (.long x) :: none :: R) (st) (pc + 1)) : V X G T σ (a0 :: a1 :: c0 :: c1 :: R) (.long x :: st) pc := s_lstore_n B d hn (pj 1 hp) k
theorem r_istore_3 (B : Bd l X G b own nL D) {x : Int32} {a0 a1 a2 c0 : Option Value} {R : List (Option Value)} (d : decode b pc = .ok (.istore_n 3, 1)) (hn : 3 < nL) (hp : nl1 (some a2) = true) (k : V X G T σ (a0 :: a1 :: a2 :: some (.int x) :: R) (st) (pc + 1)) : V X G T σ (a0 :: a1 :: a2 :: c0 :: R) (.int x :: st) pc := s_istore_n B d hn (pj 2 hp) k
theorem r_astore_3 (B : Bd l X G b own nL D) {x : Nat} {a0 a1 a2 c0 : Option Value} {R : List (Option Value)} (d : decode b pc = .ok (.astore_n 3, 1)) (hn : 3 < nL) (hp : nl1 (some a2) = true) (k : V X G T σ (a0 :: a1 :: a2 :: some (.ref x) :: R) (st) (pc + 1)) : V X G T σ (a0 :: a1 :: a2 :: c0 :: R) (.ref x :: st) pc := s_astore_n B d hn (pj 2 hp) k
theorem r_iinc_3 (B : Bd l X G b own nL D) {i : Int} {x y : Int32} {a0 a1 a2 : Option Value} {R : List (Option Value)} (d : decode b pc = .ok (.iinc 3 i, 3)) (hy : x + Int32.ofInt i = y) (hn : 3 < nL) (hp : nl1 (some a2) = true) (k : V X G T σ (a0 :: a1 :: a2 :: some (.int y) :: R) (st) (pc + 3)) : V X G T σ (a0 :: a1 :: a2 :: some (.int x) :: R) (st) pc := s_iinc B d rfl hy hn (pj 2 hp) k
theorem r_lstore_3 (B : Bd l X G b own nL D) {x : Int64} {a0 a1 a2 c0 c1 : Option Value} {R : List (Option Value)} (d : decode b pc = .ok (.lstore_n 3, 1)) (hn : 3 + 1 < nL) (hp : nl1 (some a2) = true) (k : V X G T σ (a0 :: a1 :: a2 :: some (.long x) :: none :: R) (st) (pc + 1)) : V X G T σ (a0 :: a1 :: a2 :: c0 :: c1 :: R) (.long x :: st) pc := s_lstore_n B d hn (pj 2 hp) k
theorem r_istore_4 (B : Bd l X G b own nL D) {x : Int32} {a0 a1 a2 a3 c0 : Option Value} {R : List (Option Value)} (d : decode b pc = .ok (.istore 4, 2)) (hn : 4 < nL) (hp : nl1 (some a3) = true) (k : V X G T σ (a0 :: a1 :: a2 :: a3 :: some (.int x) :: R) (st) (pc + 2)) : V X G T σ (a0 :: a1 :: a2 :: a3 :: c0 :: R) (.int x :: st) pc := s_istore B d hn (pj 3 hp) k
theorem r_astore_4 (B : Bd l X G b own nL D) {x : Nat} {a0 a1 a2 a3 c0 : Option Value} {R : List (Option Value)} (d : decode b pc = .ok (.astore 4, 2)) (hn : 4 < nL) (hp : nl1 (some a3) = true) (k : V X G T σ (a0 :: a1 :: a2 :: a3 :: some (.ref x) :: R) (st) (pc + 2)) : V X G T σ (a0 :: a1 :: a2 :: a3 :: c0 :: R) (.ref x :: st) pc := s_astore B d hn (pj 3 hp) k
theorem r_iinc_4 (B : Bd l X G b own nL D) {i : Int} {x y : Int32} {a0 a1 a2 a3 : Option Value} {R : List (Option Value)} (d : decode b pc = .ok (.iinc 4 i, 3)) (hy : x + Int32.ofInt i = y) (hn : 4 < nL) (hp : nl1 (some a3) = true) (k : V X G T σ (a0 :: a1 :: a2 :: a3 :: some (.int y) :: R) (st) (pc + 3)) : V X G T σ (a0 :: a1 :: a2 :: a3 :: some (.int x) :: R) (st) pc := s_iinc B d rfl hy hn (pj 3 hp) k
theorem r_lstore_4 (B : Bd l X G b own nL D) {x : Int64} {a0 a1 a2 a3 c0 c1 : Option Value} {R : List (Option Value)} (d : decode b pc = .ok (.lstore 4, 2)) (hn : 4 + 1 < nL) (hp : nl1 (some a3) = true) (k : V X G T σ (a0 :: a1 :: a2 :: a3 :: some (.long x) :: none :: R) (st) (pc + 2)) : V X G T σ (a0 :: a1 :: a2 :: a3 :: c0 :: c1 :: R) (.long x :: st) pc := s_lstore B d hn (pj 3 hp) k
theorem r_istore_5 (B : Bd l X G b own nL D) {x : Int32} {a0 a1 a2 a3 a4 c0 : Option Value} {R : List (Option Value)} (d : decode b pc = .ok (.istore 5, 2)) (hn : 5 < nL) (hp : nl1 (some a4) = true) (k : V X G T σ (a0 :: a1 :: a2 :: a3 :: a4 :: some (.int x) :: R) (st) (pc + 2)) : V X G T σ (a0 :: a1 :: a2 :: a3 :: a4 :: c0 :: R) (.int x :: st) pc := s_istore B d hn (pj 4 hp) k
theorem r_astore_5 (B : Bd l X G b own nL D) {x : Nat} {a0 a1 a2 a3 a4 c0 : Option Value} {R : List (Option Value)} (d : decode b pc = .ok (.astore 5, 2)) (hn : 5 < nL) (hp : nl1 (some a4) = true) (k : V X G T σ (a0 :: a1 :: a2 :: a3 :: a4 :: some (.ref x) :: R) (st) (pc + 2)) : V X G T σ (a0 :: a1 :: a2 :: a3 :: a4 :: c0 :: R) (.ref x :: st) pc := s_astore B d hn (pj 4 hp) k
theorem r_iinc_5 (B : Bd l X G b own nL D) {i : Int} {x y : Int32} {a0 a1 a2 a3 a4 : Option Value} {R : List (Option Value)} (d : decode b pc = .ok (.iinc 5 i, 3)) (hy : x + Int32.ofInt i = y) (hn : 5 < nL) (hp : nl1 (some a4) = true) (k : V X G T σ (a0 :: a1 :: a2 :: a3 :: a4 :: some (.int y) :: R) (st) (pc + 3)) : V X G T σ (a0 :: a1 :: a2 :: a3 :: a4 :: some (.int x) :: R) (st) pc := s_iinc B d rfl hy hn (pj 4 hp) k
theorem r_lstore_5 (B : Bd l X G b own nL D) {x : Int64} {a0 a1 a2 a3 a4 c0 c1 : Option Value} {R : List (Option Value)} (d : decode b pc = .ok (.lstore 5, 2)) (hn : 5 + 1 < nL) (hp : nl1 (some a4) = true) (k : V X G T σ (a0 :: a1 :: a2 :: a3 :: a4 :: some (.long x) :: none :: R) (st) (pc + 2)) : V X G T σ (a0 :: a1 :: a2 :: a3 :: a4 :: c0 :: c1 :: R) (.long x :: st) pc := s_lstore B d hn (pj 4 hp) k
theorem r_istore_6 (B : Bd l X G b own nL D) {x : Int32} {a0 a1 a2 a3 a4 a5 c0 : Option Value} {R : List (Option Value)} (d : decode b pc = .ok (.istore 6, 2)) (hn : 6 < nL) (hp : nl1 (some a5) = true) (k : V X G T σ (a0 :: a1 :: a2 :: a3 :: a4 :: a5 :: some (.int x) :: R) (st) (pc + 2)) : V X G T σ (a0 :: a1 :: a2 :: a3 :: a4 :: a5 :: c0 :: R) (.int x :: st) pc := s_istore B d hn (pj 5 hp) k
theorem r_astore_6 (B : Bd l X G b own nL D) {x : Nat} {a0 a1 a2 a3 a4 a5 c0 : Option Value} {R : List (Option Value)} (d : decode b pc = .ok (.astore 6, 2)) (hn : 6 < nL) (hp : nl1 (some a5) = true) (k : V X G T σ (a0 :: a1 :: a2 :: a3 :: a4 :: a5 :: some (.ref x) :: R) (st) (pc + 2)) : V X G T σ (a0 :: a1 :: a2 :: a3 :: a4 :: a5 :: c0 :: R) (.ref x :: st) pc := s_astore B d hn (pj 5 hp) k
theorem r_iinc_6 (B : Bd l X G b own nL D) {i : Int} {x y : Int32} {a0 a1 a2 a3 a4 a5 : Option Value} {R : List (Option Value)} (d : decode b pc = .ok (.iinc 6 i, 3)) (hy : x + Int32.ofInt i = y) (hn : 6 < nL) (hp : nl1 (some a5) = true) (k : V X G T σ (a0 :: a1 :: a2 :: a3 :: a4 :: a5 :: some (.int y) :: R) (st) (pc + 3)) : V X G T σ (a0 :: a1 :: a2 :: a3 :: a4 :: a5 :: some (.int x) :: R) (st) pc := s_iinc B d rfl hy hn (pj 5 hp) k
theorem r_lstore_6 (B : Bd l X G b own nL D) {x : Int64} {a0 a1 a2 a3 a4 a5 c0 c1 : Option Value} {R : List (Option Value)} (d : decode b pc = .ok (.lstore 6, 2)) (hn : 6 + 1 < nL) (hp : nl1 (some a5) = true) (k : V X G T σ (a0 :: a1 :: a2 :: a3 :: a4 :: a5 :: some (.long x) :: none :: R) (st) (pc + 2)) : V X G T σ (a0 :: a1 :: a2 :: a3 :: a4 :: a5 :: c0 :: c1 :: R) (.long x :: st) pc := s_lstore B d hn (pj 5 hp) k
theorem r_istore_7 (B : Bd l X G b own nL D) {x : Int32} {a0 a1 a2 a3 a4 a5 a6 c0 : Option Value} {R : List (Option Value)} (d : decode b pc = .ok (.istore 7, 2)) (hn : 7 < nL) (hp : nl1 (some a6) = true) (k : V X G T σ (a0 :: a1 :: a2 :: a3 :: a4 :: a5 :: a6 :: some (.int x) :: R) (st) (pc + 2)) : V X G T σ (a0 :: a1 :: a2 :: a3 :: a4 :: a5 :: a6 :: c0 :: R) (.int x :: st) pc := s_istore B d hn (pj 6 hp) k
theorem r_astore_7 (B : Bd l X G b own nL D) {x : Nat} {a0 a1 a2 a3 a4 a5 a6 c0 : Option Value} {R : List (Option Value)} (d : decode b pc = .ok (.astore 7, 2)) (hn : 7 < nL) (hp : nl1 (some a6) = true) (k : V X G T σ (a0 :: a1 :: a2 :: a3 :: a4 :: a5 :: a6 :: some (.ref x) :: R) (st) (pc + 2)) : V X G T σ (a0 :: a1 :: a2 :: a3 :: a4 :: a5 :: a6 :: c0 :: R) (.ref x :: st) pc := s_astore B d hn (pj 6 hp) k
theorem r_iinc_7 (B : Bd l X G b own nL D) {i : Int} {x y : Int32} {a0 a1 a2 a3 a4 a5 a6 : Option Value} {R : List (Option Value)} (d : decode b pc = .ok (.iinc 7 i, 3)) (hy : x + Int32.ofInt i = y) (hn : 7 < nL) (hp : nl1 (some a6) = true) (k : V X G T σ (a0 :: a1 :: a2 :: a3 :: a4 :: a5 :: a6 :: some (.int y) :: R) (st) (pc + 3)) : V X G T σ (a0 :: a1 :: a2 :: a3 :: a4 :: a5 :: a6 :: some (.int x) :: R) (st) pc := s_iinc B d rfl hy hn (pj 6 hp) k
theorem r_lstore_7 (B : Bd l X G b own nL D) {x : Int64} {a0 a1 a2 a3 a4 a5 a6 c0 c1 : Option Value} {R : List (Option Value)} (d : decode b pc = .ok (.lstore 7, 2)) (hn : 7 + 1 < nL) (hp : nl1 (some a6) = true) (k : V X G T σ (a0 :: a1 :: a2 :: a3 :: a4 :: a5 :: a6 :: some (.long x) :: none :: R) (st) (pc + 2)) : V X G T σ (a0 :: a1 :: a2 :: a3 :: a4 :: a5 :: a6 :: c0 :: c1 :: R) (.long x :: st) pc := s_lstore B d hn (pj 6 hp) k
theorem r_istore_8 (B : Bd l X G b own nL D) {x : Int32} {a0 a1 a2 a3 a4 a5 a6 a7 c0 : Option Value} {R : List (Option Value)} (d : decode b pc = .ok (.istore 8, 2)) (hn : 8 < nL) (hp : nl1 (some a7) = true) (k : V X G T σ (a0 :: a1 :: a2 :: a3 :: a4 :: a5 :: a6 :: a7 :: some (.int x) :: R) (st) (pc + 2)) : V X G T σ (a0 :: a1 :: a2 :: a3 :: a4 :: a5 :: a6 :: a7 :: c0 :: R) (.int x :: st) pc := s_istore B d hn (pj 7 hp) k
theorem r_astore_8 (B : Bd l X G b own nL D) {x : Nat} {a0 a1 a2 a3 a4 a5 a6 a7 c0 : Option Value} {R : List (Option Value)} (d : decode b pc = .ok (.astore 8, 2)) (hn : 8 < nL) (hp : nl1 (some a7) = true) (k : V X G T σ (a0 :: a1 :: a2 :: a3 :: a4 :: a5 :: a6 :: a7 :: some (.ref x) :: R) (st) (pc + 2)) : V X G T σ (a0 :: a1 :: a2 :: a3 :: a4 :: a5 :: a6 :: a7 :: c0 :: R) (.ref x :: st) pc := s_astore B d hn (pj 7 hp) k
theorem r_iinc_8 (B : Bd l X G b own nL D) {i : Int} {x y : Int32} {a0 a1 a2 a3 a4 a5 a6 a7 : Option Value} {R : List (Option Value)} (d : decode b pc = .ok (.iinc 8 i, 3)) (hy : x + Int32.ofInt i = y) (hn : 8 < nL) (hp : nl1 (some a7) = true) (k : V X G T σ (a0 :: a1 :: a2 :: a3 :: a4 :: a5 :: a6 :: a7 :: some (.int y) :: R) (st) (pc + 3)) : V X G T σ (a0 :: a1 :: a2 :: a3 :: a4 :: a5 :: a6 :: a7 :: some (.int x) :: R) (st) pc := s_iinc B d rfl hy hn (pj 7 hp) k
theorem r_lstore_8 (B : Bd l X G b own nL D) {x : Int64} {a0 a1 a2 a3 a4 a5 a6 a7 c0 c1 : Option Value} {R : List (Option Value)} (d : decode b pc = .ok (.lstore 8, 2)) (hn : 8 + 1 < nL) (hp : nl1 (some a7) = true) (k : V X G T σ (a0 :: a1 :: a2 :: a3 :: a4 :: a5 :: a6 :: a7 :: some (.long x) :: none :: R) (st) (pc + 2)) : V X G T σ (a0 :: a1 :: a2 :: a3 :: a4 :: a5 :: a6 :: a7 :: c0 :: c1 :: R) (.long x :: st) pc := s_lstore B d hn (pj 7 hp) k
theorem r_istore_9 (B : Bd l X G b own nL D) {x : Int32} {a0 a1 a2 a3 a4 a5 a6 a7 a8 c0 : Option Value} {R : List (Option Value)} (d : decode b pc = .ok (.istore 9, 2)) (hn : 9 < nL) (hp : nl1 (some a8) = true) (k : V X G T σ (a0 :: a1 :: a2 :: a3 :: a4 :: a5 :: a6 :: a7 :: a8 :: some (.int x) :: R) (st) (pc + 2)) : V X G T σ (a0 :: a1 :: a2 :: a3 :: a4 :: a5 :: a6 :: a7 :: a8 :: c0 :: R) (.int x :: st) pc := s_istore B d hn (pj 8 hp) k
theorem r_astore_9 (B : Bd l X G b own nL D) {x : Nat} {a0 a1 a2 a3 a4 a5 a6 a7 a8 c0 : Option Value} {R : List (Option Value)} (d : decode b pc = .ok (.astore 9, 2)) (hn : 9 < nL) (hp : nl1 (some a8) = true) (k : V X G T σ (a0 :: a1 :: a2 :: a3 :: a4 :: a5 :: a6 :: a7 :: a8 :: some (.ref x) :: R) (st) (pc + 2)) : V X G T σ (a0 :: a1 :: a2 :: a3 :: a4 :: a5 :: a6 :: a7 :: a8 :: c0 :: R) (.ref x :: st) pc := s_astore B d hn (pj 8 hp) k
theorem r_iinc_9 (B : Bd l X G b own nL D) {i : Int} {x y : Int32} {a0 a1 a2 a3 a4 a5 a6 a7 a8 : Option Value} {R : List (Option Value)} (d : decode b pc = .ok (.iinc 9 i, 3)) (hy : x + Int32.ofInt i = y) (hn : 9 < nL) (hp : nl1 (some a8) = true) (k : V X G T σ (a0 :: a1 :: a2 :: a3 :: a4 :: a5 :: a6 :: a7 :: a8 :: some (.int y) :: R) (st) (pc + 3)) : V X G T σ (a0 :: a1 :: a2 :: a3 :: a4 :: a5 :: a6 :: a7 :: a8 :: some (.int x) :: R) (st) pc := s_iinc B d rfl hy hn (pj 8 hp) k
theorem r_lstore_9 (B : Bd l X G b own nL D) {x : Int64} {a0 a1 a2 a3 a4 a5 a6 a7 a8 c0 c1 : Option Value} {R : List (Option Value)} (d : decode b pc = .ok (.lstore 9, 2)) (hn : 9 + 1 < nL) (hp : nl1 (some a8) = true) (k : V X G T σ (a0 :: a1 :: a2 :: a3 :: a4 :: a5 :: a6 :: a7 :: a8 :: some (.long x) :: none :: R) (st) (pc + 2)) : V X G T σ (a0 :: a1 :: a2 :: a3 :: a4 :: a5 :: a6 :: a7 :: a8 :: c0 :: c1 :: R) (.long x :: st) pc := s_lstore B d hn (pj 8 hp) k
theorem r_istore_10 (B : Bd l X G b own nL D) {x : Int32} {a0 a1 a2 a3 a4 a5 a6 a7 a8 a9 c0 : Option Value} {R : List (Option Value)} (d : decode b pc = .ok (.istore 10, 2)) (hn : 10 < nL) (hp : nl1 (some a9) = true) (k : V X G T σ (a0 :: a1 :: a2 :: a3 :: a4 :: a5 :: a6 :: a7 :: a8 :: a9 :: some (.int x) :: R) (st) (pc + 2)) : V X G T σ (a0 :: a1 :: a2 :: a3 :: a4 :: a5 :: a6 :: a7 :: a8 :: a9 :: c0 :: R) (.int x :: st) pc := s_istore B d hn (pj 9 hp) k
theorem r_astore_10 (B : Bd l X G b own nL D) {x : Nat} {a0 a1 a2 a3 a4 a5 a6 a7 a8 a9 c0 : Option Value} {R : List (Option Value)} (d : decode b pc = .ok (.astore 10, 2)) (hn : 10 < nL) (hp : nl1 (some a9) = true) (k : V X G T σ (a0 :: a1 :: a2 :: a3 :: a4 :: a5 :: a6 :: a7 :: a8 :: a9 :: some (.ref x) :: R) (st) (pc + 2)) : V X G T σ (a0 :: a1 :: a2 :: a3 :: a4 :: a5 :: a6 :: a7 :: a8 :: a9 :: c0 :: R) (.ref x :: st) pc := s_astore B d hn (pj 9 hp) k
theorem r_iinc_10 (B : Bd l X G b own nL D) {i : Int} {x y : Int32} {a0 a1 a2 a3 a4 a5 a6 a7 a8 a9 : Option Value} {R : List (Option Value)} (d : decode b pc = .ok (.iinc 10 i, 3)) (hy : x + Int32.ofInt i = y) (hn : 10 < nL) (hp : nl1 (some a9) = true) (k : V X G T σ (a0 :: a1 :: a2 :: a3 :: a4 :: a5 :: a6 :: a7 :: a8 :: a9 :: some (.int y) :: R) (st) (pc + 3)) : V X G T σ (a0 :: a1 :: a2 :: a3 :: a4 :: a5 :: a6 :: a7 :: a8 :: a9 :: some (.int x) :: R) (st) pc := s_iinc B d rfl hy hn (pj 9 hp) k
theorem r_lstore_10 (B : Bd l X G b own nL D) {x : Int64} {a0 a1 a2 a3 a4 a5 a6 a7 a8 a9 c0 c1 : Option Value} {R : List (Option Value)} (d : decode b pc = .ok (.lstore 10, 2)) (hn : 10 + 1 < nL) (hp : nl1 (some a9) = true) (k : V X G T σ (a0 :: a1 :: a2 :: a3 :: a4 :: a5 :: a6 :: a7 :: a8 :: a9 :: some (.long x) :: none :: R) (st) (pc + 2)) : V X G T σ (a0 :: a1 :: a2 :: a3 :: a4 :: a5 :: a6 :: a7 :: a8 :: a9 :: c0 :: c1 :: R) (.long x :: st) pc := s_lstore B d hn (pj 9 hp) k
theorem r_istore_11 (B : Bd l X G b own nL D) {x : Int32} {a0 a1 a2 a3 a4 a5 a6 a7 a8 a9 a10 c0 : Option Value} {R : List (Option Value)} (d : decode b pc = .ok (.istore 11, 2)) (hn : 11 < nL) (hp : nl1 (some a10) = true) (k : V X G T σ (a0 :: a1 :: a2 :: a3 :: a4 :: a5 :: a6 :: a7 :: a8 :: a9 :: a10 :: some (.int x) :: R) (st) (pc + 2)) : V X G T σ (a0 :: a1 :: a2 :: a3 :: a4 :: a5 :: a6 :: a7 :: a8 :: a9 :: a10 :: c0 :: R) (.int x :: st) pc := s_istore B d hn (pj 10 hp) k
theorem r_astore_11 (B : Bd l X G b own nL D) {x : Nat} {a0 a1 a2 a3 a4 a5 a6 a7 a8 a9 a10 c0 : Option Value} {R : List (Option Value)} (d : decode b pc = .ok (.astore 11, 2)) (hn : 11 < nL) (hp : nl1 (some a10) = true) (k : V X G T σ (a0 :: a1 :: a2 :: a3 :: a4 :: a5 :: a6 :: a7 :: a8 :: a9 :: a10 :: some (.ref x) :: R) (st) (pc + 2)) : V X G T σ (a0 :: a1 :: a2 :: a3 :: a4 :: a5 :: a6 :: a7 :: a8 :: a9 :: a10 :: c0 :: R) (.ref x :: st) pc := s_astore B d hn (pj 10 hp) k
theorem r_iinc_11 (B : Bd l X G b own nL D) {i : Int} {x y : Int32} {a0 a1 a2 a3 a4 a5 a6 a7 a8 a9 a10 : Option Value} {R : List (Option Value)} (d : decode b pc = .ok (.iinc 11 i, 3)) (hy : x + Int32.ofInt i = y) (hn : 11 < nL) (hp : nl1 (some a10) = true) (k : V X G T σ (a0 :: a1 :: a2 :: a3 :: a4 :: a5 :: a6 :: a7 :: a8 :: a9 :: a10 :: some (.int y) :: R) (st) (pc + 3)) : V X G T σ (a0 :: a1 :: a2 :: a3 :: a4 :: a5 :: a6 :: a7 :: a8 :: a9 :: a10 :: some (.int x) :: R) (st) pc := s_iinc B d rfl hy hn (pj 10 hp) k
theorem r_lstore_11 (B : Bd l X G b own nL D) {x : Int64} {a0 a1 a2 a3 a4 a5 a6 a7 a8 a9 a10 c0 c1 : Option Value} {R : List (Option Value)} (d : decode b pc = .ok (.lstore 11, 2)) (hn : 11 + 1 < nL) (hp : nl1 (some a10) = true) (k : V X G T σ (a0 :: a1 :: a2 :: a3 :: a4 :: a5 :: a6 :: a7 :: a8 :: a9 :: a10 :: some (.long x) :: none :: R) (st) (pc + 2)) : V X G T σ (a0 :: a1 :: a2 :: a3 :: a4 :: a5 :: a6 :: a7 :: a8 :: a9 :: a10 :: c0 :: c1 :: R) (.long x :: st) pc := s_lstore B d hn (pj 10 hp) k
end RW
end
section
/-! fields -/
/-- the entry idx of own's pool is field i of class ci -/
def FF (own : String) (idx ci i : Nat) : Prop := ∃ (C : String) (Tt : u_T) (N : Nat) (ty0 : Nat → FieldType), vwCl[ci]? = some (C, Tt, N) ∧ i < N ∧ Cond.fieldLink own idx (Tt i).1 (Tt i).2.1 (Tt i).2.2.1 ∈ lwg ∧ (∀ w ∈ u_ws C Tt N, w ∈ lwg) ∧ (∀ k, k < N → parseFieldDescriptor (Tt k).2.2.1 = some (ty0 k)) ∧ (∀ a, a < N → ∀ b, b < N → a ≠ b → (Tt a).2.1 ≠ (Tt b).2.1)
/-- and it is no final one, of type d -/
def FP (own : String) (idx ci i : Nat) (d : String) : Prop := ∃ (C : String) (Tt : u_T) (N : Nat) (ty0 : Nat → FieldType), (vwCl[ci]? = some (C, Tt, N) ∧ i < N ∧ Cond.fieldLink own idx (Tt i).1 (Tt i).2.1 (Tt i).2.2.1 ∈ lwg ∧ (∀ w ∈ u_ws C Tt N, w ∈ lwg) ∧ (∀ k, k < N → parseFieldDescriptor (Tt k).2.2.1 = some (ty0 k)) ∧ (∀ a, a < N → ∀ b, b < N → a ≠ b → (Tt a).2.1 ≠ (Tt b).2.1)) ∧ (Tt i).2.2.2 = false ∧ (Tt i).2.2.1 = d
/-- an index within an array, as a number -/
def ix (i : Int32) (n j : Nat) : Prop := vp_in i n ∧ i.toNatClampNeg = j
section RF
variable {l : Launch} {X : CX} {G : GG} {T : List Sh} {σ : Sg} {L : List (Option Value)} {st : List Value} {pc : Nat} {b : ByteArray} {own : String} {nL D : Nat}
theorem r_get (B : Bd l X G b own nL D) {idx ci i k : Nat} {fs : List (Option (Option Nat))} {x : Option (Option Nat)} (F : FF own idx ci i) (hT : T[k]? = some (.inl (ci, fs))) (hf : fs[i]? = some x) (d : decode b pc = .ok (.getfield idx, 3)) (kk : V X G T σ L (fv G (σ k) i x :: st) (pc + 3)) : V X G T σ L (.ref (ad G k) :: st) pc := fun H locs ls hP hS hl => by
  obtain ⟨C, Tt, N, ty0, hc, hi, hw, hu, -, -⟩ := F
  exact va_get (D := G.1) (cl := vwCl) (ci := ci) (C := C) (T := Tt) (N := N) B.1 B.2.1 B.2.2.2.1 hu B.2.2.1 B.2.2.2.2.1.1 hP k (wl_at hT) hc i hi (B.2.2.2.1 _ hw) (fun _ h => h) (vl_at hf) d (kk H locs ls hP hS hl)
theorem r_geti (B : Bd l X G b own nL D) {idx ci i k : Nat} {fs : List (Option (Option Nat))} (F : FF own idx ci i) (hT : T[k]? = some (.inl (ci, fs))) (hf : fs[i]? = some none) (d : decode b pc = .ok (.getfield idx, 3)) (kk : V X G T σ L (.int (σ k i) :: st) (pc + 3)) : V X G T σ L (.ref (ad G k) :: st) pc := r_get B F hT hf d kk
theorem r_getr (B : Bd l X G b own nL D) {idx ci i k j : Nat} {fs : List (Option (Option Nat))} (F : FF own idx ci i) (hT : T[k]? = some (.inl (ci, fs))) (hf : fs[i]? = some (some (some j))) (d : decode b pc = .ok (.getfield idx, 3)) (kk : V X G T σ L (.ref (ad G j) :: st) (pc + 3)) : V X G T σ L (.ref (ad G k) :: st) pc := r_get B F hT hf d kk
theorem Pic.put {H1 : Heap} {k i : Nat} {ci : Nat} {fs : List (Option (Option Nat))} {v : Int32} (hT : T[k]? = some (.inl (ci, fs))) (hf : fs[i]? = some none) (h : va_P G.1 vwCl ((wl G T σ).set k (ad G k, .inr (ci, (vl G (σ k) fs).set i (.int v)))) H1) : Pic G T (st2 σ k i v) H1 := by
  rw [vl_set hf] at h
  have e := wl_set (G := G) (σ := σ) hT (upd (σ k) i v)
  rw [show ce G (upd (σ k) i v) (.inl (ci, fs)) = .inr (ci, vl G (upd (σ k) i v) fs) from rfl] at e
  rw [e, st2_eq] at h
  exact h
theorem r_putw (B : Bd l X G b own nL D) {idx ci i k : Nat} {fs : List (Option (Option Nat))} {v : Int32} {ty : FieldType} {dd : String} (F : FP own idx ci i dd) (hty : parseFieldDescriptor dd = some ty) (hn : narrow ty (.int v) = .int v) (hfi : fits ty (.int v) = true) (hT : T[k]? = some (.inl (ci, fs))) (hf : fs[i]? = some none) (d : decode b pc = .ok (.putfield idx, 3)) (kk : V X G T (st2 σ k i v) L st (pc + 3)) : V X G T σ L (.int v :: .ref (ad G k) :: st) pc := fun H locs ls hP hS hl => by
  obtain ⟨C, Tt, N, ty0, ⟨hc, hi, hw, hu, ht0, hnm⟩, hfin, hdd⟩ := F
  have hlen : i < (vl G (σ k) fs).length := by simp [vl]; exact (List.getElem?_eq_some_iff.mp hf).1
  have hap := va_apart (own := own) B.2.2.2.1 hu ty0 ht0 hnm B.2.2.2.2.1.1 hc
  obtain ⟨r, h1, cell, q1, q2, q3, q4⟩ := hP k _ (wl_at hT)
  have hr : r = (C, Tt, N) := Option.some.inj (h1.symm.trans hc)
  subst hr
  obtain ⟨hS1, hfc, kC, hkC, hkind⟩ := B.2.2.2.2.1.1.1 ci _ hc
  obtain ⟨cf, kf, fi, f, hi1, hsl⟩ := hS1 i hi
  have hlay := B.2.2.2.1 _ (hu _ (u_in_lay hi))
  unfold u_lay at hlay
  rw [if_neg (by rw [hfin]; decide)] at hlay
  have hst := (u_facts hfc hkC (u_lays B.2.2.2.1 hu hi) hi1).1
  have h6 := u_store hfc hkC hkind hlay hi1 (by rw [hdd]; exact hty) hn hfi
  refine W.putK B.1 B.2.1 (f := f) ⟨B.2.2.1, B.2.2.2.1 _ hw, ⟨_, _, _, hi1⟩, hst⟩ (by rw [q2]; exact h6) q1 q3 (by rw [hsl]; exact k2_hasslot (q4 i hi)) rfl rfl d fun H' e1 e2 e3 => ?_
  rw [hsl] at e1 ⊢
  refine kk H' _ ls (Pic.put hT hf (hP.set wl_D (wl_at hT) ⟨_, hc, t_OB.to (V := updV (vp_V (vl G (σ k) fs)) i (.int v)) ⟨_, e1, q2, q3, t_set q4 hap hi (.int v)⟩ (fun j _ => vp_updV_set hlen (.int v) j)⟩ e3)) (hS.put e2 e3 (wl_D.2 k _ (wl_at (G := G) (σ := σ) hT))) hl
theorem r_puti (B : Bd l X G b own nL D) {idx ci i k : Nat} {fs : List (Option (Option Nat))} {v : Int32} (F : FP own idx ci i "I") (hT : T[k]? = some (.inl (ci, fs))) (hf : fs[i]? = some none) (d : decode b pc = .ok (.putfield idx, 3)) (kk : V X G T (st2 σ k i v) L st (pc + 3)) : V X G T σ L (.int v :: .ref (ad G k) :: st) pc := r_putw B F (ty := .int) (by decide +kernel) rfl rfl hT hf d kk
theorem r_putz (B : Bd l X G b own nL D) {idx ci i k : Nat} {fs : List (Option (Option Nat))} {v : Int32} (F : FP own idx ci i "Z") (hv : v = 0 ∨ v = 1) (hT : T[k]? = some (.inl (ci, fs))) (hf : fs[i]? = some none) (d : decode b pc = .ok (.putfield idx, 3)) (kk : V X G T (st2 σ k i v) L st (pc + 3)) : V X G T σ L (.int v :: .ref (ad G k) :: st) pc := r_putw B F (ty := .boolean) (by decide +kernel) (by rcases hv with rfl | rfl <;> rfl) (by rcases hv with rfl | rfl <;> rfl) hT hf d kk
/-! arrays -/
theorem ix_nI {n N : Nat} (h : n < N) (hN : N < 2 ^ 31) : ix (nI n) N n := ⟨vp_in_nI h hN, nI_clamp (by omega)⟩
theorem r_iald (B : Bd l X G b own nL D) {k n j : Nat} {i : Int32} (hT : T[k]? = some (.inr (.inl n))) (hi : ix i n j) (d : decode b pc = .ok (.iaload, 1)) (kk : V X G T σ L (.int (σ k j) :: st) (pc + 1)) : V X G T σ L (.int i :: .ref (ad G k) :: st) pc := fun H locs ls hP hS hl => by
  obtain ⟨h1, rfl⟩ := hi
  exact va_iald (D := G.1) (cl := vwCl) B.1 B.2.1 B.2.2.2.2.1.1 hP k 0 (wl_at hT) rfl h1 d (kk H locs ls hP hS hl)
theorem r_iast (B : Bd l X G b own nL D) {k n j : Nat} {i v : Int32} (hT : T[k]? = some (.inr (.inl n))) (hi : ix i n j) (d : decode b pc = .ok (.iastore, 1)) (kk : V X G T (st2 σ k j v) L st (pc + 1)) : V X G T σ L (.int v :: .int i :: .ref (ad G k) :: st) pc := fun H locs ls hP hS hl => by
  obtain ⟨h1, rfl⟩ := hi
  refine W.iast B.1 B.2.1 (hP k _ (wl_at hT)) ((B.2.2.2.2.1.1.2 0 (G.2.1 0, .int) rfl).1 n (fun j => .int (σ k j))) (fun q => by cases q) (by show ¬ (i < 0 ∨ (arrV _ _ _).slots.size ≤ _); rw [arrV_size]; exact h1) rfl rfl d fun H1 e z oq => ?_
  have hat : va_at G.1 vwCl (ad G k, ce G (upd (σ k) i.toNatClampNeg v) (.inr (.inl n))) H1 := by
    show H1[_]? = some (vp_cell _ _)
    rw [e]
    show some ((vp_cell (G.2.1 0) (n, .inl (σ k))).setSlot _ _) = some (vp_cell (G.2.1 0) (n, .inl (upd (σ k) i.toNatClampNeg v)))
    rw [vp_cell_i, vp_cell_i, arrV_store]
    congr 2
    funext q
    by_cases hq : q = i.toNatClampNeg
    · subst hq
      simp [updV, upd]
    · simp [updV, upd, hq]
  have h3 := hP.set wl_D (wl_at hT) hat oq
  rw [wl_set hT, st2_eq] at h3
  exact kk H1 _ ls h3 (hS.put z oq (wl_D.2 k _ (wl_at (G := G) (σ := σ) hT))) hl
theorem r_alen (B : Bd l X G b own nL D) {k n : Nat} (hT : T[k]? = some (.inr (.inl n))) (d : decode b pc = .ok (.arraylength, 1)) (kk : V X G T σ L (.int (nI n) :: st) (pc + 1)) : V X G T σ L (.ref (ad G k) :: st) pc := fun H locs ls hP hS hl => va_alen (D := G.1) (cl := vwCl) B.1 B.2.1 B.2.2.2.2.1.1 hP k 0 (wl_at hT) (ty := .int) rfl rfl d (kk H locs ls hP hS hl)
theorem r_aald (B : Bd l X G b own nL D) {k c j q : Nat} {C : String} {js : List (Option Nat)} {i : Int32} (hT : T[k]? = some (.inr (.inr (c, js)))) (hc : (tyL G)[c]? = some (G.2.1 c, .object C)) (hi : ix i js.length j) (hj : js[j]? = some (some q)) (d : decode b pc = .ok (.aaload, 1)) (kk : V X G T σ L (.ref (ad G q) :: st) (pc + 1)) : V X G T σ L (.int i :: .ref (ad G k) :: st) pc := fun H locs ls hP hS hl => by
  obtain ⟨h1, rfl⟩ := hi
  refine va_aldq (D := G.1) (cl := vwCl) (f := fun i => ((js[i]?).getD none).map (ad G)) B.1 B.2.1 B.2.2.2.2.1.1 hP k c (wl_at hT) hc h1 d ?_
  have e : va_rf ((fun i => ((js[i]?).getD none).map (ad G)) i.toNatClampNeg) = .ref (ad G q) := by
    show va_rf (((js[i.toNatClampNeg]?).getD none).map (ad G)) = _
    rw [hj]; rfl
  rw [e]
  exact kk H locs ls hP hS hl
/-! the two tables -/
theorem r_gs (B : Bd l X G b own nL D) {idx : Nat} (w : Cond.fieldLink own idx "InsideOut" "GREATEST" "[I" ∈ lwg) (d : decode b pc = .ok (.getstatic idx, 3)) (kk : V X G T σ L (.ref G.2.2.2.2.2.1 :: st) (pc + 3)) : V X G T σ L st pc := fun H locs ls hP hS hl => va_gets B.1 B.2.1 B.2.2.2.2.1.2.1.1 hS B.2.2.1 (B.2.2.2.1 _ w) (fun _ h => h) d (kk H locs ls hP hS hl)
theorem r_gk (B : Bd l X G b own nL D) {idx : Nat} (w : Cond.fieldLink own idx "InsideOut" "KIND_ABOVE" "[I" ∈ lwg) (d : decode b pc = .ok (.getstatic idx, 3)) (kk : V X G T σ L (.ref G.2.2.2.2.2.2 :: st) (pc + 3)) : V X G T σ L st pc := fun H locs ls hP hS hl => va_gets B.1 B.2.1 B.2.2.2.2.1.2.1.2.2.1 hS B.2.2.1 (B.2.2.2.1 _ w) (fun _ h => h) d (kk H locs ls hP hS hl)
theorem r_gsN (B : Bd l X G b own nL D) {idx : Nat} (w : Cond.fieldLinkNest own idx "InsideOut" "GREATEST" "[I" "InsideOut" ∈ nW) (d : decode b pc = .ok (.getstatic idx, 3)) (kk : V X G T σ L (.ref G.2.2.2.2.2.1 :: st) (pc + 3)) : V X G T σ L st pc := fun H locs ls hP hS hl => va_getsN B.1 B.2.1 B.2.2.2.2.1.2.1.1 hS B.2.2.1 (va_Nw.use rfl (B.2.2.2.2.1.2.2.1 _ w)) (fun _ h => h) d (kk H locs ls hP hS hl)
theorem r_tg (B : Bd l X G b own nL D) {i v : Int32} (j : Nat) (hi : ix i 8 j) (hv : gT j = .int v) (d : decode b pc = .ok (.iaload, 1)) (kk : V X G T σ L (.int v :: st) (pc + 1)) : V X G T σ L (.int i :: .ref G.2.2.2.2.2.1 :: st) pc := fun H locs ls hP hS hl => by
  obtain ⟨h1, rfl⟩ := hi
  exact va_ti B.1 B.2.1 B.2.2.2.2.1.2.1.2.1 hS h1 hv d (kk H locs ls hP hS hl)
theorem r_tk (B : Bd l X G b own nL D) {i v : Int32} (j : Nat) (hi : ix i 7 j) (hv : kT j = .int v) (d : decode b pc = .ok (.iaload, 1)) (kk : V X G T σ L (.int v :: st) (pc + 1)) : V X G T σ L (.int i :: .ref G.2.2.2.2.2.2 :: st) pc := fun H locs ls hP hS hl => by
  obtain ⟨h1, rfl⟩ := hi
  exact va_ti B.1 B.2.1 B.2.2.2.2.1.2.1.2.2.2.1 hS h1 hv d (kk H locs ls hP hS hl)
/-! Math, arraycopy -/
def sm (st : List Value) : Nat := (st.map fun v => v.category).sum
theorem r_max (B : Bd l X G b own nL D) {idx : Nat} {x y : Int32} (w : Cond.methodLink own idx Lib.Math.max.name ∈ lwg) (hw : Cond.static Lib.Math.max.name ∈ lwg ∧ Cond.initialized "java/lang/Math" ∈ lwg ∧ Cond.code Lib.Math.max.name Lib.Math.max.code 2 (some .int) ∈ lwg) (hD : 1 ≤ D) (hs : sm st ≤ 8) (d : decode b pc = .ok (.invokestatic idx, 3)) (kk : V X G T σ L (.int (if x < y then y else x) :: st) (pc + 3)) : V X G T σ L (.int y :: .int x :: st) pc := fun H locs ls hP hS hl => by
  have h1 := B.2.2.2.2.2.2.1
  have h2 : sm st + 13 ≤ (xR X).locals := by omega
  have h3 : 1 ≤ (xR X).frames := by omega
  exact va_mmax B.1 B.2.1 hl.1.symm B.2.2.1 (B.2.2.2.1 _ w) (B.2.2.2.1 _ hw.1) (B.2.2.2.1 _ hw.2.1) (B.2.2.2.1 _ hw.2.2) h3 h2 B.2.2.2.2.2.2.2.1 B.2.2.2.2.2.2.2.2.1 d (kk H locs ls hP hS hl)
theorem r_min (B : Bd l X G b own nL D) {idx : Nat} {x y : Int32} (w : Cond.methodLink own idx Lib.Math.min.name ∈ lwg) (hw : Cond.static Lib.Math.min.name ∈ lwg ∧ Cond.initialized "java/lang/Math" ∈ lwg ∧ Cond.code Lib.Math.min.name Lib.Math.min.code 2 (some .int) ∈ lwg) (hD : 1 ≤ D) (hs : sm st ≤ 8) (d : decode b pc = .ok (.invokestatic idx, 3)) (kk : V X G T σ L (.int (if y < x then y else x) :: st) (pc + 3)) : V X G T σ L (.int y :: .int x :: st) pc := fun H locs ls hP hS hl => by
  have h1 := B.2.2.2.2.2.2.1
  have h2 : sm st + 13 ≤ (xR X).locals := by omega
  have h3 : 1 ≤ (xR X).frames := by omega
  exact va_mmin B.1 B.2.1 hl.1.symm B.2.2.1 (B.2.2.2.1 _ w) (B.2.2.2.1 _ hw.1) (B.2.2.2.1 _ hw.2.1) (B.2.2.2.1 _ hw.2.2) h3 h2 B.2.2.2.2.2.2.2.1 B.2.2.2.2.2.2.2.2.1 d (kk H locs ls hP hS hl)
/-- n numbers of cell a from sp on come to cell c from dp on -/
def cp2 (σ : Sg) (a sp c dp n : Nat) : Sg := va_up σ c (va_cpy (σ a) (σ c) sp dp n)
theorem r_copy (B : Bd l X G b own nL D) {idx a c na nc sj dj nj : Nat} {sp dp n : Int32} (w : Cond.methodLink own idx arraycopyName ∈ lwg) (hw : Cond.native arraycopyName ∈ lwg ∧ Cond.static arraycopyName ∈ lwg ∧ Cond.initialized "java/lang/System" ∈ lwg) (hD : 1 ≤ D) (hs : sm st ≤ 8) (hTa : T[a]? = some (.inr (.inl na))) (hTc : T[c]? = some (.inr (.inl nc))) (h1 : ¬ sp < 0 ∧ sp.toNatClampNeg = sj) (h2 : ¬ dp < 0 ∧ dp.toNatClampNeg = dj) (h3 : ¬ n < 0 ∧ n.toNatClampNeg = nj) (h4 : sj + nj ≤ na) (h5 : dj + nj ≤ nc) (d : decode b pc = .ok (.invokestatic idx, 3)) (kk : V X G T (cp2 σ a sj c dj nj) L st (pc + 3)) : V X G T σ L (.int n :: .int dp :: .ref (ad G c) :: .int sp :: .ref (ad G a) :: st) pc := fun H locs ls hP hS hl => by
  have hB := B.2.2.2.2.2.2.1
  have hnw : nativeFrameWords "java/lang/System" "arraycopy" 5 ≤ 18 := by decide +kernel
  have h6 : 1 ≤ (xR X).frames := by omega
  have h7 : sm st + (nativeFrameWords "java/lang/System" "arraycopy" 5 + 11) ≤ (xR X).locals := by omega
  obtain ⟨h1, rfl⟩ := h1
  obtain ⟨h2, rfl⟩ := h2
  obtain ⟨h3, rfl⟩ := h3
  refine va_copyi (D := G.1) (cl := vwCl) (f := σ a) (g := σ c) B.1 B.2.1 hl.1.symm B.2.2.1 (B.2.2.2.1 _ w) (B.2.2.2.1 _ hw.1) (B.2.2.2.1 _ hw.2.1) (B.2.2.2.1 _ hw.2.2) B.2.2.2.2.1.1 hP wl_D ⟨hS.1, hS.2.1, hS.2.2⟩ a c 0 0 (wl_at hTa) (wl_at hTc) rfl rfl rfl h1 h2 h3 h4 h5 (fun _ _ => rfl) h6 h7 d (fun H1 locs1 hP1 hD1 hS1 => ?_)
  have e := wl_set (G := G) (σ := σ) hTc (va_cpy (σ a) (σ c) sp.toNatClampNeg dp.toNatClampNeg n.toNatClampNeg)
  rw [show ce G (va_cpy (σ a) (σ c) sp.toNatClampNeg dp.toNatClampNeg n.toNatClampNeg) (.inr (.inl nc)) = .inl (G.2.1 0, nc, .inl (va_cpy (σ a) (σ c) sp.toNatClampNeg dp.toNatClampNeg n.toNatClampNeg)) from rfl] at e
  rw [e] at hP1
  exact kk H1 locs1 ls hP1 hS1 hl
end RF
end
