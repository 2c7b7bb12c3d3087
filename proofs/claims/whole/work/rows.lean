section
-- ===== PART A: goes FIRST, ahead of the names: the tables' words, and 'selects' of the private methods out of them =====
/-- a private method of a class that the tables say can be made, by its rows of tables_1 -/
def lw_okq (q : MethodName × Nat) : Prop := (q.1.cls ≠ "java/lang/invoke/MethodHandle" ∧ q.1.cls ≠ "java/lang/invoke/VarHandle") ∧ Cond.instantiable q.1.cls q.2 ∈ tables_1 ∧ Cond.privateMethod q.1 ∈ tables_1 ∧ Cond.instanceMethod q.1 ∈ tables_1
theorem lw_p0 : lw_okq (⟨"InsideOut", "finding", "(I)I"⟩, 9) := ⟨⟨by decide +kernel, by decide +kernel⟩, List.mem_of_getElem? (i := 19) (by decide +kernel), List.mem_of_getElem? (i := 252) (by decide +kernel), List.mem_of_getElem? (i := 253) (by decide +kernel)⟩
theorem lw_p1 : lw_okq (⟨"InsideOut", "isUmbrella", "(I)Z"⟩, 9) := ⟨⟨by decide +kernel, by decide +kernel⟩, List.mem_of_getElem? (i := 19) (by decide +kernel), List.mem_of_getElem? (i := 304) (by decide +kernel), List.mem_of_getElem? (i := 305) (by decide +kernel)⟩
theorem lw_p2 : lw_okq (⟨"InsideOut$Umbrella", "holdByHabit", "(IIZ)V"⟩, 8) := ⟨⟨by decide +kernel, by decide +kernel⟩, List.mem_of_getElem? (i := 79) (by decide +kernel), List.mem_of_getElem? (i := 361) (by decide +kernel), List.mem_of_getElem? (i := 362) (by decide +kernel)⟩
theorem lw_p3 : lw_okq (⟨"InsideOut$Umbrella", "turn", "(IZ)Z"⟩, 8) := ⟨⟨by decide +kernel, by decide +kernel⟩, List.mem_of_getElem? (i := 79) (by decide +kernel), List.mem_of_getElem? (i := 365) (by decide +kernel), List.mem_of_getElem? (i := 366) (by decide +kernel)⟩
theorem lw_p4 : lw_okq (⟨"InsideOut", "startWalk", "(I)V"⟩, 9) := ⟨⟨by decide +kernel, by decide +kernel⟩, List.mem_of_getElem? (i := 19) (by decide +kernel), List.mem_of_getElem? (i := 394) (by decide +kernel), List.mem_of_getElem? (i := 395) (by decide +kernel)⟩
theorem lw_p5 : lw_okq (⟨"InsideOut", "driest", "(III)I"⟩, 9) := ⟨⟨by decide +kernel, by decide +kernel⟩, List.mem_of_getElem? (i := 19) (by decide +kernel), List.mem_of_getElem? (i := 448) (by decide +kernel), List.mem_of_getElem? (i := 449) (by decide +kernel)⟩
theorem lw_p6 : lw_okq (⟨"InsideOut", "fitting", "(IIII)I"⟩, 9) := ⟨⟨by decide +kernel, by decide +kernel⟩, List.mem_of_getElem? (i := 19) (by decide +kernel), List.mem_of_getElem? (i := 490) (by decide +kernel), List.mem_of_getElem? (i := 491) (by decide +kernel)⟩
theorem lw_p7 : lw_okq (⟨"InsideOut$Reader", "readToken", "()V"⟩, 5) := ⟨⟨by decide +kernel, by decide +kernel⟩, List.mem_of_getElem? (i := 173) (by decide +kernel), List.mem_of_getElem? (i := 559) (by decide +kernel), List.mem_of_getElem? (i := 560) (by decide +kernel)⟩
theorem lw_p8 : lw_okq (⟨"InsideOut$Reader", "readItem", "(LInsideOut$World;)Z"⟩, 5) := ⟨⟨by decide +kernel, by decide +kernel⟩, List.mem_of_getElem? (i := 173) (by decide +kernel), List.mem_of_getElem? (i := 571) (by decide +kernel), List.mem_of_getElem? (i := 572) (by decide +kernel)⟩
theorem lw_p9 : lw_okq (⟨"InsideOut$Reader", "isWord", "(Ljava/lang/String;)Z"⟩, 5) := ⟨⟨by decide +kernel, by decide +kernel⟩, List.mem_of_getElem? (i := 173) (by decide +kernel), List.mem_of_getElem? (i := 585) (by decide +kernel), List.mem_of_getElem? (i := 586) (by decide +kernel)⟩
theorem lw_p10 : lw_okq (⟨"InsideOut$Reader", "readUmbrella", "(LInsideOut$World;I)Z"⟩, 5) := ⟨⟨by decide +kernel, by decide +kernel⟩, List.mem_of_getElem? (i := 173) (by decide +kernel), List.mem_of_getElem? (i := 637) (by decide +kernel), List.mem_of_getElem? (i := 638) (by decide +kernel)⟩
theorem lw_p11 : lw_okq (⟨"InsideOut$Reader", "readMark", "(LInsideOut$Umbrella;Ljava/lang/String;I)Z"⟩, 5) := ⟨⟨by decide +kernel, by decide +kernel⟩, List.mem_of_getElem? (i := 173) (by decide +kernel), List.mem_of_getElem? (i := 644) (by decide +kernel), List.mem_of_getElem? (i := 645) (by decide +kernel)⟩
theorem lw_p12 : lw_okq (⟨"InsideOut$Reader", "nextNumber", "(I)I"⟩, 5) := ⟨⟨by decide +kernel, by decide +kernel⟩, List.mem_of_getElem? (i := 173) (by decide +kernel), List.mem_of_getElem? (i := 649) (by decide +kernel), List.mem_of_getElem? (i := 650) (by decide +kernel)⟩
theorem lw_p13 : lw_okq (⟨"InsideOut$Reader", "readWind", "(LInsideOut$Street;I)Z"⟩, 5) := ⟨⟨by decide +kernel, by decide +kernel⟩, List.mem_of_getElem? (i := 173) (by decide +kernel), List.mem_of_getElem? (i := 663) (by decide +kernel), List.mem_of_getElem? (i := 664) (by decide +kernel)⟩
theorem lw_p14 : lw_okq (⟨"InsideOut$Reader", "readRoof", "(LInsideOut$Street;I)Z"⟩, 5) := ⟨⟨by decide +kernel, by decide +kernel⟩, List.mem_of_getElem? (i := 173) (by decide +kernel), List.mem_of_getElem? (i := 669) (by decide +kernel), List.mem_of_getElem? (i := 670) (by decide +kernel)⟩
theorem lw_p15 : lw_okq (⟨"InsideOut$Reader", "readWeather", "(LInsideOut$Street;Z)Z"⟩, 5) := ⟨⟨by decide +kernel, by decide +kernel⟩, List.mem_of_getElem? (i := 173) (by decide +kernel), List.mem_of_getElem? (i := 675) (by decide +kernel), List.mem_of_getElem? (i := 676) (by decide +kernel)⟩
def lw_privs_1 : List (MethodName × Nat) := [(⟨"InsideOut", "finding", "(I)I"⟩, 9), (⟨"InsideOut", "isUmbrella", "(I)Z"⟩, 9), (⟨"InsideOut$Umbrella", "holdByHabit", "(IIZ)V"⟩, 8), (⟨"InsideOut$Umbrella", "turn", "(IZ)Z"⟩, 8), (⟨"InsideOut", "startWalk", "(I)V"⟩, 9), (⟨"InsideOut", "driest", "(III)I"⟩, 9), (⟨"InsideOut", "fitting", "(IIII)I"⟩, 9), (⟨"InsideOut$Reader", "readToken", "()V"⟩, 5), (⟨"InsideOut$Reader", "readItem", "(LInsideOut$World;)Z"⟩, 5), (⟨"InsideOut$Reader", "isWord", "(Ljava/lang/String;)Z"⟩, 5), (⟨"InsideOut$Reader", "readUmbrella", "(LInsideOut$World;I)Z"⟩, 5), (⟨"InsideOut$Reader", "readMark", "(LInsideOut$Umbrella;Ljava/lang/String;I)Z"⟩, 5), (⟨"InsideOut$Reader", "nextNumber", "(I)I"⟩, 5), (⟨"InsideOut$Reader", "readWind", "(LInsideOut$Street;I)Z"⟩, 5), (⟨"InsideOut$Reader", "readRoof", "(LInsideOut$Street;I)Z"⟩, 5), (⟨"InsideOut$Reader", "readWeather", "(LInsideOut$Street;Z)Z"⟩, 5)]
theorem lw_r1 : ∀ q ∈ lw_privs_1, lw_okq q := List.forall_mem_cons.mpr ⟨lw_p0, List.forall_mem_cons.mpr ⟨lw_p1, List.forall_mem_cons.mpr ⟨lw_p2, List.forall_mem_cons.mpr ⟨lw_p3, List.forall_mem_cons.mpr ⟨lw_p4, List.forall_mem_cons.mpr ⟨lw_p5, List.forall_mem_cons.mpr ⟨lw_p6, List.forall_mem_cons.mpr ⟨lw_p7, List.forall_mem_cons.mpr ⟨lw_p8, List.forall_mem_cons.mpr ⟨lw_p9, List.forall_mem_cons.mpr ⟨lw_p10, List.forall_mem_cons.mpr ⟨lw_p11, List.forall_mem_cons.mpr ⟨lw_p12, List.forall_mem_cons.mpr ⟨lw_p13, List.forall_mem_cons.mpr ⟨lw_p14, List.forall_mem_cons.mpr ⟨lw_p15, fun _ h => absurd h List.not_mem_nil⟩⟩⟩⟩⟩⟩⟩⟩⟩⟩⟩⟩⟩⟩⟩⟩
theorem lw_p16 : lw_okq (⟨"InsideOutModel", "finds", "(I)I"⟩, 21) := ⟨⟨by decide +kernel, by decide +kernel⟩, List.mem_of_getElem? (i := 755) (by decide +kernel), List.mem_of_getElem? (i := 838) (by decide +kernel), List.mem_of_getElem? (i := 839) (by decide +kernel)⟩
theorem lw_p17 : lw_okq (⟨"InsideOutModel", "becomes", "(II)I"⟩, 21) := ⟨⟨by decide +kernel, by decide +kernel⟩, List.mem_of_getElem? (i := 755) (by decide +kernel), List.mem_of_getElem? (i := 842) (by decide +kernel), List.mem_of_getElem? (i := 843) (by decide +kernel)⟩
theorem lw_p18 : lw_okq (⟨"InsideOutModel", "wind", "(I)I"⟩, 21) := ⟨⟨by decide +kernel, by decide +kernel⟩, List.mem_of_getElem? (i := 755) (by decide +kernel), List.mem_of_getElem? (i := 851) (by decide +kernel), List.mem_of_getElem? (i := 852) (by decide +kernel)⟩
theorem lw_p19 : lw_okq (⟨"InsideOutModel", "there", "(I)I"⟩, 21) := ⟨⟨by decide +kernel, by decide +kernel⟩, List.mem_of_getElem? (i := 755) (by decide +kernel), List.mem_of_getElem? (i := 855) (by decide +kernel), List.mem_of_getElem? (i := 856) (by decide +kernel)⟩
theorem lw_p20 : lw_okq (⟨"InsideOutModel", "its", "(II)I"⟩, 21) := ⟨⟨by decide +kernel, by decide +kernel⟩, List.mem_of_getElem? (i := 755) (by decide +kernel), List.mem_of_getElem? (i := 859) (by decide +kernel), List.mem_of_getElem? (i := 860) (by decide +kernel)⟩
theorem lw_p21 : lw_okq (⟨"InsideOutModel", "comes", "(I)V"⟩, 21) := ⟨⟨by decide +kernel, by decide +kernel⟩, List.mem_of_getElem? (i := 755) (by decide +kernel), List.mem_of_getElem? (i := 873) (by decide +kernel), List.mem_of_getElem? (i := 874) (by decide +kernel)⟩
theorem lw_p22 : lw_okq (⟨"InsideOutModel", "isUmbrella", "(I)Z"⟩, 21) := ⟨⟨by decide +kernel, by decide +kernel⟩, List.mem_of_getElem? (i := 755) (by decide +kernel), List.mem_of_getElem? (i := 884) (by decide +kernel), List.mem_of_getElem? (i := 885) (by decide +kernel)⟩
theorem lw_p23 : lw_okq (⟨"InsideOutModel", "stiff", "(I)I"⟩, 21) := ⟨⟨by decide +kernel, by decide +kernel⟩, List.mem_of_getElem? (i := 755) (by decide +kernel), List.mem_of_getElem? (i := 889) (by decide +kernel), List.mem_of_getElem? (i := 890) (by decide +kernel)⟩
theorem lw_p24 : lw_okq (⟨"InsideOutModel", "covers", "(I)I"⟩, 21) := ⟨⟨by decide +kernel, by decide +kernel⟩, List.mem_of_getElem? (i := 755) (by decide +kernel), List.mem_of_getElem? (i := 896) (by decide +kernel), List.mem_of_getElem? (i := 897) (by decide +kernel)⟩
theorem lw_p25 : lw_okq (⟨"InsideOutModel", "pace", "(I)I"⟩, 21) := ⟨⟨by decide +kernel, by decide +kernel⟩, List.mem_of_getElem? (i := 755) (by decide +kernel), List.mem_of_getElem? (i := 903) (by decide +kernel), List.mem_of_getElem? (i := 904) (by decide +kernel)⟩
theorem lw_p26 : lw_okq (⟨"InsideOutModel", "bearsOn", "(III)I"⟩, 21) := ⟨⟨by decide +kernel, by decide +kernel⟩, List.mem_of_getElem? (i := 755) (by decide +kernel), List.mem_of_getElem? (i := 920) (by decide +kernel), List.mem_of_getElem? (i := 921) (by decide +kernel)⟩
theorem lw_p27 : lw_okq (⟨"InsideOutModel", "tick", "()I"⟩, 21) := ⟨⟨by decide +kernel, by decide +kernel⟩, List.mem_of_getElem? (i := 755) (by decide +kernel), List.mem_of_getElem? (i := 930) (by decide +kernel), List.mem_of_getElem? (i := 931) (by decide +kernel)⟩
theorem lw_p28 : lw_okq (⟨"InsideOutModel", "isHome", "(I)Z"⟩, 21) := ⟨⟨by decide +kernel, by decide +kernel⟩, List.mem_of_getElem? (i := 755) (by decide +kernel), List.mem_of_getElem? (i := 934) (by decide +kernel), List.mem_of_getElem? (i := 935) (by decide +kernel)⟩
theorem lw_p29 : lw_okq (⟨"InsideOutModel", "goesOn", "(I)Z"⟩, 21) := ⟨⟨by decide +kernel, by decide +kernel⟩, List.mem_of_getElem? (i := 755) (by decide +kernel), List.mem_of_getElem? (i := 938) (by decide +kernel), List.mem_of_getElem? (i := 939) (by decide +kernel)⟩
theorem lw_p30 : lw_okq (⟨"InsideOutModel", "heldBy", "(I)I"⟩, 21) := ⟨⟨by decide +kernel, by decide +kernel⟩, List.mem_of_getElem? (i := 755) (by decide +kernel), List.mem_of_getElem? (i := 942) (by decide +kernel), List.mem_of_getElem? (i := 943) (by decide +kernel)⟩
theorem lw_p31 : lw_okq (⟨"InsideOutModel", "homes", "()I"⟩, 21) := ⟨⟨by decide +kernel, by decide +kernel⟩, List.mem_of_getElem? (i := 755) (by decide +kernel), List.mem_of_getElem? (i := 946) (by decide +kernel), List.mem_of_getElem? (i := 947) (by decide +kernel)⟩
def lw_privs_2 : List (MethodName × Nat) := [(⟨"InsideOutModel", "finds", "(I)I"⟩, 21), (⟨"InsideOutModel", "becomes", "(II)I"⟩, 21), (⟨"InsideOutModel", "wind", "(I)I"⟩, 21), (⟨"InsideOutModel", "there", "(I)I"⟩, 21), (⟨"InsideOutModel", "its", "(II)I"⟩, 21), (⟨"InsideOutModel", "comes", "(I)V"⟩, 21), (⟨"InsideOutModel", "isUmbrella", "(I)Z"⟩, 21), (⟨"InsideOutModel", "stiff", "(I)I"⟩, 21), (⟨"InsideOutModel", "covers", "(I)I"⟩, 21), (⟨"InsideOutModel", "pace", "(I)I"⟩, 21), (⟨"InsideOutModel", "bearsOn", "(III)I"⟩, 21), (⟨"InsideOutModel", "tick", "()I"⟩, 21), (⟨"InsideOutModel", "isHome", "(I)Z"⟩, 21), (⟨"InsideOutModel", "goesOn", "(I)Z"⟩, 21), (⟨"InsideOutModel", "heldBy", "(I)I"⟩, 21), (⟨"InsideOutModel", "homes", "()I"⟩, 21)]
theorem lw_r2 : ∀ q ∈ lw_privs_2, lw_okq q := List.forall_mem_cons.mpr ⟨lw_p16, List.forall_mem_cons.mpr ⟨lw_p17, List.forall_mem_cons.mpr ⟨lw_p18, List.forall_mem_cons.mpr ⟨lw_p19, List.forall_mem_cons.mpr ⟨lw_p20, List.forall_mem_cons.mpr ⟨lw_p21, List.forall_mem_cons.mpr ⟨lw_p22, List.forall_mem_cons.mpr ⟨lw_p23, List.forall_mem_cons.mpr ⟨lw_p24, List.forall_mem_cons.mpr ⟨lw_p25, List.forall_mem_cons.mpr ⟨lw_p26, List.forall_mem_cons.mpr ⟨lw_p27, List.forall_mem_cons.mpr ⟨lw_p28, List.forall_mem_cons.mpr ⟨lw_p29, List.forall_mem_cons.mpr ⟨lw_p30, List.forall_mem_cons.mpr ⟨lw_p31, fun _ h => absurd h List.not_mem_nil⟩⟩⟩⟩⟩⟩⟩⟩⟩⟩⟩⟩⟩⟩⟩⟩
theorem lw_p32 : lw_okq (⟨"InsideOutModel", "sumOf", "(I)I"⟩, 21) := ⟨⟨by decide +kernel, by decide +kernel⟩, List.mem_of_getElem? (i := 755) (by decide +kernel), List.mem_of_getElem? (i := 954) (by decide +kernel), List.mem_of_getElem? (i := 955) (by decide +kernel)⟩
theorem lw_p33 : lw_okq (⟨"InsideOutModel", "outs", "()I"⟩, 21) := ⟨⟨by decide +kernel, by decide +kernel⟩, List.mem_of_getElem? (i := 755) (by decide +kernel), List.mem_of_getElem? (i := 958) (by decide +kernel), List.mem_of_getElem? (i := 959) (by decide +kernel)⟩
theorem lw_p34 : lw_okq (⟨"InsideOutModel", "roofs", "()I"⟩, 21) := ⟨⟨by decide +kernel, by decide +kernel⟩, List.mem_of_getElem? (i := 755) (by decide +kernel), List.mem_of_getElem? (i := 962) (by decide +kernel), List.mem_of_getElem? (i := 963) (by decide +kernel)⟩
theorem lw_p35 : lw_okq (⟨"InsideOutModel", "goesAlone", "(I)V"⟩, 21) := ⟨⟨by decide +kernel, by decide +kernel⟩, List.mem_of_getElem? (i := 755) (by decide +kernel), List.mem_of_getElem? (i := 974) (by decide +kernel), List.mem_of_getElem? (i := 975) (by decide +kernel)⟩
theorem lw_p36 : lw_okq (⟨"InsideOutModel", "follows", "(I)I"⟩, 21) := ⟨⟨by decide +kernel, by decide +kernel⟩, List.mem_of_getElem? (i := 755) (by decide +kernel), List.mem_of_getElem? (i := 982) (by decide +kernel), List.mem_of_getElem? (i := 983) (by decide +kernel)⟩
theorem lw_p37 : lw_okq (⟨"InsideOutModel", "orNone", "(I)I"⟩, 21) := ⟨⟨by decide +kernel, by decide +kernel⟩, List.mem_of_getElem? (i := 755) (by decide +kernel), List.mem_of_getElem? (i := 986) (by decide +kernel), List.mem_of_getElem? (i := 987) (by decide +kernel)⟩
theorem lw_p38 : lw_okq (⟨"InsideOutModel", "bestOf", "(III)I"⟩, 21) := ⟨⟨by decide +kernel, by decide +kernel⟩, List.mem_of_getElem? (i := 755) (by decide +kernel), List.mem_of_getElem? (i := 1007) (by decide +kernel), List.mem_of_getElem? (i := 1008) (by decide +kernel)⟩
theorem lw_p39 : lw_okq (⟨"InsideOutModel", "begins", "()V"⟩, 21) := ⟨⟨by decide +kernel, by decide +kernel⟩, List.mem_of_getElem? (i := 755) (by decide +kernel), List.mem_of_getElem? (i := 1011) (by decide +kernel), List.mem_of_getElem? (i := 1012) (by decide +kernel)⟩
theorem lw_p40 : lw_okq (⟨"InsideOutModel", "looksAt", "(II)V"⟩, 21) := ⟨⟨by decide +kernel, by decide +kernel⟩, List.mem_of_getElem? (i := 755) (by decide +kernel), List.mem_of_getElem? (i := 1016) (by decide +kernel), List.mem_of_getElem? (i := 1017) (by decide +kernel)⟩
theorem lw_p41 : lw_okq (⟨"InsideOutModel", "isWhole", "(I)Z"⟩, 21) := ⟨⟨by decide +kernel, by decide +kernel⟩, List.mem_of_getElem? (i := 755) (by decide +kernel), List.mem_of_getElem? (i := 1040) (by decide +kernel), List.mem_of_getElem? (i := 1041) (by decide +kernel)⟩
theorem lw_p42 : lw_okq (⟨"InsideOutModel", "wantsFor", "(II)I"⟩, 21) := ⟨⟨by decide +kernel, by decide +kernel⟩, List.mem_of_getElem? (i := 755) (by decide +kernel), List.mem_of_getElem? (i := 1052) (by decide +kernel), List.mem_of_getElem? (i := 1053) (by decide +kernel)⟩
theorem lw_p43 : lw_okq (⟨"InsideOutModel", "wants", "(I)I"⟩, 21) := ⟨⟨by decide +kernel, by decide +kernel⟩, List.mem_of_getElem? (i := 755) (by decide +kernel), List.mem_of_getElem? (i := 1056) (by decide +kernel), List.mem_of_getElem? (i := 1057) (by decide +kernel)⟩
theorem lw_p44 : lw_okq (⟨"InsideOutModel", "couldBe", "(III)I"⟩, 21) := ⟨⟨by decide +kernel, by decide +kernel⟩, List.mem_of_getElem? (i := 755) (by decide +kernel), List.mem_of_getElem? (i := 1064) (by decide +kernel), List.mem_of_getElem? (i := 1065) (by decide +kernel)⟩
theorem lw_p45 : lw_okq (⟨"InsideOutModel", "isTold", "(II)Z"⟩, 21) := ⟨⟨by decide +kernel, by decide +kernel⟩, List.mem_of_getElem? (i := 755) (by decide +kernel), List.mem_of_getElem? (i := 1068) (by decide +kernel), List.mem_of_getElem? (i := 1069) (by decide +kernel)⟩
theorem lw_p46 : lw_okq (⟨"InsideOutModel", "draw", "()I"⟩, 21) := ⟨⟨by decide +kernel, by decide +kernel⟩, List.mem_of_getElem? (i := 755) (by decide +kernel), List.mem_of_getElem? (i := 1081) (by decide +kernel), List.mem_of_getElem? (i := 1082) (by decide +kernel)⟩
theorem lw_p47 : lw_okq (⟨"InsideOutModel", "nextToken", "()V"⟩, 21) := ⟨⟨by decide +kernel, by decide +kernel⟩, List.mem_of_getElem? (i := 755) (by decide +kernel), List.mem_of_getElem? (i := 1111) (by decide +kernel), List.mem_of_getElem? (i := 1112) (by decide +kernel)⟩
def lw_privs_3 : List (MethodName × Nat) := [(⟨"InsideOutModel", "sumOf", "(I)I"⟩, 21), (⟨"InsideOutModel", "outs", "()I"⟩, 21), (⟨"InsideOutModel", "roofs", "()I"⟩, 21), (⟨"InsideOutModel", "goesAlone", "(I)V"⟩, 21), (⟨"InsideOutModel", "follows", "(I)I"⟩, 21), (⟨"InsideOutModel", "orNone", "(I)I"⟩, 21), (⟨"InsideOutModel", "bestOf", "(III)I"⟩, 21), (⟨"InsideOutModel", "begins", "()V"⟩, 21), (⟨"InsideOutModel", "looksAt", "(II)V"⟩, 21), (⟨"InsideOutModel", "isWhole", "(I)Z"⟩, 21), (⟨"InsideOutModel", "wantsFor", "(II)I"⟩, 21), (⟨"InsideOutModel", "wants", "(I)I"⟩, 21), (⟨"InsideOutModel", "couldBe", "(III)I"⟩, 21), (⟨"InsideOutModel", "isTold", "(II)Z"⟩, 21), (⟨"InsideOutModel", "draw", "()I"⟩, 21), (⟨"InsideOutModel", "nextToken", "()V"⟩, 21)]
theorem lw_r3 : ∀ q ∈ lw_privs_3, lw_okq q := List.forall_mem_cons.mpr ⟨lw_p32, List.forall_mem_cons.mpr ⟨lw_p33, List.forall_mem_cons.mpr ⟨lw_p34, List.forall_mem_cons.mpr ⟨lw_p35, List.forall_mem_cons.mpr ⟨lw_p36, List.forall_mem_cons.mpr ⟨lw_p37, List.forall_mem_cons.mpr ⟨lw_p38, List.forall_mem_cons.mpr ⟨lw_p39, List.forall_mem_cons.mpr ⟨lw_p40, List.forall_mem_cons.mpr ⟨lw_p41, List.forall_mem_cons.mpr ⟨lw_p42, List.forall_mem_cons.mpr ⟨lw_p43, List.forall_mem_cons.mpr ⟨lw_p44, List.forall_mem_cons.mpr ⟨lw_p45, List.forall_mem_cons.mpr ⟨lw_p46, List.forall_mem_cons.mpr ⟨lw_p47, fun _ h => absurd h List.not_mem_nil⟩⟩⟩⟩⟩⟩⟩⟩⟩⟩⟩⟩⟩⟩⟩⟩
theorem lw_p48 : lw_okq (⟨"InsideOutModel", "byteAt", "(I)I"⟩, 21) := ⟨⟨by decide +kernel, by decide +kernel⟩, List.mem_of_getElem? (i := 755) (by decide +kernel), List.mem_of_getElem? (i := 1115) (by decide +kernel), List.mem_of_getElem? (i := 1116) (by decide +kernel)⟩
theorem lw_p49 : lw_okq (⟨"InsideOutModel", "kindHere", "()I"⟩, 21) := ⟨⟨by decide +kernel, by decide +kernel⟩, List.mem_of_getElem? (i := 755) (by decide +kernel), List.mem_of_getElem? (i := 1125) (by decide +kernel), List.mem_of_getElem? (i := 1126) (by decide +kernel)⟩
theorem lw_p50 : lw_okq (⟨"InsideOutModel", "isWord", "(I)Z"⟩, 21) := ⟨⟨by decide +kernel, by decide +kernel⟩, List.mem_of_getElem? (i := 755) (by decide +kernel), List.mem_of_getElem? (i := 1129) (by decide +kernel), List.mem_of_getElem? (i := 1130) (by decide +kernel)⟩
theorem lw_p51 : lw_okq (⟨"InsideOutModel", "has3", "(IIII)Z"⟩, 21) := ⟨⟨by decide +kernel, by decide +kernel⟩, List.mem_of_getElem? (i := 755) (by decide +kernel), List.mem_of_getElem? (i := 1133) (by decide +kernel), List.mem_of_getElem? (i := 1134) (by decide +kernel)⟩
theorem lw_p52 : lw_okq (⟨"InsideOutModel", "isFive", "(IIIII)Z"⟩, 21) := ⟨⟨by decide +kernel, by decide +kernel⟩, List.mem_of_getElem? (i := 755) (by decide +kernel), List.mem_of_getElem? (i := 1137) (by decide +kernel), List.mem_of_getElem? (i := 1138) (by decide +kernel)⟩
theorem lw_p53 : lw_okq (⟨"InsideOutModel", "isFour", "(IIII)Z"⟩, 21) := ⟨⟨by decide +kernel, by decide +kernel⟩, List.mem_of_getElem? (i := 755) (by decide +kernel), List.mem_of_getElem? (i := 1141) (by decide +kernel), List.mem_of_getElem? (i := 1142) (by decide +kernel)⟩
theorem lw_p54 : lw_okq (⟨"InsideOutModel", "isSix", "(IIIIII)Z"⟩, 21) := ⟨⟨by decide +kernel, by decide +kernel⟩, List.mem_of_getElem? (i := 755) (by decide +kernel), List.mem_of_getElem? (i := 1145) (by decide +kernel), List.mem_of_getElem? (i := 1146) (by decide +kernel)⟩
theorem lw_p55 : lw_okq (⟨"InsideOutModel", "umbrellaHere", "(I)Z"⟩, 21) := ⟨⟨by decide +kernel, by decide +kernel⟩, List.mem_of_getElem? (i := 755) (by decide +kernel), List.mem_of_getElem? (i := 1149) (by decide +kernel), List.mem_of_getElem? (i := 1150) (by decide +kernel)⟩
theorem lw_p56 : lw_okq (⟨"InsideOutModel", "fails", "()Z"⟩, 21) := ⟨⟨by decide +kernel, by decide +kernel⟩, List.mem_of_getElem? (i := 755) (by decide +kernel), List.mem_of_getElem? (i := 1153) (by decide +kernel), List.mem_of_getElem? (i := 1154) (by decide +kernel)⟩
theorem lw_p57 : lw_okq (⟨"InsideOutModel", "isTwo", "(II)Z"⟩, 21) := ⟨⟨by decide +kernel, by decide +kernel⟩, List.mem_of_getElem? (i := 755) (by decide +kernel), List.mem_of_getElem? (i := 1157) (by decide +kernel), List.mem_of_getElem? (i := 1158) (by decide +kernel)⟩
theorem lw_p58 : lw_okq (⟨"InsideOutModel", "perhaps", "(ZI)Z"⟩, 21) := ⟨⟨by decide +kernel, by decide +kernel⟩, List.mem_of_getElem? (i := 755) (by decide +kernel), List.mem_of_getElem? (i := 1161) (by decide +kernel), List.mem_of_getElem? (i := 1162) (by decide +kernel)⟩
theorem lw_p59 : lw_okq (⟨"InsideOutModel", "isNumber", "(II)Z"⟩, 21) := ⟨⟨by decide +kernel, by decide +kernel⟩, List.mem_of_getElem? (i := 755) (by decide +kernel), List.mem_of_getElem? (i := 1165) (by decide +kernel), List.mem_of_getElem? (i := 1166) (by decide +kernel)⟩
theorem lw_p60 : lw_okq (⟨"InsideOutModel", "streetHere", "()Z"⟩, 21) := ⟨⟨by decide +kernel, by decide +kernel⟩, List.mem_of_getElem? (i := 755) (by decide +kernel), List.mem_of_getElem? (i := 1169) (by decide +kernel), List.mem_of_getElem? (i := 1170) (by decide +kernel)⟩
theorem lw_p61 : lw_okq (⟨"InsideOutModel", "stepHere", "(I)Z"⟩, 21) := ⟨⟨by decide +kernel, by decide +kernel⟩, List.mem_of_getElem? (i := 755) (by decide +kernel), List.mem_of_getElem? (i := 1173) (by decide +kernel), List.mem_of_getElem? (i := 1174) (by decide +kernel)⟩
theorem lw_p62 : lw_okq (⟨"InsideOutModel", "roofHere", "(I)Z"⟩, 21) := ⟨⟨by decide +kernel, by decide +kernel⟩, List.mem_of_getElem? (i := 755) (by decide +kernel), List.mem_of_getElem? (i := 1177) (by decide +kernel), List.mem_of_getElem? (i := 1178) (by decide +kernel)⟩
theorem lw_p63 : lw_okq (⟨"InsideOutModel", "weatherHere", "(I)Z"⟩, 21) := ⟨⟨by decide +kernel, by decide +kernel⟩, List.mem_of_getElem? (i := 755) (by decide +kernel), List.mem_of_getElem? (i := 1181) (by decide +kernel), List.mem_of_getElem? (i := 1182) (by decide +kernel)⟩
def lw_privs_4 : List (MethodName × Nat) := [(⟨"InsideOutModel", "byteAt", "(I)I"⟩, 21), (⟨"InsideOutModel", "kindHere", "()I"⟩, 21), (⟨"InsideOutModel", "isWord", "(I)Z"⟩, 21), (⟨"InsideOutModel", "has3", "(IIII)Z"⟩, 21), (⟨"InsideOutModel", "isFive", "(IIIII)Z"⟩, 21), (⟨"InsideOutModel", "isFour", "(IIII)Z"⟩, 21), (⟨"InsideOutModel", "isSix", "(IIIIII)Z"⟩, 21), (⟨"InsideOutModel", "umbrellaHere", "(I)Z"⟩, 21), (⟨"InsideOutModel", "fails", "()Z"⟩, 21), (⟨"InsideOutModel", "isTwo", "(II)Z"⟩, 21), (⟨"InsideOutModel", "perhaps", "(ZI)Z"⟩, 21), (⟨"InsideOutModel", "isNumber", "(II)Z"⟩, 21), (⟨"InsideOutModel", "streetHere", "()Z"⟩, 21), (⟨"InsideOutModel", "stepHere", "(I)Z"⟩, 21), (⟨"InsideOutModel", "roofHere", "(I)Z"⟩, 21), (⟨"InsideOutModel", "weatherHere", "(I)Z"⟩, 21)]
theorem lw_r4 : ∀ q ∈ lw_privs_4, lw_okq q := List.forall_mem_cons.mpr ⟨lw_p48, List.forall_mem_cons.mpr ⟨lw_p49, List.forall_mem_cons.mpr ⟨lw_p50, List.forall_mem_cons.mpr ⟨lw_p51, List.forall_mem_cons.mpr ⟨lw_p52, List.forall_mem_cons.mpr ⟨lw_p53, List.forall_mem_cons.mpr ⟨lw_p54, List.forall_mem_cons.mpr ⟨lw_p55, List.forall_mem_cons.mpr ⟨lw_p56, List.forall_mem_cons.mpr ⟨lw_p57, List.forall_mem_cons.mpr ⟨lw_p58, List.forall_mem_cons.mpr ⟨lw_p59, List.forall_mem_cons.mpr ⟨lw_p60, List.forall_mem_cons.mpr ⟨lw_p61, List.forall_mem_cons.mpr ⟨lw_p62, List.forall_mem_cons.mpr ⟨lw_p63, fun _ h => absurd h List.not_mem_nil⟩⟩⟩⟩⟩⟩⟩⟩⟩⟩⟩⟩⟩⟩⟩⟩
def lw_privs : List (MethodName × Nat) := lw_privs_1 ++ (lw_privs_2 ++ (lw_privs_3 ++ (lw_privs_4)))
def lw_tbl : List Cond := k2_sels lw_privs ++ tables_1
theorem lw_privs_ok : ∀ q ∈ lw_privs, lw_okq q := by
  show ∀ q ∈ lw_privs_1 ++ (lw_privs_2 ++ (lw_privs_3 ++ (lw_privs_4))), lw_okq q
  exact List.forall_mem_append.mpr ⟨lw_r1, List.forall_mem_append.mpr ⟨lw_r2, List.forall_mem_append.mpr ⟨lw_r3, lw_r4⟩⟩⟩
def RX0 : String := "InsideOut$Reader"
def TX0 : u_T := fun k => match k with
  | 0 => ("InsideOut$Reader", "tape", "LInsideOut$Tape;", true)
  | 1 => ("InsideOut$Reader", "place", "I", false)
  | 2 => ("InsideOut$Reader", "behind", "I", false)
  | 3 => ("InsideOut$Reader", "token", "I", false)
  | _ => ("InsideOut$Reader", "number", "I", false)
def tyX0 : Nat → FieldType := fun k => match k with
  | 0 => .object "InsideOut$Tape"
  | 1 => .int
  | 2 => .int
  | 3 => .int
  | _ => .int
theorem nmX0 : ∀ a, a < 5 → ∀ b, b < 5 → a ≠ b → (TX0 a).2.1 ≠ (TX0 b).2.1 := by decide +kernel
theorem tyX0_ok : ∀ k, k < 5 → parseFieldDescriptor (TX0 k).2.2.1 = some (tyX0 k) := by decide +kernel
def RX1 : String := "InsideOut$Sheet"
def TX1 : u_T := fun k => match k with
  | 0 => ("InsideOut$Sheet", "numbers", "[I", true)
  | 1 => ("InsideOut$Sheet", "bits", "I", false)
  | _ => ("InsideOut$Sheet", "size", "I", false)
def tyX1 : Nat → FieldType := fun k => match k with
  | 0 => .array .int
  | 1 => .int
  | _ => .int
theorem nmX1 : ∀ a, a < 3 → ∀ b, b < 3 → a ≠ b → (TX1 a).2.1 ≠ (TX1 b).2.1 := by decide +kernel
theorem tyX1_ok : ∀ k, k < 3 → parseFieldDescriptor (TX1 k).2.2.1 = some (tyX1 k) := by decide +kernel
def RX2 : String := "InsideOut$Street"
def TX2 : u_T := fun k => match k with
  | 0 => ("InsideOut$Street", "from", "[I", true)
  | 1 => ("InsideOut$Street", "strength", "[I", true)
  | 2 => ("InsideOut$Street", "roof", "[I", true)
  | 3 => ("InsideOut$Street", "rain", "I", false)
  | 4 => ("InsideOut$Street", "gust", "I", false)
  | _ => ("InsideOut$Street", "tick", "I", false)
def tyX2 : Nat → FieldType := fun k => match k with
  | 0 => .array .int
  | 1 => .array .int
  | 2 => .array .int
  | 3 => .int
  | 4 => .int
  | _ => .int
theorem nmX2 : ∀ a, a < 6 → ∀ b, b < 6 → a ≠ b → (TX2 a).2.1 ≠ (TX2 b).2.1 := by decide +kernel
theorem tyX2_ok : ∀ k, k < 6 → parseFieldDescriptor (TX2 k).2.2.1 = some (tyX2 k) := by decide +kernel
def RX3 : String := "InsideOut$Tape"
def TX3 : u_T := fun k => match k with
  | 0 => ("InsideOut$Tape", "bytes", "[I", true)
  | _ => ("InsideOut$Tape", "length", "I", false)
def tyX3 : Nat → FieldType := fun k => match k with
  | 0 => .array .int
  | _ => .int
theorem nmX3 : ∀ a, a < 2 → ∀ b, b < 2 → a ≠ b → (TX3 a).2.1 ≠ (TX3 b).2.1 := by decide +kernel
theorem tyX3_ok : ∀ k, k < 2 → parseFieldDescriptor (TX3 k).2.2.1 = some (tyX3 k) := by decide +kernel
def RX4 : String := "InsideOut$Umbrella"
def TX4 : u_T := fun k => match k with
  | 0 => ("InsideOut$Umbrella", "kind", "I", false)
  | 1 => ("InsideOut$Umbrella", "at", "I", false)
  | 2 => ("InsideOut$Umbrella", "held", "I", false)
  | 3 => ("InsideOut$Umbrella", "habit", "I", false)
  | 4 => ("InsideOut$Umbrella", "ribs", "I", false)
  | 5 => ("InsideOut$Umbrella", "out", "I", false)
  | 6 => ("InsideOut$Umbrella", "turned", "I", false)
  | _ => ("InsideOut$Umbrella", "wet", "I", false)
def tyX4 : Nat → FieldType := fun k => match k with
  | 0 => .int
  | 1 => .int
  | 2 => .int
  | 3 => .int
  | 4 => .int
  | 5 => .int
  | 6 => .int
  | _ => .int
theorem nmX4 : ∀ a, a < 8 → ∀ b, b < 8 → a ≠ b → (TX4 a).2.1 ≠ (TX4 b).2.1 := by decide +kernel
theorem tyX4_ok : ∀ k, k < 8 → parseFieldDescriptor (TX4 k).2.2.1 = some (tyX4 k) := by decide +kernel
def RX5 : String := "InsideOut$Walk"
def TX5 : u_T := fun k => match k with
  | 0 => ("InsideOut$Walk", "street", "LInsideOut$Street;", true)
  | _ => ("InsideOut$Walk", "walker", "LInsideOut$Umbrella;", true)
def tyX5 : Nat → FieldType := fun k => match k with
  | 0 => .object "InsideOut$Street"
  | _ => .object "InsideOut$Umbrella"
theorem nmX5 : ∀ a, a < 2 → ∀ b, b < 2 → a ≠ b → (TX5 a).2.1 ≠ (TX5 b).2.1 := by decide +kernel
theorem tyX5_ok : ∀ k, k < 2 → parseFieldDescriptor (TX5 k).2.2.1 = some (tyX5 k) := by decide +kernel
def RX6 : String := "InsideOut$World"
def TX6 : u_T := fun k => match k with
  | 0 => ("InsideOut$World", "street", "LInsideOut$Street;", true)
  | 1 => ("InsideOut$World", "umbrellas", "[LInsideOut$Umbrella;", true)
  | 2 => ("InsideOut$World", "size", "I", false)
  | 3 => ("InsideOut$World", "spots", "[I", true)
  | _ => ("InsideOut$World", "z", "I", false)
def tyX6 : Nat → FieldType := fun k => match k with
  | 0 => .object "InsideOut$Street"
  | 1 => .array (.object "InsideOut$Umbrella")
  | 2 => .int
  | 3 => .array .int
  | _ => .int
theorem nmX6 : ∀ a, a < 5 → ∀ b, b < 5 → a ≠ b → (TX6 a).2.1 ≠ (TX6 b).2.1 := by decide +kernel
theorem tyX6_ok : ∀ k, k < 5 → parseFieldDescriptor (TX6 k).2.2.1 = some (tyX6 k) := by decide +kernel
def RX7 : String := "InsideOut"
def TX7 : u_T := fun k => match k with
  | 0 => ("InsideOut", "world", "LInsideOut$World;", true)
  | 1 => ("InsideOut", "kept", "LInsideOut$World;", true)
  | 2 => ("InsideOut", "draft", "LInsideOut$World;", true)
  | 3 => ("InsideOut", "somethingKept", "Z", false)
  | 4 => ("InsideOut", "walk", "LInsideOut$Walk;", true)
  | 5 => ("InsideOut", "tape", "LInsideOut$Tape;", true)
  | 6 => ("InsideOut", "reader", "LInsideOut$Reader;", true)
  | 7 => ("InsideOut", "sheets", "[LInsideOut$Sheet;", true)
  | _ => ("InsideOut", "findings", "[I", true)
def tyX7 : Nat → FieldType := fun k => match k with
  | 0 => .object "InsideOut$World"
  | 1 => .object "InsideOut$World"
  | 2 => .object "InsideOut$World"
  | 3 => .boolean
  | 4 => .object "InsideOut$Walk"
  | 5 => .object "InsideOut$Tape"
  | 6 => .object "InsideOut$Reader"
  | 7 => .array (.object "InsideOut$Sheet")
  | _ => .array .int
theorem nmX7 : ∀ a, a < 9 → ∀ b, b < 9 → a ≠ b → (TX7 a).2.1 ≠ (TX7 b).2.1 := by decide +kernel
theorem tyX7_ok : ∀ k, k < 9 → parseFieldDescriptor (TX7 k).2.2.1 = some (tyX7 k) := by decide +kernel
def RX8 : String := "InsideOutModel"
def TX8 : u_T := fun k => match k with
  | 0 => ("InsideOutModel", "s", "[I", true)
  | 1 => ("InsideOutModel", "kept", "[I", true)
  | 2 => ("InsideOutModel", "before", "[I", true)
  | 3 => ("InsideOutModel", "aside", "[I", true)
  | 4 => ("InsideOutModel", "isKept", "Z", false)
  | 5 => ("InsideOutModel", "findings", "[I", true)
  | 6 => ("InsideOutModel", "tape", "[I", true)
  | 7 => ("InsideOutModel", "taped", "I", false)
  | 8 => ("InsideOutModel", "bitsOf", "[I", true)
  | 9 => ("InsideOutModel", "sizes", "[I", true)
  | 10 => ("InsideOutModel", "numbers", "[I", true)
  | 11 => ("InsideOutModel", "homeWet", "I", false)
  | 12 => ("InsideOutModel", "homeTurned", "I", false)
  | 13 => ("InsideOutModel", "homeRibs", "I", false)
  | 14 => ("InsideOutModel", "best", "I", false)
  | 15 => ("InsideOutModel", "driest", "I", false)
  | 16 => ("InsideOutModel", "token", "I", false)
  | 17 => ("InsideOutModel", "from", "I", false)
  | 18 => ("InsideOutModel", "to", "I", false)
  | 19 => ("InsideOutModel", "value", "I", false)
  | _ => ("InsideOutModel", "faultAt", "I", false)
def tyX8 : Nat → FieldType := fun k => match k with
  | 0 => .array .int
  | 1 => .array .int
  | 2 => .array .int
  | 3 => .array .int
  | 4 => .boolean
  | 5 => .array .int
  | 6 => .array .int
  | 7 => .int
  | 8 => .array .int
  | 9 => .array .int
  | 10 => .array .int
  | 11 => .int
  | 12 => .int
  | 13 => .int
  | 14 => .int
  | 15 => .int
  | 16 => .int
  | 17 => .int
  | 18 => .int
  | 19 => .int
  | _ => .int
theorem nmX8 : ∀ a, a < 21 → ∀ b, b < 21 → a ≠ b → (TX8 a).2.1 ≠ (TX8 b).2.1 := by decide +kernel
theorem tyX8_ok : ∀ k, k < 21 → parseFieldDescriptor (TX8 k).2.2.1 = some (tyX8 k) := by decide +kernel
abbrev vwCl : List vw_C := [(RX0, TX0, 5), (RX1, TX1, 3), (RX2, TX2, 6), (RX3, TX3, 2), (RX4, TX4, 8), (RX5, TX5, 2), (RX6, TX6, 5), (RX7, TX7, 9), (RX8, TX8, 21)]
def RJ6 : String := "java/lang/Integer"
def RJ9 : String := "java/lang/Math"
def RJ0 : String := "java/lang/String"
def RJ1 : String := "java/lang/StringLatin1"
def RJ2 : String := "java/lang/StringUTF16"
def RJ10 : String := "java/lang/System"
def RJ7 : String := "java/util/Arrays"
def RJ3 : String := "jdk/internal/util/Preconditions"
def RL : String := "InsideOutLaw"
/-- a method: its name, code, locals, answer -/
abbrev MR : Type := MethodName × ByteArray × Nat × Option FieldType
abbrev yX0_init : MethodName := ⟨RX0, "<init>", "(LInsideOut$Tape;)V"⟩
abbrev cX0_init : ByteArray := prog_2_method_1_code
abbrev mX0_init : MR := (yX0_init, cX0_init, 2, none)
abbrev yX0_readInto : MethodName := ⟨RX0, "readInto", "(LInsideOut$World;)I"⟩
abbrev cX0_readInto : ByteArray := prog_2_method_2_code
abbrev mX0_readInto : MR := (yX0_readInto, cX0_readInto, 3, (some .int))
abbrev yX0_readItem : MethodName := ⟨RX0, "readItem", "(LInsideOut$World;)Z"⟩
abbrev cX0_readItem : ByteArray := prog_2_method_3_code
abbrev mX0_readItem : MR := (yX0_readItem, cX0_readItem, 3, (some .boolean))
abbrev yX0_readUmbrella : MethodName := ⟨RX0, "readUmbrella", "(LInsideOut$World;I)Z"⟩
abbrev cX0_readUmbrella : ByteArray := prog_2_method_4_code
abbrev mX0_readUmbrella : MR := (yX0_readUmbrella, cX0_readUmbrella, 4, (some .boolean))
abbrev yX0_readMark : MethodName := ⟨RX0, "readMark", "(LInsideOut$Umbrella;Ljava/lang/String;I)Z"⟩
abbrev cX0_readMark : ByteArray := prog_2_method_5_code
abbrev mX0_readMark : MR := (yX0_readMark, cX0_readMark, 5, (some .boolean))
abbrev yX0_readWind : MethodName := ⟨RX0, "readWind", "(LInsideOut$Street;I)Z"⟩
abbrev cX0_readWind : ByteArray := prog_2_method_6_code
abbrev mX0_readWind : MR := (yX0_readWind, cX0_readWind, 5, (some .boolean))
abbrev yX0_readRoof : MethodName := ⟨RX0, "readRoof", "(LInsideOut$Street;I)Z"⟩
abbrev cX0_readRoof : ByteArray := prog_2_method_7_code
abbrev mX0_readRoof : MR := (yX0_readRoof, cX0_readRoof, 4, (some .boolean))
abbrev yX0_readWeather : MethodName := ⟨RX0, "readWeather", "(LInsideOut$Street;Z)Z"⟩
abbrev cX0_readWeather : ByteArray := prog_2_method_8_code
abbrev mX0_readWeather : MR := (yX0_readWeather, cX0_readWeather, 4, (some .boolean))
abbrev yX0_nextNumber : MethodName := ⟨RX0, "nextNumber", "(I)I"⟩
abbrev cX0_nextNumber : ByteArray := prog_2_method_9_code
abbrev mX0_nextNumber : MR := (yX0_nextNumber, cX0_nextNumber, 2, (some .int))
abbrev yX0_isWord : MethodName := ⟨RX0, "isWord", "(Ljava/lang/String;)Z"⟩
abbrev cX0_isWord : ByteArray := prog_2_method_10_code
abbrev mX0_isWord : MR := (yX0_isWord, cX0_isWord, 3, (some .boolean))
abbrev yX0_readToken : MethodName := ⟨RX0, "readToken", "()V"⟩
abbrev cX0_readToken : ByteArray := prog_2_method_11_code
abbrev mX0_readToken : MR := (yX0_readToken, cX0_readToken, 3, none)
abbrev yX0_tokenOf : MethodName := ⟨RX0, "tokenOf", "(I)I"⟩
abbrev cX0_tokenOf : ByteArray := prog_2_method_12_code
abbrev mX0_tokenOf : MR := (yX0_tokenOf, cX0_tokenOf, 1, (some .int))
abbrev yX0_wordOfKind : MethodName := ⟨RX0, "wordOfKind", "(I)Ljava/lang/String;"⟩
abbrev cX0_wordOfKind : ByteArray := prog_2_method_13_code
abbrev mX0_wordOfKind : MR := (yX0_wordOfKind, cX0_wordOfKind, 1, (some (.object "java/lang/String")))
abbrev yX0_wordOfFrom : MethodName := ⟨RX0, "wordOfFrom", "(I)Ljava/lang/String;"⟩
abbrev cX0_wordOfFrom : ByteArray := prog_2_method_14_code
abbrev mX0_wordOfFrom : MR := (yX0_wordOfFrom, cX0_wordOfFrom, 1, (some (.object "java/lang/String")))
abbrev yX1_init : MethodName := ⟨RX1, "<init>", "()V"⟩
abbrev cX1_init : ByteArray := prog_3_method_1_code
abbrev mX1_init : MR := (yX1_init, cX1_init, 1, none)
abbrev yX1_isMissing : MethodName := ⟨RX1, "isMissing", "()Z"⟩
abbrev cX1_isMissing : ByteArray := prog_3_method_2_code
abbrev mX1_isMissing : MR := (yX1_isMissing, cX1_isMissing, 1, (some .boolean))
abbrev yX1_clear : MethodName := ⟨RX1, "clear", "(II)V"⟩
abbrev cX1_clear : ByteArray := prog_3_method_3_code
abbrev mX1_clear : MR := (yX1_clear, cX1_clear, 3, none)
abbrev yX1_has : MethodName := ⟨RX1, "has", "(II)Z"⟩
abbrev cX1_has : ByteArray := prog_3_method_4_code
abbrev mX1_has : MR := (yX1_has, cX1_has, 3, (some .boolean))
abbrev yX1_put : MethodName := ⟨RX1, "put", "(II)V"⟩
abbrev cX1_put : ByteArray := prog_3_method_5_code
abbrev mX1_put : MR := (yX1_put, cX1_put, 3, none)
abbrev yX2_init : MethodName := ⟨RX2, "<init>", "()V"⟩
abbrev cX2_init : ByteArray := prog_4_method_1_code
abbrev mX2_init : MR := (yX2_init, cX2_init, 1, none)
abbrev yX2_setTo : MethodName := ⟨RX2, "setTo", "(LInsideOut$Street;)V"⟩
abbrev cX2_setTo : ByteArray := prog_4_method_2_code
abbrev mX2_setTo : MR := (yX2_setTo, cX2_setTo, 2, none)
abbrev yX2_windOn : MethodName := ⟨RX2, "windOn", "(I)I"⟩
abbrev cX2_windOn : ByteArray := prog_4_method_3_code
abbrev mX2_windOn : MR := (yX2_windOn, cX2_windOn, 3, (some .int))
abbrev yX2_roofs : MethodName := ⟨RX2, "roofs", "()I"⟩
abbrev cX2_roofs : ByteArray := prog_4_method_4_code
abbrev mX2_roofs : MR := (yX2_roofs, cX2_roofs, 3, (some .int))
abbrev yX2_nextTick : MethodName := ⟨RX2, "nextTick", "(I)V"⟩
abbrev cX2_nextTick : ByteArray := prog_4_method_5_code
abbrev mX2_nextTick : MR := (yX2_nextTick, cX2_nextTick, 2, none)
abbrev yX3_init : MethodName := ⟨RX3, "<init>", "()V"⟩
abbrev cX3_init : ByteArray := prog_5_method_1_code
abbrev mX3_init : MR := (yX3_init, cX3_init, 1, none)
abbrev yX3_append : MethodName := ⟨RX3, "append", "(II)V"⟩
abbrev cX3_append : ByteArray := prog_5_method_2_code
abbrev mX3_append : MR := (yX3_append, cX3_append, 4, none)
abbrev yX3_byteAt : MethodName := ⟨RX3, "byteAt", "(I)I"⟩
abbrev cX3_byteAt : ByteArray := prog_5_method_3_code
abbrev mX3_byteAt : MR := (yX3_byteAt, cX3_byteAt, 2, (some .int))
abbrev yX4_init : MethodName := ⟨RX4, "<init>", "()V"⟩
abbrev cX4_init : ByteArray := prog_6_method_1_code
abbrev mX4_init : MR := (yX4_init, cX4_init, 1, none)
abbrev yX4_beNew : MethodName := ⟨RX4, "beNew", "(I)V"⟩
abbrev cX4_beNew : ByteArray := prog_6_method_2_code
abbrev mX4_beNew : MR := (yX4_beNew, cX4_beNew, 2, none)
abbrev yX4_setTo : MethodName := ⟨RX4, "setTo", "(LInsideOut$Umbrella;)V"⟩
abbrev cX4_setTo : ByteArray := prog_6_method_3_code
abbrev mX4_setTo : MR := (yX4_setTo, cX4_setTo, 2, none)
abbrev yX4_mark : MethodName := ⟨RX4, "mark", "(I)I"⟩
abbrev cX4_mark : ByteArray := prog_6_method_4_code
abbrev mX4_mark : MR := (yX4_mark, cX4_mark, 2, (some .int))
abbrev yX4_setMark : MethodName := ⟨RX4, "setMark", "(II)V"⟩
abbrev cX4_setMark : ByteArray := prog_6_method_5_code
abbrev mX4_setMark : MR := (yX4_setMark, cX4_setMark, 3, none)
abbrev yX4_stiff : MethodName := ⟨RX4, "stiff", "()I"⟩
abbrev cX4_stiff : ByteArray := prog_6_method_6_code
abbrev mX4_stiff : MR := (yX4_stiff, cX4_stiff, 5, (some .int))
abbrev yX4_bearable : MethodName := ⟨RX4, "bearable", "(III)I"⟩
abbrev cX4_bearable : ByteArray := prog_6_method_7_code
abbrev mX4_bearable : MR := (yX4_bearable, cX4_bearable, 4, (some .int))
abbrev yX4_covers : MethodName := ⟨RX4, "covers", "(LInsideOut$Street;)I"⟩
abbrev cX4_covers : ByteArray := prog_6_method_8_code
abbrev mX4_covers : MR := (yX4_covers, cX4_covers, 5, (some .int))
abbrev yX4_pace : MethodName := ⟨RX4, "pace", "(I)I"⟩
abbrev cX4_pace : ByteArray := prog_6_method_9_code
abbrev mX4_pace : MR := (yX4_pace, cX4_pace, 2, (some .int))
abbrev yX4_walkOn : MethodName := ⟨RX4, "walkOn", "(LInsideOut$Street;)Z"⟩
abbrev cX4_walkOn : ByteArray := prog_6_method_10_code
abbrev mX4_walkOn : MR := (yX4_walkOn, cX4_walkOn, 8, (some .boolean))
abbrev yX4_holdByHabit : MethodName := ⟨RX4, "holdByHabit", "(IIZ)V"⟩
abbrev cX4_holdByHabit : ByteArray := prog_6_method_11_code
abbrev mX4_holdByHabit : MR := (yX4_holdByHabit, cX4_holdByHabit, 4, none)
abbrev yX4_turn : MethodName := ⟨RX4, "turn", "(IZ)Z"⟩
abbrev cX4_turn : ByteArray := prog_6_method_12_code
abbrev mX4_turn : MR := (yX4_turn, cX4_turn, 3, (some .boolean))
abbrev yX5_init : MethodName := ⟨RX5, "<init>", "()V"⟩
abbrev cX5_init : ByteArray := prog_7_method_1_code
abbrev mX5_init : MR := (yX5_init, cX5_init, 1, none)
abbrev yX5_start : MethodName := ⟨RX5, "start", "(LInsideOut$Street;LInsideOut$Umbrella;)V"⟩
abbrev cX5_start : ByteArray := prog_7_method_2_code
abbrev mX5_start : MR := (yX5_start, cX5_start, 3, none)
abbrev yX5_choose : MethodName := ⟨RX5, "choose", "(II)Z"⟩
abbrev cX5_choose : ByteArray := prog_7_method_3_code
abbrev mX5_choose : MR := (yX5_choose, cX5_choose, 3, (some .boolean))
abbrev yX5_goOn : MethodName := ⟨RX5, "goOn", "()V"⟩
abbrev cX5_goOn : ByteArray := prog_7_method_4_code
abbrev mX5_goOn : MR := (yX5_goOn, cX5_goOn, 1, none)
abbrev yX5_ticksHome : MethodName := ⟨RX5, "ticksHome", "()I"⟩
abbrev cX5_ticksHome : ByteArray := prog_7_method_5_code
abbrev mX5_ticksHome : MR := (yX5_ticksHome, cX5_ticksHome, 2, (some .int))
abbrev yX5_ticksTillTurned : MethodName := ⟨RX5, "ticksTillTurned", "()I"⟩
abbrev cX5_ticksTillTurned : ByteArray := prog_7_method_6_code
abbrev mX5_ticksTillTurned : MR := (yX5_ticksTillTurned, cX5_ticksTillTurned, 3, (some .int))
abbrev yX5_comesHomeUnturned : MethodName := ⟨RX5, "comesHomeUnturned", "()Z"⟩
abbrev cX5_comesHomeUnturned : ByteArray := prog_7_method_7_code
abbrev mX5_comesHomeUnturned : MR := (yX5_comesHomeUnturned, cX5_comesHomeUnturned, 3, (some .boolean))
abbrev yX5_follows : MethodName := ⟨RX5, "follows", "(LInsideOut$Sheet;)Z"⟩
abbrev cX5_follows : ByteArray := prog_7_method_8_code
abbrev mX5_follows : MR := (yX5_follows, cX5_follows, 3, (some .boolean))
abbrev yX6_init : MethodName := ⟨RX6, "<init>", "()V"⟩
abbrev cX6_init : ByteArray := prog_8_method_1_code
abbrev mX6_init : MR := (yX6_init, cX6_init, 2, none)
abbrev yX6_become : MethodName := ⟨RX6, "become", "(LInsideOut$World;)V"⟩
abbrev cX6_become : ByteArray := prog_8_method_2_code
abbrev mX6_become : MR := (yX6_become, cX6_become, 3, none)
abbrev yX6_isFull : MethodName := ⟨RX6, "isFull", "()Z"⟩
abbrev cX6_isFull : ByteArray := prog_8_method_3_code
abbrev mX6_isFull : MR := (yX6_isFull, cX6_isFull, 1, (some .boolean))
abbrev yX6_addUmbrella : MethodName := ⟨RX6, "addUmbrella", "(I)I"⟩
abbrev cX6_addUmbrella : ByteArray := prog_8_method_4_code
abbrev mX6_addUmbrella : MR := (yX6_addUmbrella, cX6_addUmbrella, 3, (some .int))
abbrev yX6_passTick : MethodName := ⟨RX6, "passTick", "()I"⟩
abbrev cX6_passTick : ByteArray := prog_8_method_5_code
abbrev mX6_passTick : MR := (yX6_passTick, cX6_passTick, 3, (some .int))
abbrev yX6_draw : MethodName := ⟨RX6, "draw", "()I"⟩
abbrev cX6_draw : ByteArray := prog_8_method_6_code
abbrev mX6_draw : MR := (yX6_draw, cX6_draw, 1, (some .int))
abbrev yX6_setOf : MethodName := ⟨RX6, "setOf", "(II)I"⟩
abbrev cX6_setOf : ByteArray := prog_8_method_7_code
abbrev mX6_setOf : MR := (yX6_setOf, cX6_setOf, 5, (some .int))
abbrev yX6_sumOf : MethodName := ⟨RX6, "sumOf", "(I)I"⟩
abbrev cX6_sumOf : ByteArray := prog_8_method_8_code
abbrev mX6_sumOf : MR := (yX6_sumOf, cX6_sumOf, 4, (some .int))
abbrev yX6_spotsHolding : MethodName := ⟨RX6, "spotsHolding", "()I"⟩
abbrev cX6_spotsHolding : ByteArray := prog_8_method_9_code
abbrev mX6_spotsHolding : MR := (yX6_spotsHolding, cX6_spotsHolding, 3, (some .int))
abbrev yX7_init : MethodName := ⟨RX7, "<init>", "()V"⟩
abbrev cX7_init : ByteArray := prog_1_method_1_code
abbrev mX7_init : MR := (yX7_init, cX7_init, 2, none)
abbrev yX7_step : MethodName := ⟨RX7, "step", "(III)I"⟩
abbrev cX7_step : ByteArray := prog_1_method_2_code
abbrev mX7_step : MR := (yX7_step, cX7_step, 8, (some .int))
abbrev yX7_stepOf : MethodName := ⟨RX7, "stepOf", "(II)I"⟩
abbrev cX7_stepOf : ByteArray := prog_1_method_3_code
abbrev mX7_stepOf : MR := (yX7_stepOf, cX7_stepOf, 4, (some .int))
abbrev yX7_weather : MethodName := ⟨RX7, "weather", "(II)I"⟩
abbrev cX7_weather : ByteArray := prog_1_method_4_code
abbrev mX7_weather : MR := (yX7_weather, cX7_weather, 5, (some .int))
abbrev yX7_umbrella : MethodName := ⟨RX7, "umbrella", "(I)I"⟩
abbrev cX7_umbrella : ByteArray := prog_1_method_5_code
abbrev mX7_umbrella : MR := (yX7_umbrella, cX7_umbrella, 2, (some .int))
abbrev yX7_of : MethodName := ⟨RX7, "of", "(II)I"⟩
abbrev cX7_of : ByteArray := prog_1_method_6_code
abbrev mX7_of : MR := (yX7_of, cX7_of, 4, (some .int))
abbrev yX7_change : MethodName := ⟨RX7, "change", "(III)I"⟩
abbrev cX7_change : ByteArray := prog_1_method_7_code
abbrev mX7_change : MR := (yX7_change, cX7_change, 6, (some .int))
abbrev yX7_bears : MethodName := ⟨RX7, "bears", "(III)I"⟩
abbrev cX7_bears : ByteArray := prog_1_method_8_code
abbrev mX7_bears : MR := (yX7_bears, cX7_bears, 5, (some .int))
abbrev yX7_go : MethodName := ⟨RX7, "go", "(I)I"⟩
abbrev cX7_go : ByteArray := prog_1_method_9_code
abbrev mX7_go : MR := (yX7_go, cX7_go, 3, (some .int))
abbrev yX7_now : MethodName := ⟨RX7, "now", "(I)I"⟩
abbrev cX7_now : ByteArray := prog_1_method_10_code
abbrev mX7_now : MR := (yX7_now, cX7_now, 2, (some .int))
abbrev yX7_ahead : MethodName := ⟨RX7, "ahead", "(III)I"⟩
abbrev cX7_ahead : ByteArray := prog_1_method_11_code
abbrev mX7_ahead : MR := (yX7_ahead, cX7_ahead, 5, (some .int))
abbrev yX7_home : MethodName := ⟨RX7, "home", "(I)I"⟩
abbrev cX7_home : ByteArray := prog_1_method_12_code
abbrev mX7_home : MR := (yX7_home, cX7_home, 3, (some .int))
abbrev yX7_homeWith : MethodName := ⟨RX7, "homeWith", "(II)I"⟩
abbrev cX7_homeWith : ByteArray := prog_1_method_13_code
abbrev mX7_homeWith : MR := (yX7_homeWith, cX7_homeWith, 3, (some .int))
abbrev yX7_whup : MethodName := ⟨RX7, "whup", "(I)I"⟩
abbrev cX7_whup : ByteArray := prog_1_method_14_code
abbrev mX7_whup : MR := (yX7_whup, cX7_whup, 3, (some .int))
abbrev yX7_first : MethodName := ⟨RX7, "first", "()I"⟩
abbrev cX7_first : ByteArray := prog_1_method_15_code
abbrev mX7_first : MR := (yX7_first, cX7_first, 5, (some .int))
abbrev yX7_habitFor : MethodName := ⟨RX7, "habitFor", "(I)I"⟩
abbrev cX7_habitFor : ByteArray := prog_1_method_16_code
abbrev mX7_habitFor : MR := (yX7_habitFor, cX7_habitFor, 2, (some .int))
abbrev yX7_heldFor : MethodName := ⟨RX7, "heldFor", "(I)I"⟩
abbrev cX7_heldFor : ByteArray := prog_1_method_17_code
abbrev mX7_heldFor : MR := (yX7_heldFor, cX7_heldFor, 2, (some .int))
abbrev yX7_kindFor : MethodName := ⟨RX7, "kindFor", "(I)I"⟩
abbrev cX7_kindFor : ByteArray := prog_1_method_18_code
abbrev mX7_kindFor : MR := (yX7_kindFor, cX7_kindFor, 2, (some .int))
abbrev yX7_roofFor : MethodName := ⟨RX7, "roofFor", "(I)I"⟩
abbrev cX7_roofFor : ByteArray := prog_1_method_19_code
abbrev mX7_roofFor : MR := (yX7_roofFor, cX7_roofFor, 2, (some .int))
abbrev yX7_waitFor : MethodName := ⟨RX7, "waitFor", "(I)I"⟩
abbrev cX7_waitFor : ByteArray := prog_1_method_20_code
abbrev mX7_waitFor : MR := (yX7_waitFor, cX7_waitFor, 2, (some .int))
abbrev yX7_gustFor : MethodName := ⟨RX7, "gustFor", "(I)I"⟩
abbrev cX7_gustFor : ByteArray := prog_1_method_21_code
abbrev mX7_gustFor : MR := (yX7_gustFor, cX7_gustFor, 3, (some .int))
abbrev yX7_ribsFor : MethodName := ⟨RX7, "ribsFor", "(I)I"⟩
abbrev cX7_ribsFor : ByteArray := prog_1_method_22_code
abbrev mX7_ribsFor : MR := (yX7_ribsFor, cX7_ribsFor, 3, (some .int))
abbrev yX7_fits : MethodName := ⟨RX7, "fits", "(II)I"⟩
abbrev cX7_fits : ByteArray := prog_1_method_23_code
abbrev mX7_fits : MR := (yX7_fits, cX7_fits, 3, (some .int))
abbrev yX7_kinds : MethodName := ⟨RX7, "kinds", "(II)I"⟩
abbrev cX7_kinds : ByteArray := prog_1_method_24_code
abbrev mX7_kinds : MR := (yX7_kinds, cX7_kinds, 3, (some .int))
abbrev yX7_gusts : MethodName := ⟨RX7, "gusts", "(I)I"⟩
abbrev cX7_gusts : ByteArray := prog_1_method_25_code
abbrev mX7_gusts : MR := (yX7_gusts, cX7_gusts, 6, (some .int))
abbrev yX7_odds : MethodName := ⟨RX7, "odds", "(II)J"⟩
abbrev cX7_odds : ByteArray := prog_1_method_26_code
abbrev mX7_odds : MR := (yX7_odds, cX7_odds, 10, (some .long))
abbrev yX7_seed : MethodName := ⟨RX7, "seed", "(I)I"⟩
abbrev cX7_seed : ByteArray := prog_1_method_27_code
abbrev mX7_seed : MR := (yX7_seed, cX7_seed, 3, (some .int))
abbrev yX7_feed : MethodName := ⟨RX7, "feed", "(II)I"⟩
abbrev cX7_feed : ByteArray := prog_1_method_28_code
abbrev mX7_feed : MR := (yX7_feed, cX7_feed, 3, (some .int))
abbrev yX7_wipe : MethodName := ⟨RX7, "wipe", "()I"⟩
abbrev cX7_wipe : ByteArray := prog_1_method_29_code
abbrev mX7_wipe : MR := (yX7_wipe, cX7_wipe, 2, (some .int))
abbrev yX7_text : MethodName := ⟨RX7, "text", "()I"⟩
abbrev cX7_text : ByteArray := prog_1_method_30_code
abbrev mX7_text : MR := (yX7_text, cX7_text, 2, (some .int))
abbrev yX7_hold : MethodName := ⟨RX7, "hold", "(II)I"⟩
abbrev cX7_hold : ByteArray := prog_1_method_31_code
abbrev mX7_hold : MR := (yX7_hold, cX7_hold, 3, (some .int))
abbrev yX7_as : MethodName := ⟨RX7, "as", "(II)I"⟩
abbrev cX7_as : ByteArray := prog_1_method_32_code
abbrev mX7_as : MR := (yX7_as, cX7_as, 4, (some .int))
abbrev yX7_sheet : MethodName := ⟨RX7, "sheet", "(III)I"⟩
abbrev cX7_sheet : ByteArray := prog_1_method_33_code
abbrev mX7_sheet : MR := (yX7_sheet, cX7_sheet, 4, (some .int))
abbrev yX7_write : MethodName := ⟨RX7, "write", "(III)I"⟩
abbrev cX7_write : ByteArray := prog_1_method_34_code
abbrev mX7_write : MR := (yX7_write, cX7_write, 5, (some .int))
abbrev yX7_copy : MethodName := ⟨RX7, "copy", "(IIIII)I"⟩
abbrev cX7_copy : ByteArray := prog_1_method_35_code
abbrev mX7_copy : MR := (yX7_copy, cX7_copy, 8, (some .int))
abbrev yX7_load : MethodName := ⟨RX7, "load", "(I)I"⟩
abbrev cX7_load : ByteArray := prog_1_method_36_code
abbrev mX7_load : MR := (yX7_load, cX7_load, 4, (some .int))
abbrev yX7_judge : MethodName := ⟨RX7, "judge", "(I)I"⟩
abbrev cX7_judge : ByteArray := prog_1_method_37_code
abbrev mX7_judge : MR := (yX7_judge, cX7_judge, 4, (some .int))
abbrev yX7_image : MethodName := ⟨RX7, "image", "()I"⟩
abbrev cX7_image : ByteArray := prog_1_method_38_code
abbrev mX7_image : MR := (yX7_image, cX7_image, 1, (some .int))
abbrev yX7_undo : MethodName := ⟨RX7, "undo", "()I"⟩
abbrev cX7_undo : ByteArray := prog_1_method_39_code
abbrev mX7_undo : MR := (yX7_undo, cX7_undo, 1, (some .int))
abbrev yX7_tear : MethodName := ⟨RX7, "tear", "()I"⟩
abbrev cX7_tear : ByteArray := prog_1_method_40_code
abbrev mX7_tear : MR := (yX7_tear, cX7_tear, 2, (some .int))
abbrev yX7_count : MethodName := ⟨RX7, "count", "(I)I"⟩
abbrev cX7_count : ByteArray := prog_1_method_41_code
abbrev mX7_count : MR := (yX7_count, cX7_count, 2, (some .int))
abbrev yX7_status : MethodName := ⟨RX7, "status", "(I)I"⟩
abbrev cX7_status : ByteArray := prog_1_method_42_code
abbrev mX7_status : MR := (yX7_status, cX7_status, 4, (some .int))
abbrev yX7_finding : MethodName := ⟨RX7, "finding", "(I)I"⟩
abbrev cX7_finding : ByteArray := prog_1_method_43_code
abbrev mX7_finding : MR := (yX7_finding, cX7_finding, 2, (some .int))
abbrev yX7_isWithin : MethodName := ⟨RX7, "isWithin", "(II)Z"⟩
abbrev cX7_isWithin : ByteArray := prog_1_method_44_code
abbrev mX7_isWithin : MR := (yX7_isWithin, cX7_isWithin, 2, (some .boolean))
abbrev yX7_isStep : MethodName := ⟨RX7, "isStep", "(I)Z"⟩
abbrev cX7_isStep : ByteArray := prog_1_method_45_code
abbrev mX7_isStep : MR := (yX7_isStep, cX7_isStep, 1, (some .boolean))
abbrev yX7_isKind : MethodName := ⟨RX7, "isKind", "(I)Z"⟩
abbrev cX7_isKind : ByteArray := prog_1_method_46_code
abbrev mX7_isKind : MR := (yX7_isKind, cX7_isKind, 1, (some .boolean))
abbrev yX7_isSpot : MethodName := ⟨RX7, "isSpot", "(I)Z"⟩
abbrev cX7_isSpot : ByteArray := prog_1_method_47_code
abbrev mX7_isSpot : MR := (yX7_isSpot, cX7_isSpot, 1, (some .boolean))
abbrev yX7_isSheet : MethodName := ⟨RX7, "isSheet", "(I)Z"⟩
abbrev cX7_isSheet : ByteArray := prog_1_method_48_code
abbrev mX7_isSheet : MR := (yX7_isSheet, cX7_isSheet, 1, (some .boolean))
abbrev yX7_isUmbrella : MethodName := ⟨RX7, "isUmbrella", "(I)Z"⟩
abbrev cX7_isUmbrella : ByteArray := prog_1_method_49_code
abbrev mX7_isUmbrella : MR := (yX7_isUmbrella, cX7_isUmbrella, 2, (some .boolean))
abbrev yX7_isUnder : MethodName := ⟨RX7, "isUnder", "(II)Z"⟩
abbrev cX7_isUnder : ByteArray := prog_1_method_50_code
abbrev mX7_isUnder : MR := (yX7_isUnder, cX7_isUnder, 4, (some .boolean))
abbrev yX7_startWalk : MethodName := ⟨RX7, "startWalk", "(I)V"⟩
abbrev cX7_startWalk : ByteArray := prog_1_method_51_code
abbrev mX7_startWalk : MR := (yX7_startWalk, cX7_startWalk, 2, none)
abbrev yX7_driest : MethodName := ⟨RX7, "driest", "(III)I"⟩
abbrev cX7_driest : ByteArray := prog_1_method_52_code
abbrev mX7_driest : MR := (yX7_driest, cX7_driest, 7, (some .int))
abbrev yX7_fitting : MethodName := ⟨RX7, "fitting", "(IIII)I"⟩
abbrev cX7_fitting : ByteArray := prog_1_method_53_code
abbrev mX7_fitting : MR := (yX7_fitting, cX7_fitting, 7, (some .int))
abbrev yX8_init : MethodName := ⟨RX8, "<init>", "()V"⟩
abbrev cX8_init : ByteArray := prog_10_method_1_code
abbrev mX8_init : MR := (yX8_init, cX8_init, 2, none)
abbrev yX8_isIn : MethodName := ⟨RX8, "isIn", "(JJJ)Z"⟩
abbrev cX8_isIn : ByteArray := prog_10_method_2_code
abbrev mX8_isIn : MR := (yX8_isIn, cX8_isIn, 6, (some .boolean))
abbrev yX8_finds : MethodName := ⟨RX8, "finds", "(I)I"⟩
abbrev cX8_finds : ByteArray := prog_10_method_3_code
abbrev mX8_finds : MR := (yX8_finds, cX8_finds, 2, (some .int))
abbrev yX8_becomes : MethodName := ⟨RX8, "becomes", "(II)I"⟩
abbrev cX8_becomes : ByteArray := prog_10_method_4_code
abbrev mX8_becomes : MR := (yX8_becomes, cX8_becomes, 4, (some .int))
abbrev yX8_copyRow : MethodName := ⟨RX8, "copyRow", "([I[I)V"⟩
abbrev cX8_copyRow : ByteArray := prog_10_method_5_code
abbrev mX8_copyRow : MR := (yX8_copyRow, cX8_copyRow, 3, none)
abbrev yX8_isStep : MethodName := ⟨RX8, "isStep", "(I)Z"⟩
abbrev cX8_isStep : ByteArray := prog_10_method_6_code
abbrev mX8_isStep : MR := (yX8_isStep, cX8_isStep, 1, (some .boolean))
abbrev yX8_isUmbrella : MethodName := ⟨RX8, "isUmbrella", "(I)Z"⟩
abbrev cX8_isUmbrella : ByteArray := prog_10_method_7_code
abbrev mX8_isUmbrella : MR := (yX8_isUmbrella, cX8_isUmbrella, 2, (some .boolean))
abbrev yX8_at : MethodName := ⟨RX8, "at", "(II)I"⟩
abbrev cX8_at : ByteArray := prog_10_method_8_code
abbrev mX8_at : MR := (yX8_at, cX8_at, 2, (some .int))
abbrev yX8_its : MethodName := ⟨RX8, "its", "(II)I"⟩
abbrev cX8_its : ByteArray := prog_10_method_9_code
abbrev mX8_its : MR := (yX8_its, cX8_its, 3, (some .int))
abbrev yX8_least : MethodName := ⟨RX8, "least", "(II)I"⟩
abbrev cX8_least : ByteArray := prog_10_method_10_code
abbrev mX8_least : MR := (yX8_least, cX8_least, 2, (some .int))
abbrev yX8_greatest : MethodName := ⟨RX8, "greatest", "(II)I"⟩
abbrev cX8_greatest : ByteArray := prog_10_method_11_code
abbrev mX8_greatest : MR := (yX8_greatest, cX8_greatest, 2, (some .int))
abbrev yX8_orNone : MethodName := ⟨RX8, "orNone", "(I)I"⟩
abbrev cX8_orNone : ByteArray := prog_10_method_12_code
abbrev mX8_orNone : MR := (yX8_orNone, cX8_orNone, 2, (some .int))
abbrev yX8_many : MethodName := ⟨RX8, "many", "(I)I"⟩
abbrev cX8_many : ByteArray := prog_10_method_13_code
abbrev mX8_many : MR := (yX8_many, cX8_many, 3, (some .int))
abbrev yX8_step : MethodName := ⟨RX8, "step", "(III)I"⟩
abbrev cX8_step : ByteArray := prog_10_method_14_code
abbrev mX8_step : MR := (yX8_step, cX8_step, 4, (some .int))
abbrev yX8_wind : MethodName := ⟨RX8, "wind", "(I)I"⟩
abbrev cX8_wind : ByteArray := prog_10_method_15_code
abbrev mX8_wind : MR := (yX8_wind, cX8_wind, 3, (some .int))
abbrev yX8_there : MethodName := ⟨RX8, "there", "(I)I"⟩
abbrev cX8_there : ByteArray := prog_10_method_16_code
abbrev mX8_there : MR := (yX8_there, cX8_there, 4, (some .int))
abbrev yX8_stepOf : MethodName := ⟨RX8, "stepOf", "(II)I"⟩
abbrev cX8_stepOf : ByteArray := prog_10_method_17_code
abbrev mX8_stepOf : MR := (yX8_stepOf, cX8_stepOf, 3, (some .int))
abbrev yX8_weather : MethodName := ⟨RX8, "weather", "(II)I"⟩
abbrev cX8_weather : ByteArray := prog_10_method_18_code
abbrev mX8_weather : MR := (yX8_weather, cX8_weather, 3, (some .int))
abbrev yX8_comes : MethodName := ⟨RX8, "comes", "(I)V"⟩
abbrev cX8_comes : ByteArray := prog_10_method_19_code
abbrev mX8_comes : MR := (yX8_comes, cX8_comes, 3, none)
abbrev yX8_umbrella : MethodName := ⟨RX8, "umbrella", "(I)I"⟩
abbrev cX8_umbrella : ByteArray := prog_10_method_20_code
abbrev mX8_umbrella : MR := (yX8_umbrella, cX8_umbrella, 2, (some .int))
abbrev yX8_stiff : MethodName := ⟨RX8, "stiff", "(I)I"⟩
abbrev cX8_stiff : ByteArray := prog_10_method_21_code
abbrev mX8_stiff : MR := (yX8_stiff, cX8_stiff, 4, (some .int))
abbrev yX8_bearsOn : MethodName := ⟨RX8, "bearsOn", "(III)I"⟩
abbrev cX8_bearsOn : ByteArray := prog_10_method_22_code
abbrev mX8_bearsOn : MR := (yX8_bearsOn, cX8_bearsOn, 6, (some .int))
abbrev yX8_covers : MethodName := ⟨RX8, "covers", "(I)I"⟩
abbrev cX8_covers : ByteArray := prog_10_method_23_code
abbrev mX8_covers : MR := (yX8_covers, cX8_covers, 5, (some .int))
abbrev yX8_pace : MethodName := ⟨RX8, "pace", "(I)I"⟩
abbrev cX8_pace : ByteArray := prog_10_method_24_code
abbrev mX8_pace : MR := (yX8_pace, cX8_pace, 2, (some .int))
abbrev yX8_of : MethodName := ⟨RX8, "of", "(II)I"⟩
abbrev cX8_of : ByteArray := prog_10_method_25_code
abbrev mX8_of : MR := (yX8_of, cX8_of, 3, (some .int))
abbrev yX8_greatestOf : MethodName := ⟨RX8, "greatestOf", "(I)I"⟩
abbrev cX8_greatestOf : ByteArray := prog_10_method_26_code
abbrev mX8_greatestOf : MR := (yX8_greatestOf, cX8_greatestOf, 1, (some .int))
abbrev yX8_change : MethodName := ⟨RX8, "change", "(III)I"⟩
abbrev cX8_change : ByteArray := prog_10_method_27_code
abbrev mX8_change : MR := (yX8_change, cX8_change, 5, (some .int))
abbrev yX8_bears : MethodName := ⟨RX8, "bears", "(III)I"⟩
abbrev cX8_bears : ByteArray := prog_10_method_28_code
abbrev mX8_bears : MR := (yX8_bears, cX8_bears, 4, (some .int))
abbrev yX8_isHome : MethodName := ⟨RX8, "isHome", "(I)Z"⟩
abbrev cX8_isHome : ByteArray := prog_10_method_29_code
abbrev mX8_isHome : MR := (yX8_isHome, cX8_isHome, 2, (some .boolean))
abbrev yX8_heldBy : MethodName := ⟨RX8, "heldBy", "(I)I"⟩
abbrev cX8_heldBy : ByteArray := prog_10_method_30_code
abbrev mX8_heldBy : MR := (yX8_heldBy, cX8_heldBy, 3, (some .int))
abbrev yX8_goesOn : MethodName := ⟨RX8, "goesOn", "(I)Z"⟩
abbrev cX8_goesOn : ByteArray := prog_10_method_31_code
abbrev mX8_goesOn : MR := (yX8_goesOn, cX8_goesOn, 8, (some .boolean))
abbrev yX8_tick : MethodName := ⟨RX8, "tick", "()I"⟩
abbrev cX8_tick : ByteArray := prog_10_method_32_code
abbrev mX8_tick : MR := (yX8_tick, cX8_tick, 3, (some .int))
abbrev yX8_homes : MethodName := ⟨RX8, "homes", "()I"⟩
abbrev cX8_homes : ByteArray := prog_10_method_33_code
abbrev mX8_homes : MR := (yX8_homes, cX8_homes, 3, (some .int))
abbrev yX8_go : MethodName := ⟨RX8, "go", "(I)I"⟩
abbrev cX8_go : ByteArray := prog_10_method_34_code
abbrev mX8_go : MR := (yX8_go, cX8_go, 4, (some .int))
abbrev yX8_sumOf : MethodName := ⟨RX8, "sumOf", "(I)I"⟩
abbrev cX8_sumOf : ByteArray := prog_10_method_35_code
abbrev mX8_sumOf : MR := (yX8_sumOf, cX8_sumOf, 4, (some .int))
abbrev yX8_outs : MethodName := ⟨RX8, "outs", "()I"⟩
abbrev cX8_outs : ByteArray := prog_10_method_36_code
abbrev mX8_outs : MR := (yX8_outs, cX8_outs, 3, (some .int))
abbrev yX8_roofs : MethodName := ⟨RX8, "roofs", "()I"⟩
abbrev cX8_roofs : ByteArray := prog_10_method_37_code
abbrev mX8_roofs : MR := (yX8_roofs, cX8_roofs, 3, (some .int))
abbrev yX8_now : MethodName := ⟨RX8, "now", "(I)I"⟩
abbrev cX8_now : ByteArray := prog_10_method_38_code
abbrev mX8_now : MR := (yX8_now, cX8_now, 2, (some .int))
abbrev yX8_goesAlone : MethodName := ⟨RX8, "goesAlone", "(I)V"⟩
abbrev cX8_goesAlone : ByteArray := prog_10_method_39_code
abbrev mX8_goesAlone : MR := (yX8_goesAlone, cX8_goesAlone, 3, none)
abbrev yX8_ahead : MethodName := ⟨RX8, "ahead", "(III)I"⟩
abbrev cX8_ahead : ByteArray := prog_10_method_40_code
abbrev mX8_ahead : MR := (yX8_ahead, cX8_ahead, 5, (some .int))
abbrev yX8_follows : MethodName := ⟨RX8, "follows", "(I)I"⟩
abbrev cX8_follows : ByteArray := prog_10_method_41_code
abbrev mX8_follows : MR := (yX8_follows, cX8_follows, 4, (some .int))
abbrev yX8_home : MethodName := ⟨RX8, "home", "(I)I"⟩
abbrev cX8_home : ByteArray := prog_10_method_42_code
abbrev mX8_home : MR := (yX8_home, cX8_home, 2, (some .int))
abbrev yX8_homeWith : MethodName := ⟨RX8, "homeWith", "(II)I"⟩
abbrev cX8_homeWith : ByteArray := prog_10_method_43_code
abbrev mX8_homeWith : MR := (yX8_homeWith, cX8_homeWith, 3, (some .int))
abbrev yX8_whup : MethodName := ⟨RX8, "whup", "(I)I"⟩
abbrev cX8_whup : ByteArray := prog_10_method_44_code
abbrev mX8_whup : MR := (yX8_whup, cX8_whup, 5, (some .int))
abbrev yX8_first : MethodName := ⟨RX8, "first", "()I"⟩
abbrev cX8_first : ByteArray := prog_10_method_45_code
abbrev mX8_first : MR := (yX8_first, cX8_first, 6, (some .int))
abbrev yX8_begins : MethodName := ⟨RX8, "begins", "()V"⟩
abbrev cX8_begins : ByteArray := prog_10_method_46_code
abbrev mX8_begins : MR := (yX8_begins, cX8_begins, 1, none)
abbrev yX8_looksAt : MethodName := ⟨RX8, "looksAt", "(II)V"⟩
abbrev cX8_looksAt : ByteArray := prog_10_method_47_code
abbrev mX8_looksAt : MR := (yX8_looksAt, cX8_looksAt, 3, none)
abbrev yX8_bestOf : MethodName := ⟨RX8, "bestOf", "(III)I"⟩
abbrev cX8_bestOf : ByteArray := prog_10_method_48_code
abbrev mX8_bestOf : MR := (yX8_bestOf, cX8_bestOf, 6, (some .int))
abbrev yX8_habitFor : MethodName := ⟨RX8, "habitFor", "(I)I"⟩
abbrev cX8_habitFor : ByteArray := prog_10_method_49_code
abbrev mX8_habitFor : MR := (yX8_habitFor, cX8_habitFor, 2, (some .int))
abbrev yX8_heldFor : MethodName := ⟨RX8, "heldFor", "(I)I"⟩
abbrev cX8_heldFor : ByteArray := prog_10_method_50_code
abbrev mX8_heldFor : MR := (yX8_heldFor, cX8_heldFor, 2, (some .int))
abbrev yX8_kindFor : MethodName := ⟨RX8, "kindFor", "(I)I"⟩
abbrev cX8_kindFor : ByteArray := prog_10_method_51_code
abbrev mX8_kindFor : MR := (yX8_kindFor, cX8_kindFor, 2, (some .int))
abbrev yX8_roofFor : MethodName := ⟨RX8, "roofFor", "(I)I"⟩
abbrev cX8_roofFor : ByteArray := prog_10_method_52_code
abbrev mX8_roofFor : MR := (yX8_roofFor, cX8_roofFor, 3, (some .int))
abbrev yX8_waitFor : MethodName := ⟨RX8, "waitFor", "(I)I"⟩
abbrev cX8_waitFor : ByteArray := prog_10_method_53_code
abbrev mX8_waitFor : MR := (yX8_waitFor, cX8_waitFor, 4, (some .int))
abbrev yX8_isWhole : MethodName := ⟨RX8, "isWhole", "(I)Z"⟩
abbrev cX8_isWhole : ByteArray := prog_10_method_54_code
abbrev mX8_isWhole : MR := (yX8_isWhole, cX8_isWhole, 2, (some .boolean))
abbrev yX8_gustFor : MethodName := ⟨RX8, "gustFor", "(I)I"⟩
abbrev cX8_gustFor : ByteArray := prog_10_method_55_code
abbrev mX8_gustFor : MR := (yX8_gustFor, cX8_gustFor, 4, (some .int))
abbrev yX8_ribsFor : MethodName := ⟨RX8, "ribsFor", "(I)I"⟩
abbrev cX8_ribsFor : ByteArray := prog_10_method_56_code
abbrev mX8_ribsFor : MR := (yX8_ribsFor, cX8_ribsFor, 5, (some .int))
abbrev yX8_isTold : MethodName := ⟨RX8, "isTold", "(II)Z"⟩
abbrev cX8_isTold : ByteArray := prog_10_method_57_code
abbrev mX8_isTold : MR := (yX8_isTold, cX8_isTold, 6, (some .boolean))
abbrev yX8_couldBe : MethodName := ⟨RX8, "couldBe", "(III)I"⟩
abbrev cX8_couldBe : ByteArray := prog_10_method_58_code
abbrev mX8_couldBe : MR := (yX8_couldBe, cX8_couldBe, 7, (some .int))
abbrev yX8_wantsFor : MethodName := ⟨RX8, "wantsFor", "(II)I"⟩
abbrev cX8_wantsFor : ByteArray := prog_10_method_59_code
abbrev mX8_wantsFor : MR := (yX8_wantsFor, cX8_wantsFor, 3, (some .int))
abbrev yX8_fits : MethodName := ⟨RX8, "fits", "(II)I"⟩
abbrev cX8_fits : ByteArray := prog_10_method_60_code
abbrev mX8_fits : MR := (yX8_fits, cX8_fits, 4, (some .int))
abbrev yX8_kinds : MethodName := ⟨RX8, "kinds", "(II)I"⟩
abbrev cX8_kinds : ByteArray := prog_10_method_61_code
abbrev mX8_kinds : MR := (yX8_kinds, cX8_kinds, 4, (some .int))
abbrev yX8_draw : MethodName := ⟨RX8, "draw", "()I"⟩
abbrev cX8_draw : ByteArray := prog_10_method_62_code
abbrev mX8_draw : MR := (yX8_draw, cX8_draw, 1, (some .int))
abbrev yX8_gusts : MethodName := ⟨RX8, "gusts", "(I)I"⟩
abbrev cX8_gusts : ByteArray := prog_10_method_63_code
abbrev mX8_gusts : MR := (yX8_gusts, cX8_gusts, 5, (some .int))
abbrev yX8_odds : MethodName := ⟨RX8, "odds", "(II)J"⟩
abbrev cX8_odds : ByteArray := prog_10_method_64_code
abbrev mX8_odds : MR := (yX8_odds, cX8_odds, 9, (some .long))
abbrev yX8_seed : MethodName := ⟨RX8, "seed", "(I)I"⟩
abbrev cX8_seed : ByteArray := prog_10_method_65_code
abbrev mX8_seed : MR := (yX8_seed, cX8_seed, 2, (some .int))
abbrev yX8_feed : MethodName := ⟨RX8, "feed", "(II)I"⟩
abbrev cX8_feed : ByteArray := prog_10_method_66_code
abbrev mX8_feed : MR := (yX8_feed, cX8_feed, 4, (some .int))
abbrev yX8_wipe : MethodName := ⟨RX8, "wipe", "()I"⟩
abbrev cX8_wipe : ByteArray := prog_10_method_67_code
abbrev mX8_wipe : MR := (yX8_wipe, cX8_wipe, 2, (some .int))
abbrev yX8_isLetter : MethodName := ⟨RX8, "isLetter", "(I)Z"⟩
abbrev cX8_isLetter : ByteArray := prog_10_method_68_code
abbrev mX8_isLetter : MR := (yX8_isLetter, cX8_isLetter, 1, (some .boolean))
abbrev yX8_isDigit : MethodName := ⟨RX8, "isDigit", "(I)Z"⟩
abbrev cX8_isDigit : ByteArray := prog_10_method_69_code
abbrev mX8_isDigit : MR := (yX8_isDigit, cX8_isDigit, 1, (some .boolean))
abbrev yX8_byteAt : MethodName := ⟨RX8, "byteAt", "(I)I"⟩
abbrev cX8_byteAt : ByteArray := prog_10_method_70_code
abbrev mX8_byteAt : MR := (yX8_byteAt, cX8_byteAt, 2, (some .int))
abbrev yX8_nextToken : MethodName := ⟨RX8, "nextToken", "()V"⟩
abbrev cX8_nextToken : ByteArray := prog_10_method_71_code
abbrev mX8_nextToken : MR := (yX8_nextToken, cX8_nextToken, 2, none)
abbrev yX8_has3 : MethodName := ⟨RX8, "has3", "(IIII)Z"⟩
abbrev cX8_has3 : ByteArray := prog_10_method_72_code
abbrev mX8_has3 : MR := (yX8_has3, cX8_has3, 5, (some .boolean))
abbrev yX8_isWord : MethodName := ⟨RX8, "isWord", "(I)Z"⟩
abbrev cX8_isWord : ByteArray := prog_10_method_73_code
abbrev mX8_isWord : MR := (yX8_isWord, cX8_isWord, 2, (some .boolean))
abbrev yX8_fails : MethodName := ⟨RX8, "fails", "()Z"⟩
abbrev cX8_fails : ByteArray := prog_10_method_74_code
abbrev mX8_fails : MR := (yX8_fails, cX8_fails, 1, (some .boolean))
abbrev yX8_isFour : MethodName := ⟨RX8, "isFour", "(IIII)Z"⟩
abbrev cX8_isFour : ByteArray := prog_10_method_75_code
abbrev mX8_isFour : MR := (yX8_isFour, cX8_isFour, 5, (some .boolean))
abbrev yX8_isFive : MethodName := ⟨RX8, "isFive", "(IIIII)Z"⟩
abbrev cX8_isFive : ByteArray := prog_10_method_76_code
abbrev mX8_isFive : MR := (yX8_isFive, cX8_isFive, 6, (some .boolean))
abbrev yX8_isSix : MethodName := ⟨RX8, "isSix", "(IIIIII)Z"⟩
abbrev cX8_isSix : ByteArray := prog_10_method_77_code
abbrev mX8_isSix : MR := (yX8_isSix, cX8_isSix, 7, (some .boolean))
abbrev yX8_isNumber : MethodName := ⟨RX8, "isNumber", "(II)Z"⟩
abbrev cX8_isNumber : ByteArray := prog_10_method_78_code
abbrev mX8_isNumber : MR := (yX8_isNumber, cX8_isNumber, 3, (some .boolean))
abbrev yX8_kindHere : MethodName := ⟨RX8, "kindHere", "()I"⟩
abbrev cX8_kindHere : ByteArray := prog_10_method_79_code
abbrev mX8_kindHere : MR := (yX8_kindHere, cX8_kindHere, 1, (some .int))
abbrev yX8_isTwo : MethodName := ⟨RX8, "isTwo", "(II)Z"⟩
abbrev cX8_isTwo : ByteArray := prog_10_method_80_code
abbrev mX8_isTwo : MR := (yX8_isTwo, cX8_isTwo, 3, (some .boolean))
abbrev yX8_perhaps : MethodName := ⟨RX8, "perhaps", "(ZI)Z"⟩
abbrev cX8_perhaps : ByteArray := prog_10_method_81_code
abbrev mX8_perhaps : MR := (yX8_perhaps, cX8_perhaps, 3, (some .boolean))
abbrev yX8_umbrellaHere : MethodName := ⟨RX8, "umbrellaHere", "(I)Z"⟩
abbrev cX8_umbrellaHere : ByteArray := prog_10_method_82_code
abbrev mX8_umbrellaHere : MR := (yX8_umbrellaHere, cX8_umbrellaHere, 2, (some .boolean))
abbrev yX8_stepHere : MethodName := ⟨RX8, "stepHere", "(I)Z"⟩
abbrev cX8_stepHere : ByteArray := prog_10_method_83_code
abbrev mX8_stepHere : MR := (yX8_stepHere, cX8_stepHere, 3, (some .boolean))
abbrev yX8_roofHere : MethodName := ⟨RX8, "roofHere", "(I)Z"⟩
abbrev cX8_roofHere : ByteArray := prog_10_method_84_code
abbrev mX8_roofHere : MR := (yX8_roofHere, cX8_roofHere, 2, (some .boolean))
abbrev yX8_weatherHere : MethodName := ⟨RX8, "weatherHere", "(I)Z"⟩
abbrev cX8_weatherHere : ByteArray := prog_10_method_85_code
abbrev mX8_weatherHere : MR := (yX8_weatherHere, cX8_weatherHere, 2, (some .boolean))
abbrev yX8_streetHere : MethodName := ⟨RX8, "streetHere", "()Z"⟩
abbrev cX8_streetHere : ByteArray := prog_10_method_86_code
abbrev mX8_streetHere : MR := (yX8_streetHere, cX8_streetHere, 1, (some .boolean))
abbrev yX8_text : MethodName := ⟨RX8, "text", "()I"⟩
abbrev cX8_text : ByteArray := prog_10_method_87_code
abbrev mX8_text : MR := (yX8_text, cX8_text, 5, (some .int))
abbrev yX8_hold : MethodName := ⟨RX8, "hold", "(II)I"⟩
abbrev cX8_hold : ByteArray := prog_10_method_88_code
abbrev mX8_hold : MR := (yX8_hold, cX8_hold, 3, (some .int))
abbrev yX8_isUnder : MethodName := ⟨RX8, "isUnder", "(II)Z"⟩
abbrev cX8_isUnder : ByteArray := prog_10_method_89_code
abbrev mX8_isUnder : MR := (yX8_isUnder, cX8_isUnder, 2, (some .boolean))
abbrev yX8_as : MethodName := ⟨RX8, "as", "(II)I"⟩
abbrev cX8_as : ByteArray := prog_10_method_90_code
abbrev mX8_as : MR := (yX8_as, cX8_as, 4, (some .int))
abbrev yX8_isSheet : MethodName := ⟨RX8, "isSheet", "(I)Z"⟩
abbrev cX8_isSheet : ByteArray := prog_10_method_91_code
abbrev mX8_isSheet : MR := (yX8_isSheet, cX8_isSheet, 1, (some .boolean))
abbrev yX8_sheet : MethodName := ⟨RX8, "sheet", "(III)I"⟩
abbrev cX8_sheet : ByteArray := prog_10_method_92_code
abbrev mX8_sheet : MR := (yX8_sheet, cX8_sheet, 5, (some .int))
abbrev yX8_write : MethodName := ⟨RX8, "write", "(III)I"⟩
abbrev cX8_write : ByteArray := prog_10_method_93_code
abbrev mX8_write : MR := (yX8_write, cX8_write, 4, (some .int))
abbrev yX8_copy : MethodName := ⟨RX8, "copy", "(IIIII)I"⟩
abbrev cX8_copy : ByteArray := prog_10_method_94_code
abbrev mX8_copy : MR := (yX8_copy, cX8_copy, 10, (some .int))
abbrev yX8_wants : MethodName := ⟨RX8, "wants", "(I)I"⟩
abbrev cX8_wants : ByteArray := prog_10_method_95_code
abbrev mX8_wants : MR := (yX8_wants, cX8_wants, 2, (some .int))
abbrev yX8_load : MethodName := ⟨RX8, "load", "(I)I"⟩
abbrev cX8_load : ByteArray := prog_10_method_96_code
abbrev mX8_load : MR := (yX8_load, cX8_load, 3, (some .int))
abbrev yX8_judge : MethodName := ⟨RX8, "judge", "(I)I"⟩
abbrev cX8_judge : ByteArray := prog_10_method_97_code
abbrev mX8_judge : MR := (yX8_judge, cX8_judge, 3, (some .int))
abbrev yX8_image : MethodName := ⟨RX8, "image", "()I"⟩
abbrev cX8_image : ByteArray := prog_10_method_98_code
abbrev mX8_image : MR := (yX8_image, cX8_image, 1, (some .int))
abbrev yX8_undo : MethodName := ⟨RX8, "undo", "()I"⟩
abbrev cX8_undo : ByteArray := prog_10_method_99_code
abbrev mX8_undo : MR := (yX8_undo, cX8_undo, 1, (some .int))
abbrev yX8_tear : MethodName := ⟨RX8, "tear", "()I"⟩
abbrev cX8_tear : ByteArray := prog_10_method_100_code
abbrev mX8_tear : MR := (yX8_tear, cX8_tear, 2, (some .int))
abbrev yX8_count : MethodName := ⟨RX8, "count", "(I)I"⟩
abbrev cX8_count : ByteArray := prog_10_method_101_code
abbrev mX8_count : MR := (yX8_count, cX8_count, 4, (some .int))
abbrev yX8_status : MethodName := ⟨RX8, "status", "(I)I"⟩
abbrev cX8_status : ByteArray := prog_10_method_102_code
abbrev mX8_status : MR := (yX8_status, cX8_status, 2, (some .int))
abbrev yJ6_bitCount_0f7a4 : MethodName := ⟨RJ6, "bitCount", "(I)I"⟩
abbrev cJ6_bitCount_0f7a4 : ByteArray := prog_11_method_49_code
abbrev mJ6_bitCount_0f7a4 : MR := (yJ6_bitCount_0f7a4, cJ6_bitCount_0f7a4, 1, (some .int))
abbrev yJ9_max_7cf53 : MethodName := ⟨RJ9, "max", "(II)I"⟩
abbrev cJ9_max_7cf53 : ByteArray := prog_12_method_65_code
abbrev mJ9_max_7cf53 : MR := (yJ9_max_7cf53, cJ9_max_7cf53, 2, (some .int))
abbrev yJ9_min_7cf53 : MethodName := ⟨RJ9, "min", "(II)I"⟩
abbrev cJ9_min_7cf53 : ByteArray := prog_12_method_69_code
abbrev mJ9_min_7cf53 : MR := (yJ9_min_7cf53, cJ9_min_7cf53, 2, (some .int))
abbrev yJ0_length_8abf5 : MethodName := ⟨RJ0, "length", "()I"⟩
abbrev cJ0_length_8abf5 : ByteArray := prog_13_method_54_code
abbrev mJ0_length_8abf5 : MR := (yJ0_length_8abf5, cJ0_length_8abf5, 1, (some .int))
abbrev yJ0_charAt_5068e : MethodName := ⟨RJ0, "charAt", "(I)C"⟩
abbrev cJ0_charAt_5068e : ByteArray := prog_13_method_56_code
abbrev mJ0_charAt_5068e : MR := (yJ0_charAt_5068e, cJ0_charAt_5068e, 2, (some .char))
abbrev yJ0_coder_7d493 : MethodName := ⟨RJ0, "coder", "()B"⟩
abbrev cJ0_coder_7d493 : ByteArray := prog_13_method_152_code
abbrev mJ0_coder_7d493 : MR := (yJ0_coder_7d493, cJ0_coder_7d493, 1, (some .byte))
abbrev yJ0_isLatin1_aae02 : MethodName := ⟨RJ0, "isLatin1", "()Z"⟩
abbrev cJ0_isLatin1_aae02 : ByteArray := prog_13_method_154_code
abbrev mJ0_isLatin1_aae02 : MR := (yJ0_isLatin1_aae02, cJ0_isLatin1_aae02, 1, (some .boolean))
abbrev yJ0_checkIndex_df160 : MethodName := ⟨RJ0, "checkIndex", "(II)V"⟩
abbrev cJ0_checkIndex_df160 : ByteArray := prog_13_method_155_code
abbrev mJ0_checkIndex_df160 : MR := (yJ0_checkIndex_df160, cJ0_checkIndex_df160, 2, none)
abbrev yJ1_charAt_3b067 : MethodName := ⟨RJ1, "charAt", "([BI)C"⟩
abbrev cJ1_charAt_3b067 : ByteArray := prog_14_method_2_code
abbrev mJ1_charAt_3b067 : MR := (yJ1_charAt_3b067, cJ1_charAt_3b067, 2, (some .char))
abbrev yJ2_getChar_3b067 : MethodName := ⟨RJ2, "getChar", "([BI)C"⟩
abbrev cJ2_getChar_3b067 : ByteArray := prog_15_method_5_code
abbrev mJ2_getChar_3b067 : MR := (yJ2_getChar_3b067, cJ2_getChar_3b067, 2, (some .char))
abbrev yJ2_length_9d52b : MethodName := ⟨RJ2, "length", "([B)I"⟩
abbrev cJ2_length_9d52b : ByteArray := prog_15_method_6_code
abbrev mJ2_length_9d52b : MR := (yJ2_length_9d52b, cJ2_length_9d52b, 1, (some .int))
abbrev yJ2_charAt_3b067 : MethodName := ⟨RJ2, "charAt", "([BI)C"⟩
abbrev cJ2_charAt_3b067 : ByteArray := prog_15_method_83_code
abbrev mJ2_charAt_3b067 : MR := (yJ2_charAt_3b067, cJ2_charAt_3b067, 2, (some .char))
abbrev yJ2_checkIndex_2214a : MethodName := ⟨RJ2, "checkIndex", "(I[B)V"⟩
abbrev cJ2_checkIndex_2214a : ByteArray := prog_15_method_91_code
abbrev mJ2_checkIndex_2214a : MR := (yJ2_checkIndex_2214a, cJ2_checkIndex_2214a, 2, none)
abbrev yJ7_fill_53178 : MethodName := ⟨RJ7, "fill", "([II)V"⟩
abbrev cJ7_fill_53178 : ByteArray := prog_17_method_103_code
abbrev mJ7_fill_53178 : MR := (yJ7_fill_53178, cJ7_fill_53178, 4, none)
abbrev yJ3_checkIndex_8e157 : MethodName := ⟨RJ3, "checkIndex", "(IILjava/util/function/BiFunction;)I"⟩
abbrev cJ3_checkIndex_8e157 : ByteArray := prog_18_method_11_code
abbrev mJ3_checkIndex_8e157 : MR := (yJ3_checkIndex_8e157, cJ3_checkIndex_8e157, 3, (some .int))
end
section
/-! the words that a method's contract takes along: all that stay true -/
def lwg : List Cond := lw_tbl.filter goodWord
theorem tG {w : Cond} (i : Nat) (h : tables_1[i]? = some w) (hg : goodWord w = true) : w ∈ lwg := List.mem_filter.mpr ⟨List.mem_append_right _ (List.mem_of_getElem? h), hg⟩
theorem tP {w : Cond} (i : Nat) (h : (k2_sels lw_privs)[i]? = some w) (hg : goodWord w = true) : w ∈ lwg := List.mem_filter.mpr ⟨List.mem_append_left _ (List.mem_of_getElem? h), hg⟩
theorem lwg_good {big : List Cond} (h : ∀ w ∈ lwg, w ∈ big) : GoodIn big lwg := fun w hw => ⟨h w hw, good_of_word (List.mem_filter.mp hw).2⟩
abbrev wM (M : MR) : List Cond := Cond.code M.1 M.2.1 M.2.2.1 M.2.2.2 :: lwg
theorem wM_good {M : MR} (h : Cond.code M.1 M.2.1 M.2.2.1 M.2.2.2 ∈ lwg) : GoodIn lwg (wM M) := fun w hw => by
  rcases List.mem_cons.mp hw with e | e
  · rw [e]; exact ⟨h, good_of_word (List.mem_filter.mp h).2⟩
  · exact ⟨e, good_of_word (List.mem_filter.mp e).2⟩
/-! the picture of the heap: a table of shapes, and a number for each place of each cell -/
/-- classes and slots; the classes of arrays (0 int, 1 Sheet, 2 Umbrella); the first cell's address; the String constants and their bytes; GREATEST, KIND_ABOVE -/
abbrev GG : Type := va_G × (Nat → ClassId) × Nat × (Nat → Nat) × (Nat → Nat) × Nat × Nat
abbrev Sg : Type := Nat → Nat → Int32
/-- an object: its class, its fields (none: a number; some none: null; some (some j): cell j); an int array: its length; an array of references: its class's number, its cells -/
abbrev Sh : Type := (Nat × List (Option (Option Nat))) ⊕ (Nat ⊕ (Nat × List (Option Nat)))
def ad (G : GG) (k : Nat) : Nat := G.2.2.1 + k
def AA (G : GG) : Nat → Prop := fun q => G.2.2.1 ≤ q
def fv (G : GG) (f : Nat → Int32) (i : Nat) : Option (Option Nat) → Value
  | none => .int (f i)
  | some none => .null
  | some (some j) => .ref (ad G j)
def vl (G : GG) (f : Nat → Int32) (fs : List (Option (Option Nat))) : List Value := fs.mapIdx (fun i x => fv G f i x)
def ce (G : GG) (f : Nat → Int32) : Sh → va_E
  | .inl (ci, fs) => .inr (ci, vl G f fs)
  | .inr (.inl n) => .inl (G.2.1 0, n, .inl f)
  | .inr (.inr (c, js)) => .inl (G.2.1 c, js.length, .inr (.inr (.inr (.inr (fun i => ((js[i]?).getD none).map (ad G))))))
def wl (G : GG) (T : List Sh) (σ : Sg) : va_W := T.mapIdx (fun k sh => (ad G k, ce G (σ k) sh))
def Pic (G : GG) (T : List Sh) (σ : Sg) (H : Heap) : Prop := va_P G.1 vwCl (wl G T σ) H
/-- one number changes -/
def st2 (σ : Sg) (k i : Nat) (v : Int32) : Sg := fun a b => if a = k then (if b = i then v else σ a b) else σ a b
theorem st2_eq (σ : Sg) (k i : Nat) (v : Int32) : va_up σ k (upd (σ k) i v) = st2 σ k i v := by
  funext a b
  simp only [va_up, upd, st2]
  by_cases h : a = k
  · subst h; simp [upd]
  · simp [h]
theorem wl_at {G : GG} {T : List Sh} {σ : Sg} {k : Nat} {sh : Sh} (h : T[k]? = some sh) : (wl G T σ)[k]? = some (ad G k, ce G (σ k) sh) := by
  simp [wl, List.getElem?_mapIdx, h]
theorem wl_of {G : GG} {T : List Sh} {σ : Sg} {k : Nat} {q : Nat × va_E} (h : (wl G T σ)[k]? = some q) : q.1 = ad G k := by
  simp only [wl, List.getElem?_mapIdx] at h
  cases hT : T[k]? with
  | none => rw [hT] at h; cases h
  | some sh => rw [hT] at h; cases h; rfl
theorem wl_D {G : GG} {T : List Sh} {σ : Sg} : va_D (AA G) (wl G T σ) := by
  refine ⟨fun i j p q hi hj e => ?_, fun k q hk => ?_⟩
  · rw [wl_of hi, wl_of hj] at e
    simp only [ad] at e
    omega
  · rw [wl_of hk]; exact Nat.le_add_right _ _
theorem wl_len {G : GG} {T : List Sh} {σ : Sg} : (wl G T σ).length = T.length := by simp [wl]
theorem wl_set {G : GG} {T : List Sh} {σ : Sg} {k : Nat} {sh : Sh} (h : T[k]? = some sh) (f : Nat → Int32) : (wl G T σ).set k (ad G k, ce G f sh) = wl G T (va_up σ k f) := by
  have hl := (List.getElem?_eq_some_iff.mp h).1
  refine List.ext_getElem? fun j => ?_
  by_cases hj : j = k
  · subst hj
    rw [List.getElem?_set_self (by rw [wl_len]; exact hl), wl_at h]
    simp [va_up]
  · rw [List.getElem?_set_ne (Ne.symm hj)]
    simp only [wl, List.getElem?_mapIdx, va_up, if_neg hj]
theorem vl_at {G : GG} {f : Nat → Int32} {fs : List (Option (Option Nat))} {i : Nat} {x : Option (Option Nat)} (h : fs[i]? = some x) : (vl G f fs)[i]? = some (fv G f i x) := by
  simp [vl, List.getElem?_mapIdx, h]
theorem vl_set {G : GG} {f : Nat → Int32} {fs : List (Option (Option Nat))} {i : Nat} (h : fs[i]? = some none) (v : Int32) : (vl G f fs).set i (.int v) = vl G (upd f i v) fs := by
  have hl := (List.getElem?_eq_some_iff.mp h).1
  refine List.ext_getElem? fun j => ?_
  by_cases hj : j = i
  · subst hj
    rw [List.getElem?_set_self (by simp [vl]; exact hl), vl_at h]
    simp [fv, upd]
  · rw [List.getElem?_set_ne (Ne.symm hj)]
    simp only [vl, List.getElem?_mapIdx]
    cases fs[j]? with
    | none => rfl
    | some x =>
      cases x with
      | none => simp [fv, upd, hj]
      | some y => cases y <;> simp [fv]
/-! the locals: a list, place by place -/
def lo (ls : Array Slot) (nL : Nat) (L : List (Option Value)) : Prop := ls.size = nL ∧ lv_wf ls ∧ ∀ (i : Nat) (v : Value), L[i]? = some (some v) → ls[i]? = some (.val v)
def al (L : List (Option Value)) : List (Nat × Value) := (List.range L.length).filterMap (fun i => ((L[i]?).getD none).map (fun v => (i, v)))
theorem al_mem {L : List (Option Value)} {i : Nat} {v : Value} : (i, v) ∈ al L ↔ L[i]? = some (some v) := by
  simp only [al, List.mem_filterMap, List.mem_range]
  constructor
  · rintro ⟨j, hj, h⟩
    cases hL : L[j]? with
    | none => rw [hL] at h; cases h
    | some o =>
      cases o with
      | none => rw [hL] at h; cases h
      | some w => rw [hL] at h; cases h; exact hL
  · intro h
    exact ⟨i, (List.getElem?_eq_some_iff.mp h).1, by rw [h]; rfl⟩
theorem lo_has {ls : Array Slot} {nL : Nat} {L : List (Option Value)} (h : lo ls nL L) : lv_has ls nL (al L) := ⟨h.1, h.2.1, fun q hq => h.2.2 q.1 q.2 (al_mem.mp hq)⟩
/-- not a long -/
def nl1 : Option (Option Value) → Bool
  | some (some (.long _)) => false
  | some (some (.double _)) => false
  | _ => true
theorem nl1_cat {x : Option (Option Value)} {v : Value} (h : nl1 x = true) (hx : x = some (some v)) : ¬ v.category = 2 := by
  subst hx
  cases v <;> simp_all [nl1, Value.category]
theorem lo_set1 {ls ls' : Array Slot} {nL i : Nat} {v : Value} {L : List (Option Value)} (h' : lv_has ls' nL ((i, v) :: (al L).filter (fun q => !(q.1 == i) && !(q.1 + 1 == i && q.2.category == 2)))) (hp : ∀ j, j + 1 = i → nl1 L[j]? = true) : lo ls' nL (L.set i (some v)) := by
  refine ⟨h'.1, h'.2.1, fun j w hj => ?_⟩
  by_cases e : j = i
  · subst e
    have hl : j < L.length := by
      rcases Nat.lt_or_ge j L.length with q | q
      · exact q
      · rw [List.getElem?_eq_none (by simp; exact q)] at hj; cases hj
    rw [List.getElem?_set_self hl] at hj
    cases hj
    exact h'.2.2 (j, v) List.mem_cons_self
  · rw [List.getElem?_set_ne (Ne.symm e)] at hj
    refine h'.2.2 (j, w) (List.mem_cons_of_mem _ (List.mem_filter.mpr ⟨al_mem.mpr hj, ?_⟩))
    by_cases e2 : j + 1 = i
    · have := nl1_cat (hp j e2) hj
      simp [e, this]
    · simp [e, e2]
theorem lo_set2 {ls ls' : Array Slot} {nL i : Nat} {v : Value} {L : List (Option Value)} (h' : lv_has ls' nL ((i, v) :: (al L).filter (fun q => !(q.1 == i) && (!(q.1 == i + 1) && !(q.1 + 1 == i && q.2.category == 2))))) (hp : ∀ j, j + 1 = i → nl1 L[j]? = true) : lo ls' nL ((L.set i (some v)).set (i + 1) none) := by
  refine ⟨h'.1, h'.2.1, fun j w hj => ?_⟩
  by_cases e1 : j = i + 1
  · subst e1
    rcases Nat.lt_or_ge (i + 1) L.length with q | q
    · rw [List.getElem?_set_self (by simp; exact q)] at hj; cases hj
    · rw [List.getElem?_eq_none (by simp; exact q)] at hj; cases hj
  rw [List.getElem?_set_ne (Ne.symm e1)] at hj
  by_cases e : j = i
  · subst e
    have hl : j < L.length := by
      rcases Nat.lt_or_ge j L.length with q | q
      · exact q
      · rw [List.getElem?_eq_none (by simp; exact q)] at hj; cases hj
    rw [List.getElem?_set_self hl] at hj
    cases hj
    exact h'.2.2 (j, v) List.mem_cons_self
  · rw [List.getElem?_set_ne (Ne.symm e)] at hj
    refine h'.2.2 (j, w) (List.mem_cons_of_mem _ (List.mem_filter.mpr ⟨al_mem.mpr hj, ?_⟩))
    by_cases e2 : j + 1 = i
    · have := nl1_cat (hp j e2) hj
      simp [e, e1, this]
    · simp [e, e1, e2]
/-! what is known of the state beside the picture: classes, statics, String constants, links of nest mates -/
def tyL (G : GG) : List (ClassId × FieldType) := [(G.2.1 0, .int), (G.2.1 1, .object "InsideOut$Sheet"), (G.2.1 2, .object "InsideOut$Umbrella")]
def gT : Nat → Value := fun j => .int (([6, 16, 3, 3, 8, 1, 999, 99999] : List Int32).getD j 0)
def kT : Nat → Value := fun j => .int (([-1, 0, 0, 2, 3, 0, 1] : List Int32).getD j 0)
def sN : List (Nat × String) := [(156, "big"), (158, "small"), (160, "bent"), (162, "binned"), (164, "paper"), (166, "golf"), (168, "umbrella"), (87, "at"), (93, "ribs"), (95, "held"), (97, "habit"), (170, "left"), (172, "right"), (174, "below"), (60, "roof"), (65, "open"), (67, "rain"), (73, "gust")]
def sL : List Nat := [3, 5, 4, 6, 5, 4, 8, 2, 4, 4, 5, 4, 5, 5, 4, 4, 4, 4]
def sB : List (List Int32) := [[98, 105, 103], [115, 109, 97, 108, 108], [98, 101, 110, 116], [98, 105, 110, 110, 101, 100], [112, 97, 112, 101, 114], [103, 111, 108, 102], [117, 109, 98, 114, 101, 108, 108, 97], [97, 116], [114, 105, 98, 115], [104, 101, 108, 100], [104, 97, 98, 105, 116], [108, 101, 102, 116], [114, 105, 103, 104, 116], [98, 101, 108, 111, 119], [114, 111, 111, 102], [111, 112, 101, 110], [114, 97, 105, 110], [103, 117, 115, 116]]
def nW : List Cond := [.methodLinkNest "InsideOut$World" 35 yX4_init "InsideOut", .methodLinkNest "InsideOut" 28 yX5_init "InsideOut", .methodLinkNest "InsideOut$Walk" 20 yX4_init "InsideOut", .methodLinkNest "InsideOut" 35 yX3_init "InsideOut", .methodLinkNest "InsideOut" 59 yX1_init "InsideOut", .methodLinkNest "InsideOut$Street" 43 yX7_isStep "InsideOut", .methodLinkNest "InsideOut$Umbrella" 53 yX7_isStep "InsideOut", .methodLinkNest "InsideOut$Walk" 32 yX7_isStep "InsideOut", .methodLinkNest "InsideOut$Reader" 112 yX7_isStep "InsideOut", .fieldLinkNest "InsideOut$Umbrella" 88 "InsideOut" "GREATEST" "[I" "InsideOut", .fieldLinkNest "InsideOut$Reader" 99 "InsideOut" "GREATEST" "[I" "InsideOut"]
def STA (G : GG) (U : State) (H : Heap) : Prop := va_Z "InsideOut" "GREATEST" "[I" (.ref G.2.2.2.2.2.1) (AA G) U H ∧ va_T .int G.2.2.2.2.2.1 8 gT (AA G) U H ∧ va_Z "InsideOut" "KIND_ABOVE" "[I" (.ref G.2.2.2.2.2.2) (AA G) U H ∧ va_T .int G.2.2.2.2.2.2 7 kT (AA G) U H ∧ vk_S 18 sL sB G.2.2.2.1 G.2.2.2.2.1 (AA G) U H ∧ va_Z "java/lang/String" "COMPACT_STRINGS" "Z" (.int 1) (AA G) U H ∧ va_Zq "jdk/internal/util/Preconditions" "SIOOBE_FORMATTER" "Ljava/util/function/BiFunction;" (AA G) U H
def SRS (G : GG) (U : State) : Prop := (∀ w ∈ nW, va_Nw w U) ∧ (∀ (i : Nat) (q : Nat × String), sN[i]? = some q → vk_R "InsideOut$Reader" q.1 q.2 (G.2.2.2.1 i) U) ∧ va_AO "InsideOut$Sheet" U ∧ va_AO "InsideOut$Umbrella" U
def KK (G : GG) (U : State) : Prop := va_K G.1 vwCl (tyL G) U ∧ STA G U U.heap ∧ SRS G U
theorem STA.moved {G : GG} {u U : State} {H : Heap} (hvm : u.vm.Alike U.vm) (h : STA G u H) : STA G U H := by
  obtain ⟨h1, h2, h3, h4, h5, h6, h7⟩ := h
  exact ⟨h1.moved hvm, h2.moved hvm, h3.moved hvm, h4.moved hvm, h5.moved hvm, h6.moved hvm, h7.moved hvm⟩
theorem STA.kept {G : GG} {U : State} {H H1 : Heap} (h : STA G U H) (hq : ∀ a : Nat, a < H.size → ¬ AA G a → H1[a]? = H[a]?) : STA G U H1 := by
  obtain ⟨h1, h2, h3, h4, h5, h6, h7⟩ := h
  exact ⟨h1.kept hq, h2.kept hq, h3.kept hq, h4.kept hq, h5.kept hq, h6.kept hq, h7.kept hq⟩
theorem nW_tab : ∀ w ∈ nW, w.onTables = true := by
  intro w hw
  simp only [nW, List.mem_cons, List.not_mem_nil, or_false] at hw
  rcases hw with rfl | rfl | rfl | rfl | rfl | rfl | rfl | rfl | rfl | rfl | rfl <;> rfl
theorem SRS.same {G : GG} {u U : State} (hv : u.vm = U.vm) (h : SRS G u) : SRS G U := by
  obtain ⟨h1, h2, h3, h4⟩ := h
  exact ⟨fun w hw => va_Nw.same (nW_tab w hw) hv (h1 w hw), fun i q hq => vk_R.same hv.symm (h2 i q hq), va_AO.moved (by rw [hv]; exact Vm.Alike.refl _) h3, va_AO.moved (by rw [hv]; exact Vm.Alike.refl _) h4⟩
theorem SRS.warm {G : GG} {s U : State} (hW : s.WarmedH U.vm) (h : SRS G s) : SRS G U := by
  obtain ⟨h1, h2, h3, h4⟩ := h
  refine ⟨fun w hw => ?_, fun i q hq => vk_R.warm hW (h2 i q hq), va_AO.moved hW.alike h3, va_AO.moved hW.alike h4⟩
  have h := h1 w hw
  simp only [nW, List.mem_cons, List.not_mem_nil, or_false] at hw
  rcases hw with rfl | rfl | rfl | rfl | rfl | rfl | rfl | rfl | rfl | rfl | rfl <;> first | exact va_Nw.warmM hW h | exact va_Nw.warmF hW h
/-- what a method of ours finds -/
def PRE (G : GG) (T : List Sh) (σ : Sg) (U : State) : Prop := Pic G T σ U.heap ∧ KK G U
theorem PRE.calling {G : GG} {T : List Sh} {σ : Sg} {U : State} {g : JFrame} {mk : MethodId} {a : Array Value} (h : PRE G T σ U) : PRE G T σ (U.calling g mk a) := by
  obtain ⟨h1, h2, h3, h4⟩ := h
  exact ⟨h1, va_K.moved (u := U) (U := U.calling g mk a) (Vm.Alike.refl U.vm) h2, STA.moved (u := U) (U := U.calling g mk a) (Vm.Alike.refl U.vm) h3, SRS.same (u := U) (U := U.calling g mk a) rfl h4⟩
theorem PRE.at {G : GG} {T : List Sh} {σ : Sg} {s U : State} {H : Heap} {locs : List Loc} (hK : KK G s) (hP : Pic G T σ H) (hS : va_S (AA G) s.heap H locs) (hU : U.heap = H) (hW : s.WarmedH U.vm) : PRE G T σ U := by
  obtain ⟨h2, h3, h4⟩ := hK
  refine ⟨by rw [hU]; exact hP, va_K.moved hW.alike h2, ?_, SRS.warm hW h4⟩
  rw [hU]
  exact (STA.moved hW.alike h3).kept hS.2.1
end
section
/-! the walk of a method, goal first, over the picture -/
abbrev CX : Type := Program × Launch × Env × Room × State × MethodId × Array Value × List Frame × Method × Code × Nat × Nat × (State → Prop)
abbrev xp (X : CX) : Program := X.1
abbrev xl (X : CX) : Launch := X.2.1
abbrev xe (X : CX) : Env := X.2.2.1
abbrev xR (X : CX) : Room := X.2.2.2.1
abbrev xs (X : CX) : State := X.2.2.2.2.1
abbrev xm (X : CX) : MethodId := X.2.2.2.2.2.1
abbrev xa (X : CX) : Array Value := X.2.2.2.2.2.2.1
abbrev xb (X : CX) : List Frame := X.2.2.2.2.2.2.2.1
abbrev xM (X : CX) : Method := X.2.2.2.2.2.2.2.2.1
abbrev xc (X : CX) : Code := X.2.2.2.2.2.2.2.2.2.1
abbrev xk (X : CX) : Nat := X.2.2.2.2.2.2.2.2.2.2.1
abbrev xn (X : CX) : Nat := X.2.2.2.2.2.2.2.2.2.2.2.1
abbrev xQ (X : CX) : State → Prop := X.2.2.2.2.2.2.2.2.2.2.2.2
def V (X : CX) (G : GG) (T : List Sh) (σ : Sg) (L : List (Option Value)) (st : List Value) (pc : Nat) : Prop :=
  ∀ (H : Heap) (locs : List Loc) (ls : Array Slot), Pic G T σ H → va_S (AA G) (xs X).heap H locs → lo ls (xc X).maxLocals L → W (xp X) (xl X) (xe X) (xR X) (xs X) (xm X) (xa X) (xb X) (xM X) (xc X) H locs (xk X) (xn X) (xQ X) (F0 (xm X) pc ls st)
/-- the body that is walked: its code, class, launch, the words, what is known, its room -/
def Bd (l : Launch) (X : CX) (G : GG) (b : ByteArray) (own : String) (nL D : Nat) : Prop := (xp X).tables.exec = Jvm.exec ∧ (xc X).code = b ∧ (xs X).vm.findClass own = some (xm X).cls ∧ (∀ w ∈ lwg, w.before (xa X) (xs X) = true) ∧ KK G (xs X) ∧ xl X = l ∧ (D ≤ (xR X).frames ∧ 37 * D ≤ (xR X).locals) ∧ xk X ≤ (xR X).cells ∧ xn X ≤ (xR X).slots ∧ (xc X).maxLocals = nL
theorem Bd.ml {l : Launch} {X : CX} {G : GG} {b : ByteArray} {own : String} {nL D : Nat} (B : Bd l X G b own nL D) : (xc X).maxLocals = nL := B.2.2.2.2.2.2.2.2.2
section RW
variable {l : Launch} {X : CX} {G : GG} {T : List Sh} {σ : Sg} {L : List (Option Value)} {st : List Value} {pc : Nat} {b : ByteArray} {own : String} {nL D : Nat}

theorem r_iconst (B : Bd l X G b own nL D) {n : Int} {x : Int32} (d : decode b pc = .ok (.iconst n, 1)) (hx : Int32.ofInt n = x) (k : V X G T σ L (.int x :: st) (pc + 1)) : V X G T σ L (st) pc := fun H locs ls hP hS hl => lv_iconst B.1 B.2.1 d hx (k H locs ls hP hS hl)
theorem r_bipush (B : Bd l X G b own nL D) {n : Int} {x : Int32} (d : decode b pc = .ok (.bipush n, 2)) (hx : (Int8.ofInt n).toInt32 = x) (k : V X G T σ L (.int x :: st) (pc + 2)) : V X G T σ L (st) pc := fun H locs ls hP hS hl => lv_bipush B.1 B.2.1 d hx (k H locs ls hP hS hl)
theorem r_sipush (B : Bd l X G b own nL D) {n : Int} {x : Int32} (d : decode b pc = .ok (.sipush n, 3)) (hx : (Int16.ofInt n).toInt32 = x) (k : V X G T σ L (.int x :: st) (pc + 3)) : V X G T σ L (st) pc := fun H locs ls hP hS hl => lv_sipush B.1 B.2.1 d hx (k H locs ls hP hS hl)
theorem r_lconst (B : Bd l X G b own nL D) {n : Fin 2} {x : Int64} (d : decode b pc = .ok (.lconst n, 1)) (hx : Int64.ofNat (n : Nat) = x) (k : V X G T σ L (.long x :: st) (pc + 1)) : V X G T σ L (st) pc := fun H locs ls hP hS hl => lv_lconst B.1 B.2.1 d hx (k H locs ls hP hS hl)
theorem r_ldc (B : Bd l X G b own nL D) {i : Nat} {x : Int32} (w : Cond.constant own i x ∈ lwg) (d : decode b pc = .ok (.ldc i, 2)) (k : V X G T σ L (.int x :: st) (pc + 2)) : V X G T σ L (st) pc := fun H locs ls hP hS hl => lv_ldc B.1 B.2.1 B.2.2.1 (B.2.2.2.1 _ w) d (k H locs ls hP hS hl)
theorem r_ldc_w (B : Bd l X G b own nL D) {i : Nat} {x : Int32} (w : Cond.constant own i x ∈ lwg) (d : decode b pc = .ok (.ldc_w i, 3)) (k : V X G T σ L (.int x :: st) (pc + 3)) : V X G T σ L (st) pc := fun H locs ls hP hS hl => lv_ldcw B.1 B.2.1 B.2.2.1 (B.2.2.2.1 _ w) d (k H locs ls hP hS hl)
theorem r_ldc2_w (B : Bd l X G b own nL D) {i : Nat} {x : Int64} (w : Cond.constantLong own i x ∈ lwg) (d : decode b pc = .ok (.ldc2_w i, 3)) (k : V X G T σ L (.long x :: st) (pc + 3)) : V X G T σ L (st) pc := fun H locs ls hP hS hl => lv_ldc2 B.1 B.2.1 B.2.2.1 (B.2.2.2.1 _ w) d (k H locs ls hP hS hl)
theorem r_iload_n (B : Bd l X G b own nL D) {n : Fin 4} {x : Int32} (d : decode b pc = .ok (.iload_n n, 1)) (hL : L[(n : Nat)]? = some (some (.int x))) (k : V X G T σ L (.int x :: st) (pc + 1)) : V X G T σ L (st) pc := fun H locs ls hP hS hl => lv_iload_n B.1 B.2.1 d rfl (hl.2.2 _ _ hL) (k H locs ls hP hS hl)
theorem r_iload (B : Bd l X G b own nL D) {n : Nat} {x : Int32} (d : decode b pc = .ok (.iload n, 2)) (hL : L[n]? = some (some (.int x))) (k : V X G T σ L (.int x :: st) (pc + 2)) : V X G T σ L (st) pc := fun H locs ls hP hS hl => lv_iload B.1 B.2.1 d (hl.2.2 _ _ hL) (k H locs ls hP hS hl)
theorem r_lload_n (B : Bd l X G b own nL D) {n : Fin 4} {x : Int64} (d : decode b pc = .ok (.lload_n n, 1)) (hL : L[(n : Nat)]? = some (some (.long x))) (k : V X G T σ L (.long x :: st) (pc + 1)) : V X G T σ L (st) pc := fun H locs ls hP hS hl => lv_lload_n B.1 B.2.1 d rfl (hl.2.2 _ _ hL) (k H locs ls hP hS hl)
theorem r_lload (B : Bd l X G b own nL D) {n : Nat} {x : Int64} (d : decode b pc = .ok (.lload n, 2)) (hL : L[n]? = some (some (.long x))) (k : V X G T σ L (.long x :: st) (pc + 2)) : V X G T σ L (st) pc := fun H locs ls hP hS hl => lv_lload B.1 B.2.1 d (hl.2.2 _ _ hL) (k H locs ls hP hS hl)
theorem r_aload_n (B : Bd l X G b own nL D) {n : Fin 4} {x : Nat} (d : decode b pc = .ok (.aload_n n, 1)) (hL : L[(n : Nat)]? = some (some (.ref x))) (k : V X G T σ L (.ref x :: st) (pc + 1)) : V X G T σ L (st) pc := fun H locs ls hP hS hl => lv_aload_n B.1 B.2.1 d rfl (hl.2.2 _ _ hL) (k H locs ls hP hS hl)
theorem r_aload (B : Bd l X G b own nL D) {n : Nat} {x : Nat} (d : decode b pc = .ok (.aload n, 2)) (hL : L[n]? = some (some (.ref x))) (k : V X G T σ L (.ref x :: st) (pc + 2)) : V X G T σ L (st) pc := fun H locs ls hP hS hl => lv_aload B.1 B.2.1 d (hl.2.2 _ _ hL) (k H locs ls hP hS hl)
theorem r_iadd (B : Bd l X G b own nL D) {x y : Int32} (d : decode b pc = .ok (.iadd, 1)) (k : V X G T σ L (.int (x + y) :: st) (pc + 1)) : V X G T σ L (.int y :: .int x :: st) pc := fun H locs ls hP hS hl => lv_iadd B.1 B.2.1 d  (k H locs ls hP hS hl)
theorem r_isub (B : Bd l X G b own nL D) {x y : Int32} (d : decode b pc = .ok (.isub, 1)) (k : V X G T σ L (.int (x - y) :: st) (pc + 1)) : V X G T σ L (.int y :: .int x :: st) pc := fun H locs ls hP hS hl => lv_isub B.1 B.2.1 d  (k H locs ls hP hS hl)
theorem r_imul (B : Bd l X G b own nL D) {x y : Int32} (d : decode b pc = .ok (.imul, 1)) (k : V X G T σ L (.int (x * y) :: st) (pc + 1)) : V X G T σ L (.int y :: .int x :: st) pc := fun H locs ls hP hS hl => lv_imul B.1 B.2.1 d  (k H locs ls hP hS hl)
theorem r_iand (B : Bd l X G b own nL D) {x y : Int32} (d : decode b pc = .ok (.iand, 1)) (k : V X G T σ L (.int (x &&& y) :: st) (pc + 1)) : V X G T σ L (.int y :: .int x :: st) pc := fun H locs ls hP hS hl => lv_iand B.1 B.2.1 d  (k H locs ls hP hS hl)
theorem r_ior (B : Bd l X G b own nL D) {x y : Int32} (d : decode b pc = .ok (.ior, 1)) (k : V X G T σ L (.int (x ||| y) :: st) (pc + 1)) : V X G T σ L (.int y :: .int x :: st) pc := fun H locs ls hP hS hl => lv_ior B.1 B.2.1 d  (k H locs ls hP hS hl)
theorem r_ixor (B : Bd l X G b own nL D) {x y : Int32} (d : decode b pc = .ok (.ixor, 1)) (k : V X G T σ L (.int (x ^^^ y) :: st) (pc + 1)) : V X G T σ L (.int y :: .int x :: st) pc := fun H locs ls hP hS hl => lv_ixor B.1 B.2.1 d  (k H locs ls hP hS hl)
theorem r_ishl (B : Bd l X G b own nL D) {x y : Int32} (d : decode b pc = .ok (.ishl, 1)) (k : V X G T σ L (.int (x <<< (y &&& 31)) :: st) (pc + 1)) : V X G T σ L (.int y :: .int x :: st) pc := fun H locs ls hP hS hl => lv_ishl B.1 B.2.1 d  (k H locs ls hP hS hl)
theorem r_ishr (B : Bd l X G b own nL D) {x y : Int32} (d : decode b pc = .ok (.ishr, 1)) (k : V X G T σ L (.int (x >>> (y &&& 31)) :: st) (pc + 1)) : V X G T σ L (.int y :: .int x :: st) pc := fun H locs ls hP hS hl => lv_ishr B.1 B.2.1 d  (k H locs ls hP hS hl)
theorem r_ladd (B : Bd l X G b own nL D) {x y : Int64} (d : decode b pc = .ok (.ladd, 1)) (k : V X G T σ L (.long (x + y) :: st) (pc + 1)) : V X G T σ L (.long y :: .long x :: st) pc := fun H locs ls hP hS hl => lv_ladd B.1 B.2.1 d  (k H locs ls hP hS hl)
theorem r_lsub (B : Bd l X G b own nL D) {x y : Int64} (d : decode b pc = .ok (.lsub, 1)) (k : V X G T σ L (.long (x - y) :: st) (pc + 1)) : V X G T σ L (.long y :: .long x :: st) pc := fun H locs ls hP hS hl => lv_lsub B.1 B.2.1 d  (k H locs ls hP hS hl)
theorem r_lmul (B : Bd l X G b own nL D) {x y : Int64} (d : decode b pc = .ok (.lmul, 1)) (k : V X G T σ L (.long (x * y) :: st) (pc + 1)) : V X G T σ L (.long y :: .long x :: st) pc := fun H locs ls hP hS hl => lv_lmul B.1 B.2.1 d  (k H locs ls hP hS hl)
theorem r_idiv (B : Bd l X G b own nL D) {x y : Int32} (hne : ¬ y = 0) (d : decode b pc = .ok (.idiv, 1)) (k : V X G T σ L (.int (x / y) :: st) (pc + 1)) : V X G T σ L (.int y :: .int x :: st) pc := fun H locs ls hP hS hl => lv_idiv B.1 B.2.1 d hne (k H locs ls hP hS hl)
theorem r_irem (B : Bd l X G b own nL D) {x y : Int32} (hne : ¬ y = 0) (d : decode b pc = .ok (.irem, 1)) (k : V X G T σ L (.int (x - x / y * y) :: st) (pc + 1)) : V X G T σ L (.int y :: .int x :: st) pc := fun H locs ls hP hS hl => lv_irem B.1 B.2.1 d hne (k H locs ls hP hS hl)
theorem r_ldiv (B : Bd l X G b own nL D) {x y : Int64} (hne : ¬ y = 0) (d : decode b pc = .ok (.ldiv, 1)) (k : V X G T σ L (.long (x / y) :: st) (pc + 1)) : V X G T σ L (.long y :: .long x :: st) pc := fun H locs ls hP hS hl => lv_ldiv B.1 B.2.1 d hne (k H locs ls hP hS hl)
theorem r_lrem (B : Bd l X G b own nL D) {x y : Int64} (hne : ¬ y = 0) (d : decode b pc = .ok (.lrem, 1)) (k : V X G T σ L (.long (x - x / y * y) :: st) (pc + 1)) : V X G T σ L (.long y :: .long x :: st) pc := fun H locs ls hP hS hl => lv_lrem B.1 B.2.1 d hne (k H locs ls hP hS hl)
theorem r_iushr (B : Bd l X G b own nL D) {x y : Int32} (d : decode b pc = .ok (.iushr, 1)) (k : V X G T σ L (.int (x.toUInt32 >>> (y.toUInt32 &&& Int32.toUInt32 31)).toInt32 :: st) (pc + 1)) : V X G T σ L (.int y :: .int x :: st) pc := fun H locs ls hP hS hl => lv_iushr B.1 B.2.1 d rfl (k H locs ls hP hS hl)
theorem r_i2l (B : Bd l X G b own nL D) {x : Int32} (d : decode b pc = .ok (.i2l, 1)) (k : V X G T σ L (.long x.toInt64 :: st) (pc + 1)) : V X G T σ L (.int x :: st) pc := fun H locs ls hP hS hl => lv_i2l B.1 B.2.1 d rfl (k H locs ls hP hS hl)
theorem r_i2b (B : Bd l X G b own nL D) {x : Int32} (d : decode b pc = .ok (.i2b, 1)) (k : V X G T σ L (.int x.toInt8.toInt32 :: st) (pc + 1)) : V X G T σ L (.int x :: st) pc := fun H locs ls hP hS hl => lv_i2b B.1 B.2.1 d rfl (k H locs ls hP hS hl)
theorem r_i2s (B : Bd l X G b own nL D) {x : Int32} (d : decode b pc = .ok (.i2s, 1)) (k : V X G T σ L (.int x.toInt16.toInt32 :: st) (pc + 1)) : V X G T σ L (.int x :: st) pc := fun H locs ls hP hS hl => lv_i2s B.1 B.2.1 d rfl (k H locs ls hP hS hl)
theorem r_lcmp (B : Bd l X G b own nL D) {x y : Int64} (d : decode b pc = .ok (.lcmp, 1)) (k : V X G T σ L (.int (lg_cmp x y) :: st) (pc + 1)) : V X G T σ L (.long y :: .long x :: st) pc := fun H locs ls hP hS hl => W.lcmp B.1 B.2.1 d  (k H locs ls hP hS hl)
theorem r_dup (B : Bd l X G b own nL D) {x : Value} (hc : x.category = 1) (d : decode b pc = .ok (.dup, 1)) (k : V X G T σ L (x :: x :: st) (pc + 1)) : V X G T σ L (x :: st) pc := fun H locs ls hP hS hl => lv_dup B.1 B.2.1 d hc (k H locs ls hP hS hl)
theorem r_pop (B : Bd l X G b own nL D) {x : Value} (hc : x.category = 1) (d : decode b pc = .ok (.pop, 1)) (k : V X G T σ L (st) (pc + 1)) : V X G T σ L (x :: st) pc := fun H locs ls hP hS hl => lv_pop B.1 B.2.1 d hc (k H locs ls hP hS hl)
theorem r_dup2 (B : Bd l X G b own nL D) {x y : Value} (hx : x.category = 1) (hy : y.category = 1) (d : decode b pc = .ok (.dup2, 1)) (k : V X G T σ L (x :: y :: x :: y :: st) (pc + 1)) : V X G T σ L (x :: y :: st) pc := fun H locs ls hP hS hl => lv_dup2_11 B.1 B.2.1 d hx hy (k H locs ls hP hS hl)
end RW
theorem pj {L : List (Option Value)} (n : Nat) (h : nl1 L[n]? = true) : ∀ j, j + 1 = n + 1 → nl1 L[j]? = true := fun j hj => by
  have e : j = n := by omega
  subst e
  exact h
section RW
variable {l : Launch} {X : CX} {G : GG} {T : List Sh} {σ : Sg} {L : List (Option Value)} {st : List Value} {pc : Nat} {b : ByteArray} {own : String} {nL D : Nat}
theorem r_if_eq (B : Bd l X G b own nL D) {x : Int32} {off : Int} (tgt : Nat) (d : decode b pc = .ok (.ifCond .eq off, 3)) (ht : (pc : Int) + off = (tgt : Int)) (kt : x = 0 → V X G T σ L (st) tgt) (kf : ¬ (x = 0) → V X G T σ L (st) (pc + 3)) : V X G T σ L (.int x :: st) pc := fun H locs ls hP hS hl => lv_if_eq B.1 B.2.1 d ht (fun h => kt h H locs ls hP hS hl) (fun h => kf h H locs ls hP hS hl)
theorem r_if_ne (B : Bd l X G b own nL D) {x : Int32} {off : Int} (tgt : Nat) (d : decode b pc = .ok (.ifCond .ne off, 3)) (ht : (pc : Int) + off = (tgt : Int)) (kt : ¬ x = 0 → V X G T σ L (st) tgt) (kf : x = 0 → V X G T σ L (st) (pc + 3)) : V X G T σ L (.int x :: st) pc := fun H locs ls hP hS hl => lv_if_ne B.1 B.2.1 d ht (fun h => kt h H locs ls hP hS hl) (fun h => kf h H locs ls hP hS hl)
theorem r_if_lt (B : Bd l X G b own nL D) {x : Int32} {off : Int} (tgt : Nat) (d : decode b pc = .ok (.ifCond .lt off, 3)) (ht : (pc : Int) + off = (tgt : Int)) (kt : x < 0 → V X G T σ L (st) tgt) (kf : ¬ (x < 0) → V X G T σ L (st) (pc + 3)) : V X G T σ L (.int x :: st) pc := fun H locs ls hP hS hl => lv_if_lt B.1 B.2.1 d ht (fun h => kt h H locs ls hP hS hl) (fun h => kf h H locs ls hP hS hl)
theorem r_if_ge (B : Bd l X G b own nL D) {x : Int32} {off : Int} (tgt : Nat) (d : decode b pc = .ok (.ifCond .ge off, 3)) (ht : (pc : Int) + off = (tgt : Int)) (kt : 0 ≤ x → V X G T σ L (st) tgt) (kf : ¬ (0 ≤ x) → V X G T σ L (st) (pc + 3)) : V X G T σ L (.int x :: st) pc := fun H locs ls hP hS hl => lv_if_ge B.1 B.2.1 d ht (fun h => kt h H locs ls hP hS hl) (fun h => kf h H locs ls hP hS hl)
theorem r_if_gt (B : Bd l X G b own nL D) {x : Int32} {off : Int} (tgt : Nat) (d : decode b pc = .ok (.ifCond .gt off, 3)) (ht : (pc : Int) + off = (tgt : Int)) (kt : 0 < x → V X G T σ L (st) tgt) (kf : ¬ (0 < x) → V X G T σ L (st) (pc + 3)) : V X G T σ L (.int x :: st) pc := fun H locs ls hP hS hl => lv_if_gt B.1 B.2.1 d ht (fun h => kt h H locs ls hP hS hl) (fun h => kf h H locs ls hP hS hl)
theorem r_if_le (B : Bd l X G b own nL D) {x : Int32} {off : Int} (tgt : Nat) (d : decode b pc = .ok (.ifCond .le off, 3)) (ht : (pc : Int) + off = (tgt : Int)) (kt : x ≤ 0 → V X G T σ L (st) tgt) (kf : ¬ (x ≤ 0) → V X G T σ L (st) (pc + 3)) : V X G T σ L (.int x :: st) pc := fun H locs ls hP hS hl => lv_if_le B.1 B.2.1 d ht (fun h => kt h H locs ls hP hS hl) (fun h => kf h H locs ls hP hS hl)
theorem r_icmp_eq (B : Bd l X G b own nL D) {x y : Int32} {off : Int} (tgt : Nat) (d : decode b pc = .ok (.if_icmp .eq off, 3)) (ht : (pc : Int) + off = (tgt : Int)) (kt : x = y → V X G T σ L (st) tgt) (kf : ¬ (x = y) → V X G T σ L (st) (pc + 3)) : V X G T σ L (.int y :: .int x :: st) pc := fun H locs ls hP hS hl => lv_icmp_eq B.1 B.2.1 d ht (fun h => kt h H locs ls hP hS hl) (fun h => kf h H locs ls hP hS hl)
theorem r_icmp_ne (B : Bd l X G b own nL D) {x y : Int32} {off : Int} (tgt : Nat) (d : decode b pc = .ok (.if_icmp .ne off, 3)) (ht : (pc : Int) + off = (tgt : Int)) (kt : ¬ x = y → V X G T σ L (st) tgt) (kf : x = y → V X G T σ L (st) (pc + 3)) : V X G T σ L (.int y :: .int x :: st) pc := fun H locs ls hP hS hl => lv_icmp_ne B.1 B.2.1 d ht (fun h => kt h H locs ls hP hS hl) (fun h => kf h H locs ls hP hS hl)
theorem r_icmp_lt (B : Bd l X G b own nL D) {x y : Int32} {off : Int} (tgt : Nat) (d : decode b pc = .ok (.if_icmp .lt off, 3)) (ht : (pc : Int) + off = (tgt : Int)) (kt : x < y → V X G T σ L (st) tgt) (kf : ¬ (x < y) → V X G T σ L (st) (pc + 3)) : V X G T σ L (.int y :: .int x :: st) pc := fun H locs ls hP hS hl => lv_icmp_lt B.1 B.2.1 d ht (fun h => kt h H locs ls hP hS hl) (fun h => kf h H locs ls hP hS hl)
theorem r_icmp_ge (B : Bd l X G b own nL D) {x y : Int32} {off : Int} (tgt : Nat) (d : decode b pc = .ok (.if_icmp .ge off, 3)) (ht : (pc : Int) + off = (tgt : Int)) (kt : y ≤ x → V X G T σ L (st) tgt) (kf : ¬ (y ≤ x) → V X G T σ L (st) (pc + 3)) : V X G T σ L (.int y :: .int x :: st) pc := fun H locs ls hP hS hl => lv_icmp_ge B.1 B.2.1 d ht (fun h => kt h H locs ls hP hS hl) (fun h => kf h H locs ls hP hS hl)
theorem r_icmp_gt (B : Bd l X G b own nL D) {x y : Int32} {off : Int} (tgt : Nat) (d : decode b pc = .ok (.if_icmp .gt off, 3)) (ht : (pc : Int) + off = (tgt : Int)) (kt : y < x → V X G T σ L (st) tgt) (kf : ¬ (y < x) → V X G T σ L (st) (pc + 3)) : V X G T σ L (.int y :: .int x :: st) pc := fun H locs ls hP hS hl => lv_icmp_gt B.1 B.2.1 d ht (fun h => kt h H locs ls hP hS hl) (fun h => kf h H locs ls hP hS hl)
theorem r_icmp_le (B : Bd l X G b own nL D) {x y : Int32} {off : Int} (tgt : Nat) (d : decode b pc = .ok (.if_icmp .le off, 3)) (ht : (pc : Int) + off = (tgt : Int)) (kt : x ≤ y → V X G T σ L (st) tgt) (kf : ¬ (x ≤ y) → V X G T σ L (st) (pc + 3)) : V X G T σ L (.int y :: .int x :: st) pc := fun H locs ls hP hS hl => lv_icmp_le B.1 B.2.1 d ht (fun h => kt h H locs ls hP hS hl) (fun h => kf h H locs ls hP hS hl)
theorem r_goto (B : Bd l X G b own nL D) {off : Int} (tgt : Nat) (d : decode b pc = .ok (.goto off, 3)) (ht : (pc : Int) + off = (tgt : Int)) (k : V X G T σ L (st) tgt) : V X G T σ L (st) pc := fun H locs ls hP hS hl => lv_goto B.1 B.2.1 d ht (k H locs ls hP hS hl)
theorem r_tsC (B : Bd l X G b own nL D) {x : Int32} {df lo hi off : Int} {offs : Array Int} {len : Nat} (c : Int32) (tgt : Nat) (d : decode b pc = .ok (.tableswitch df lo hi offs, len)) (h1 : ¬ c.toInt < lo) (h2 : ¬ hi < c.toInt) (ho : offs[(c.toInt - lo).toNat]? = some off) (ht : (pc : Int) + off = (tgt : Int)) (kt : x = c → V X G T σ L (st) tgt) (kf : ¬ x = c → V X G T σ L (.int x :: st) pc) : V X G T σ L (.int x :: st) pc := fun H locs ls hP hS hl => by
  by_cases h : x = c
  · subst h
    exact lv_tableIn B.1 B.2.1 d h1 h2 ho ht (kt rfl H locs ls hP hS hl)
  · exact kf h H locs ls hP hS hl
theorem r_tsD (B : Bd l X G b own nL D) {x : Int32} {df lo hi : Int} {offs : Array Int} {len : Nat} (tgt : Nat) (d : decode b pc = .ok (.tableswitch df lo hi offs, len)) (h : x.toInt < lo ∨ hi < x.toInt) (ht : (pc : Int) + df = (tgt : Int)) (kt : V X G T σ L (st) tgt) : V X G T σ L (.int x :: st) pc := fun H locs ls hP hS hl => lv_tableOut B.1 B.2.1 d h ht (kt H locs ls hP hS hl)
theorem r_lsw (B : Bd l X G b own nL D) {x : Int32} {df off : Int} {ps : Array (Int × Int)} {len : Nat} (tgt : Nat) (d : decode b pc = .ok (.lookupswitch df ps, len)) (hp : (ps.toList.zip (ps.toList.drop 1)).all (fun (a, next) => a.1 < next.1) = true) (ho : Op.lookupswitch.offset ps.toList df x.toInt = off) (ht : (pc : Int) + off = (tgt : Int)) (kt : V X G T σ L (st) tgt) : V X G T σ L (.int x :: st) pc := fun H locs ls hP hS hl => lv_lookup B.1 B.2.1 d hp ho ht (kt H locs ls hP hS hl)
theorem s_istore_n (B : Bd l X G b own nL D) {n : Fin 4} {x : Int32} (d : decode b pc = .ok (.istore_n n, 1)) (hn : (n : Nat) < nL) (hp : ∀ j, j + 1 = (n : Nat) → nl1 L[j]? = true) (k : V X G T σ (L.set n (some (.int x))) (st) (pc + 1)) : V X G T σ L (.int x :: st) pc := fun H locs ls hP hS hl => lv_istore_n B.1 B.2.1 d rfl (lo_has hl) (by rw [B.ml]; exact hn) rfl (fun ls1 h1 => k H locs ls1 hP hS (lo_set1 (ls := ls) h1 hp))
theorem s_istore (B : Bd l X G b own nL D) {n : Nat} {x : Int32} (d : decode b pc = .ok (.istore n, 2)) (hn : n < nL) (hp : ∀ j, j + 1 = n → nl1 L[j]? = true) (k : V X G T σ (L.set n (some (.int x))) (st) (pc + 2)) : V X G T σ L (.int x :: st) pc := fun H locs ls hP hS hl => lv_istore B.1 B.2.1 d (lo_has hl) (by rw [B.ml]; exact hn) rfl (fun ls1 h1 => k H locs ls1 hP hS (lo_set1 (ls := ls) h1 hp))
theorem s_astore_n (B : Bd l X G b own nL D) {n : Fin 4} {x : Nat} (d : decode b pc = .ok (.astore_n n, 1)) (hn : (n : Nat) < nL) (hp : ∀ j, j + 1 = (n : Nat) → nl1 L[j]? = true) (k : V X G T σ (L.set n (some (.ref x))) (st) (pc + 1)) : V X G T σ L (.ref x :: st) pc := fun H locs ls hP hS hl => lv_astore_n B.1 B.2.1 d rfl (lo_has hl) (by rw [B.ml]; exact hn) rfl (fun ls1 h1 => k H locs ls1 hP hS (lo_set1 (ls := ls) h1 hp))
theorem s_astore (B : Bd l X G b own nL D) {n : Nat} {x : Nat} (d : decode b pc = .ok (.astore n, 2)) (hn : n < nL) (hp : ∀ j, j + 1 = n → nl1 L[j]? = true) (k : V X G T σ (L.set n (some (.ref x))) (st) (pc + 2)) : V X G T σ L (.ref x :: st) pc := fun H locs ls hP hS hl => lv_astore B.1 B.2.1 d (lo_has hl) (by rw [B.ml]; exact hn) rfl (fun ls1 h1 => k H locs ls1 hP hS (lo_set1 (ls := ls) h1 hp))
theorem s_lstore_n (B : Bd l X G b own nL D) {n : Fin 4} {x : Int64} (d : decode b pc = .ok (.lstore_n n, 1)) (hn : (n : Nat) + 1 < nL) (hp : ∀ j, j + 1 = (n : Nat) → nl1 L[j]? = true) (k : V X G T σ ((L.set n (some (.long x))).set (n + 1) none) (st) (pc + 1)) : V X G T σ L (.long x :: st) pc := fun H locs ls hP hS hl => lv_lstore_n B.1 B.2.1 d rfl (lo_has hl) (by rw [B.ml]; exact hn) rfl (fun ls1 h1 => k H locs ls1 hP hS (lo_set2 (ls := ls) h1 hp))
theorem s_lstore (B : Bd l X G b own nL D) {n : Nat} {x : Int64} (d : decode b pc = .ok (.lstore n, 2)) (hn : n + 1 < nL) (hp : ∀ j, j + 1 = n → nl1 L[j]? = true) (k : V X G T σ ((L.set n (some (.long x))).set (n + 1) none) (st) (pc + 2)) : V X G T σ L (.long x :: st) pc := fun H locs ls hP hS hl => lv_lstore B.1 B.2.1 d (lo_has hl) (by rw [B.ml]; exact hn) rfl (fun ls1 h1 => k H locs ls1 hP hS (lo_set2 (ls := ls) h1 hp))
theorem s_iinc (B : Bd l X G b own nL D) {n : Nat} {i : Int} {x y : Int32} (d : decode b pc = .ok (.iinc n i, 3)) (hx : L[n]? = some (some (.int x))) (hy : x + Int32.ofInt i = y) (hn : n < nL) (hp : ∀ j, j + 1 = n → nl1 L[j]? = true) (k : V X G T σ (L.set n (some (.int y))) (st) (pc + 3)) : V X G T σ L (st) pc := fun H locs ls hP hS hl => by
  obtain ⟨q, hq⟩ := List.getElem?_of_mem (al_mem.mpr hx)
  exact lv_iinc B.1 B.2.1 d (lo_has hl) hq hy (by rw [B.ml]; exact hn) rfl (fun ls1 h1 => k H locs ls1 hP hS (lo_set1 (ls := ls) h1 hp))
theorem r_istore_0 (B : Bd l X G b own nL D) {x : Int32} {c0 : Option Value} {R : List (Option Value)} (d : decode b pc = .ok (.istore_n 0, 1)) (hn : 0 < nL)  (k : V X G T σ (some (.int x) :: R) (st) (pc + 1)) : V X G T σ (c0 :: R) (.int x :: st) pc := s_istore_n B d hn (fun j hj => absurd hj (Nat.succ_ne_zero j)) k
theorem r_astore_0 (B : Bd l X G b own nL D) {x : Nat} {c0 : Option Value} {R : List (Option Value)} (d : decode b pc = .ok (.astore_n 0, 1)) (hn : 0 < nL)  (k : V X G T σ (some (.ref x) :: R) (st) (pc + 1)) : V X G T σ (c0 :: R) (.ref x :: st) pc := s_astore_n B d hn (fun j hj => absurd hj (Nat.succ_ne_zero j)) k
theorem r_iinc_0 (B : Bd l X G b own nL D) {i : Int} {x y : Int32} {R : List (Option Value)} (d : decode b pc = .ok (.iinc 0 i, 3)) (hy : x + Int32.ofInt i = y) (hn : 0 < nL)  (k : V X G T σ (some (.int y) :: R) (st) (pc + 3)) : V X G T σ (some (.int x) :: R) (st) pc := s_iinc B d rfl hy hn (fun j hj => absurd hj (Nat.succ_ne_zero j)) k
theorem r_lstore_0 (B : Bd l X G b own nL D) {x : Int64} {c0 c1 : Option Value} {R : List (Option Value)} (d : decode b pc = .ok (.lstore_n 0, 1)) (hn : 0 + 1 < nL)  (k : V X G T σ (some (.long x) :: none :: R) (st) (pc + 1)) : V X G T σ (c0 :: c1 :: R) (.long x :: st) pc := s_lstore_n B d hn (fun j hj => absurd hj (Nat.succ_ne_zero j)) k
theorem r_istore_1 (B : Bd l X G b own nL D) {x : Int32} {a0 c0 : Option Value} {R : List (Option Value)} (d : decode b pc = .ok (.istore_n 1, 1)) (hn : 1 < nL) (hp : nl1 (some a0) = true) (k : V X G T σ (a0 :: some (.int x) :: R) (st) (pc + 1)) : V X G T σ (a0 :: c0 :: R) (.int x :: st) pc := s_istore_n B d hn (pj 0 hp) k
theorem r_astore_1 (B : Bd l X G b own nL D) {x : Nat} {a0 c0 : Option Value} {R : List (Option Value)} (d : decode b pc = .ok (.astore_n 1, 1)) (hn : 1 < nL) (hp : nl1 (some a0) = true) (k : V X G T σ (a0 :: some (.ref x) :: R) (st) (pc + 1)) : V X G T σ (a0 :: c0 :: R) (.ref x :: st) pc := s_astore_n B d hn (pj 0 hp) k
theorem r_iinc_1 (B : Bd l X G b own nL D) {i : Int} {x y : Int32} {a0 : Option Value} {R : List (Option Value)} (d : decode b pc = .ok (.iinc 1 i, 3)) (hy : x + Int32.ofInt i = y) (hn : 1 < nL) (hp : nl1 (some a0) = true) (k : V X G T σ (a0 :: some (.int y) :: R) (st) (pc + 3)) : V X G T σ (a0 :: some (.int x) :: R) (st) pc := s_iinc B d rfl hy hn (pj 0 hp) k
theorem r_lstore_1 (B : Bd l X G b own nL D) {x : Int64} {a0 c0 c1 : Option Value} {R : List (Option Value)} (d : decode b pc = .ok (.lstore_n 1, 1)) (hn : 1 + 1 < nL) (hp : nl1 (some a0) = true) (k : V X G T σ (a0 :: some (.long x) :: none :: R) (st) (pc + 1)) : V X G T σ (a0 :: c0 :: c1 :: R) (.long x :: st) pc := s_lstore_n B d hn (pj 0 hp) k
theorem r_istore_2 (B : Bd l X G b own nL D) {x : Int32} {a0 a1 c0 : Option Value} {R : List (Option Value)} (d : decode b pc = .ok (.istore_n 2, 1)) (hn : 2 < nL) (hp : nl1 (some a1) = true) (k : V X G T σ (a0 :: a1 :: some (.int x) :: R) (st) (pc + 1)) : V X G T σ (a0 :: a1 :: c0 :: R) (.int x :: st) pc := s_istore_n B d hn (pj 1 hp) k
theorem r_astore_2 (B : Bd l X G b own nL D) {x : Nat} {a0 a1 c0 : Option Value} {R : List (Option Value)} (d : decode b pc = .ok (.astore_n 2, 1)) (hn : 2 < nL) (hp : nl1 (some a1) = true) (k : V X G T σ (a0 :: a1 :: some (.ref x) :: R) (st) (pc + 1)) : V X G T σ (a0 :: a1 :: c0 :: R) (.ref x :: st) pc := s_astore_n B d hn (pj 1 hp) k
theorem r_iinc_2 (B : Bd l X G b own nL D) {i : Int} {x y : Int32} {a0 a1 : Option Value} {R : List (Option Value)} (d : decode b pc = .ok (.iinc 2 i, 3)) (hy : x + Int32.ofInt i = y) (hn : 2 < nL) (hp : nl1 (some a1) = true) (k : V X G T σ (a0 :: a1 :: some (.int y) :: R) (st) (pc + 3)) : V X G T σ (a0 :: a1 :: some (.int x) :: R) (st) pc := s_iinc B d rfl hy hn (pj 1 hp) k
theorem r_lstore_2 (B : Bd l X G b own nL D) {x : Int64} {a0 a1 c0 c1 : Option Value} {R : List (Option Value)} (d : decode b pc = .ok (.lstore_n 2, 1)) (hn : 2 + 1 < nL) (hp : nl1 (some a1) = true) (k : V X G T σ (a0 :: a1 :: some (.long x) :: none :: R) (st) (pc + 1)) : V X G T σ (a0 :: a1 :: c0 :: c1 :: R) (.long x :: st) pc := s_lstore_n B d hn (pj 1 hp) k
theorem r_istore_3 (B : Bd l X G b own nL D) {x : Int32} {a0 a1 a2 c0 : Option Value} {R : List (Option Value)} (d : decode b pc = .ok (.istore_n 3, 1)) (hn : 3 < nL) (hp : nl1 (some a2) = true) (k : V X G T σ (a0 :: a1 :: a2 :: some (.int x) :: R) (st) (pc + 1)) : V X G T σ (a0 :: a1 :: a2 :: c0 :: R) (.int x :: st) pc := s_istore_n B d hn (pj 2 hp) k
theorem r_astore_3 (B : Bd l X G b own nL D) {x : Nat} {a0 a1 a2 c0 : Option Value} {R : List (Option Value)} (d : decode b pc = .ok (.astore_n 3, 1)) (hn : 3 < nL) (hp : nl1 (some a2) = true) (k : V X G T σ (a0 :: a1 :: a2 :: some (.ref x) :: R) (st) (pc + 1)) : V X G T σ (a0 :: a1 :: a2 :: c0 :: R) (.ref x :: st) pc := s_astore_n B d hn (pj 2 hp) k
theorem r_iinc_3 (B : Bd l X G b own nL D) {i : Int} {x y : Int32} {a0 a1 a2 : Option Value} {R : List (Option Value)} (d : decode b pc = .ok (.iinc 3 i, 3)) (hy : x + Int32.ofInt i = y) (hn : 3 < nL) (hp : nl1 (some a2) = true) (k : V X G T σ (a0 :: a1 :: a2 :: some (.int y) :: R) (st) (pc + 3)) : V X G T σ (a0 :: a1 :: a2 :: some (.int x) :: R) (st) pc := s_iinc B d rfl hy hn (pj 2 hp) k
theorem r_lstore_3 (B : Bd l X G b own nL D) {x : Int64} {a0 a1 a2 c0 c1 : Option Value} {R : List (Option Value)} (d : decode b pc = .ok (.lstore_n 3, 1)) (hn : 3 + 1 < nL) (hp : nl1 (some a2) = true) (k : V X G T σ (a0 :: a1 :: a2 :: some (.long x) :: none :: R) (st) (pc + 1)) : V X G T σ (a0 :: a1 :: a2 :: c0 :: c1 :: R) (.long x :: st) pc := s_lstore_n B d hn (pj 2 hp) k
theorem r_istore_4 (B : Bd l X G b own nL D) {x : Int32} {a0 a1 a2 a3 c0 : Option Value} {R : List (Option Value)} (d : decode b pc = .ok (.istore 4, 2)) (hn : 4 < nL) (hp : nl1 (some a3) = true) (k : V X G T σ (a0 :: a1 :: a2 :: a3 :: some (.int x) :: R) (st) (pc + 2)) : V X G T σ (a0 :: a1 :: a2 :: a3 :: c0 :: R) (.int x :: st) pc := s_istore B d hn (pj 3 hp) k
theorem r_astore_4 (B : Bd l X G b own nL D) {x : Nat} {a0 a1 a2 a3 c0 : Option Value} {R : List (Option Value)} (d : decode b pc = .ok (.astore 4, 2)) (hn : 4 < nL) (hp : nl1 (some a3) = true) (k : V X G T σ (a0 :: a1 :: a2 :: a3 :: some (.ref x) :: R) (st) (pc + 2)) : V X G T σ (a0 :: a1 :: a2 :: a3 :: c0 :: R) (.ref x :: st) pc := s_astore B d hn (pj 3 hp) k
theorem r_iinc_4 (B : Bd l X G b own nL D) {i : Int} {x y : Int32} {a0 a1 a2 a3 : Option Value} {R : List (Option Value)} (d : decode b pc = .ok (.iinc 4 i, 3)) (hy : x + Int32.ofInt i = y) (hn : 4 < nL) (hp : nl1 (some a3) = true) (k : V X G T σ (a0 :: a1 :: a2 :: a3 :: some (.int y) :: R) (st) (pc + 3)) : V X G T σ (a0 :: a1 :: a2 :: a3 :: some (.int x) :: R) (st) pc := s_iinc B d rfl hy hn (pj 3 hp) k
theorem r_lstore_4 (B : Bd l X G b own nL D) {x : Int64} {a0 a1 a2 a3 c0 c1 : Option Value} {R : List (Option Value)} (d : decode b pc = .ok (.lstore 4, 2)) (hn : 4 + 1 < nL) (hp : nl1 (some a3) = true) (k : V X G T σ (a0 :: a1 :: a2 :: a3 :: some (.long x) :: none :: R) (st) (pc + 2)) : V X G T σ (a0 :: a1 :: a2 :: a3 :: c0 :: c1 :: R) (.long x :: st) pc := s_lstore B d hn (pj 3 hp) k
theorem r_istore_5 (B : Bd l X G b own nL D) {x : Int32} {a0 a1 a2 a3 a4 c0 : Option Value} {R : List (Option Value)} (d : decode b pc = .ok (.istore 5, 2)) (hn : 5 < nL) (hp : nl1 (some a4) = true) (k : V X G T σ (a0 :: a1 :: a2 :: a3 :: a4 :: some (.int x) :: R) (st) (pc + 2)) : V X G T σ (a0 :: a1 :: a2 :: a3 :: a4 :: c0 :: R) (.int x :: st) pc := s_istore B d hn (pj 4 hp) k
theorem r_astore_5 (B : Bd l X G b own nL D) {x : Nat} {a0 a1 a2 a3 a4 c0 : Option Value} {R : List (Option Value)} (d : decode b pc = .ok (.astore 5, 2)) (hn : 5 < nL) (hp : nl1 (some a4) = true) (k : V X G T σ (a0 :: a1 :: a2 :: a3 :: a4 :: some (.ref x) :: R) (st) (pc + 2)) : V X G T σ (a0 :: a1 :: a2 :: a3 :: a4 :: c0 :: R) (.ref x :: st) pc := s_astore B d hn (pj 4 hp) k
theorem r_iinc_5 (B : Bd l X G b own nL D) {i : Int} {x y : Int32} {a0 a1 a2 a3 a4 : Option Value} {R : List (Option Value)} (d : decode b pc = .ok (.iinc 5 i, 3)) (hy : x + Int32.ofInt i = y) (hn : 5 < nL) (hp : nl1 (some a4) = true) (k : V X G T σ (a0 :: a1 :: a2 :: a3 :: a4 :: some (.int y) :: R) (st) (pc + 3)) : V X G T σ (a0 :: a1 :: a2 :: a3 :: a4 :: some (.int x) :: R) (st) pc := s_iinc B d rfl hy hn (pj 4 hp) k
theorem r_lstore_5 (B : Bd l X G b own nL D) {x : Int64} {a0 a1 a2 a3 a4 c0 c1 : Option Value} {R : List (Option Value)} (d : decode b pc = .ok (.lstore 5, 2)) (hn : 5 + 1 < nL) (hp : nl1 (some a4) = true) (k : V X G T σ (a0 :: a1 :: a2 :: a3 :: a4 :: some (.long x) :: none :: R) (st) (pc + 2)) : V X G T σ (a0 :: a1 :: a2 :: a3 :: a4 :: c0 :: c1 :: R) (.long x :: st) pc := s_lstore B d hn (pj 4 hp) k
theorem r_istore_6 (B : Bd l X G b own nL D) {x : Int32} {a0 a1 a2 a3 a4 a5 c0 : Option Value} {R : List (Option Value)} (d : decode b pc = .ok (.istore 6, 2)) (hn : 6 < nL) (hp : nl1 (some a5) = true) (k : V X G T σ (a0 :: a1 :: a2 :: a3 :: a4 :: a5 :: some (.int x) :: R) (st) (pc + 2)) : V X G T σ (a0 :: a1 :: a2 :: a3 :: a4 :: a5 :: c0 :: R) (.int x :: st) pc := s_istore B d hn (pj 5 hp) k
theorem r_astore_6 (B : Bd l X G b own nL D) {x : Nat} {a0 a1 a2 a3 a4 a5 c0 : Option Value} {R : List (Option Value)} (d : decode b pc = .ok (.astore 6, 2)) (hn : 6 < nL) (hp : nl1 (some a5) = true) (k : V X G T σ (a0 :: a1 :: a2 :: a3 :: a4 :: a5 :: some (.ref x) :: R) (st) (pc + 2)) : V X G T σ (a0 :: a1 :: a2 :: a3 :: a4 :: a5 :: c0 :: R) (.ref x :: st) pc := s_astore B d hn (pj 5 hp) k
theorem r_iinc_6 (B : Bd l X G b own nL D) {i : Int} {x y : Int32} {a0 a1 a2 a3 a4 a5 : Option Value} {R : List (Option Value)} (d : decode b pc = .ok (.iinc 6 i, 3)) (hy : x + Int32.ofInt i = y) (hn : 6 < nL) (hp : nl1 (some a5) = true) (k : V X G T σ (a0 :: a1 :: a2 :: a3 :: a4 :: a5 :: some (.int y) :: R) (st) (pc + 3)) : V X G T σ (a0 :: a1 :: a2 :: a3 :: a4 :: a5 :: some (.int x) :: R) (st) pc := s_iinc B d rfl hy hn (pj 5 hp) k
theorem r_lstore_6 (B : Bd l X G b own nL D) {x : Int64} {a0 a1 a2 a3 a4 a5 c0 c1 : Option Value} {R : List (Option Value)} (d : decode b pc = .ok (.lstore 6, 2)) (hn : 6 + 1 < nL) (hp : nl1 (some a5) = true) (k : V X G T σ (a0 :: a1 :: a2 :: a3 :: a4 :: a5 :: some (.long x) :: none :: R) (st) (pc + 2)) : V X G T σ (a0 :: a1 :: a2 :: a3 :: a4 :: a5 :: c0 :: c1 :: R) (.long x :: st) pc := s_lstore B d hn (pj 5 hp) k
theorem r_istore_7 (B : Bd l X G b own nL D) {x : Int32} {a0 a1 a2 a3 a4 a5 a6 c0 : Option Value} {R : List (Option Value)} (d : decode b pc = .ok (.istore 7, 2)) (hn : 7 < nL) (hp : nl1 (some a6) = true) (k : V X G T σ (a0 :: a1 :: a2 :: a3 :: a4 :: a5 :: a6 :: some (.int x) :: R) (st) (pc + 2)) : V X G T σ (a0 :: a1 :: a2 :: a3 :: a4 :: a5 :: a6 :: c0 :: R) (.int x :: st) pc := s_istore B d hn (pj 6 hp) k
theorem r_astore_7 (B : Bd l X G b own nL D) {x : Nat} {a0 a1 a2 a3 a4 a5 a6 c0 : Option Value} {R : List (Option Value)} (d : decode b pc = .ok (.astore 7, 2)) (hn : 7 < nL) (hp : nl1 (some a6) = true) (k : V X G T σ (a0 :: a1 :: a2 :: a3 :: a4 :: a5 :: a6 :: some (.ref x) :: R) (st) (pc + 2)) : V X G T σ (a0 :: a1 :: a2 :: a3 :: a4 :: a5 :: a6 :: c0 :: R) (.ref x :: st) pc := s_astore B d hn (pj 6 hp) k
theorem r_iinc_7 (B : Bd l X G b own nL D) {i : Int} {x y : Int32} {a0 a1 a2 a3 a4 a5 a6 : Option Value} {R : List (Option Value)} (d : decode b pc = .ok (.iinc 7 i, 3)) (hy : x + Int32.ofInt i = y) (hn : 7 < nL) (hp : nl1 (some a6) = true) (k : V X G T σ (a0 :: a1 :: a2 :: a3 :: a4 :: a5 :: a6 :: some (.int y) :: R) (st) (pc + 3)) : V X G T σ (a0 :: a1 :: a2 :: a3 :: a4 :: a5 :: a6 :: some (.int x) :: R) (st) pc := s_iinc B d rfl hy hn (pj 6 hp) k
theorem r_lstore_7 (B : Bd l X G b own nL D) {x : Int64} {a0 a1 a2 a3 a4 a5 a6 c0 c1 : Option Value} {R : List (Option Value)} (d : decode b pc = .ok (.lstore 7, 2)) (hn : 7 + 1 < nL) (hp : nl1 (some a6) = true) (k : V X G T σ (a0 :: a1 :: a2 :: a3 :: a4 :: a5 :: a6 :: some (.long x) :: none :: R) (st) (pc + 2)) : V X G T σ (a0 :: a1 :: a2 :: a3 :: a4 :: a5 :: a6 :: c0 :: c1 :: R) (.long x :: st) pc := s_lstore B d hn (pj 6 hp) k
theorem r_istore_8 (B : Bd l X G b own nL D) {x : Int32} {a0 a1 a2 a3 a4 a5 a6 a7 c0 : Option Value} {R : List (Option Value)} (d : decode b pc = .ok (.istore 8, 2)) (hn : 8 < nL) (hp : nl1 (some a7) = true) (k : V X G T σ (a0 :: a1 :: a2 :: a3 :: a4 :: a5 :: a6 :: a7 :: some (.int x) :: R) (st) (pc + 2)) : V X G T σ (a0 :: a1 :: a2 :: a3 :: a4 :: a5 :: a6 :: a7 :: c0 :: R) (.int x :: st) pc := s_istore B d hn (pj 7 hp) k
theorem r_astore_8 (B : Bd l X G b own nL D) {x : Nat} {a0 a1 a2 a3 a4 a5 a6 a7 c0 : Option Value} {R : List (Option Value)} (d : decode b pc = .ok (.astore 8, 2)) (hn : 8 < nL) (hp : nl1 (some a7) = true) (k : V X G T σ (a0 :: a1 :: a2 :: a3 :: a4 :: a5 :: a6 :: a7 :: some (.ref x) :: R) (st) (pc + 2)) : V X G T σ (a0 :: a1 :: a2 :: a3 :: a4 :: a5 :: a6 :: a7 :: c0 :: R) (.ref x :: st) pc := s_astore B d hn (pj 7 hp) k
theorem r_iinc_8 (B : Bd l X G b own nL D) {i : Int} {x y : Int32} {a0 a1 a2 a3 a4 a5 a6 a7 : Option Value} {R : List (Option Value)} (d : decode b pc = .ok (.iinc 8 i, 3)) (hy : x + Int32.ofInt i = y) (hn : 8 < nL) (hp : nl1 (some a7) = true) (k : V X G T σ (a0 :: a1 :: a2 :: a3 :: a4 :: a5 :: a6 :: a7 :: some (.int y) :: R) (st) (pc + 3)) : V X G T σ (a0 :: a1 :: a2 :: a3 :: a4 :: a5 :: a6 :: a7 :: some (.int x) :: R) (st) pc := s_iinc B d rfl hy hn (pj 7 hp) k
theorem r_lstore_8 (B : Bd l X G b own nL D) {x : Int64} {a0 a1 a2 a3 a4 a5 a6 a7 c0 c1 : Option Value} {R : List (Option Value)} (d : decode b pc = .ok (.lstore 8, 2)) (hn : 8 + 1 < nL) (hp : nl1 (some a7) = true) (k : V X G T σ (a0 :: a1 :: a2 :: a3 :: a4 :: a5 :: a6 :: a7 :: some (.long x) :: none :: R) (st) (pc + 2)) : V X G T σ (a0 :: a1 :: a2 :: a3 :: a4 :: a5 :: a6 :: a7 :: c0 :: c1 :: R) (.long x :: st) pc := s_lstore B d hn (pj 7 hp) k
theorem r_istore_9 (B : Bd l X G b own nL D) {x : Int32} {a0 a1 a2 a3 a4 a5 a6 a7 a8 c0 : Option Value} {R : List (Option Value)} (d : decode b pc = .ok (.istore 9, 2)) (hn : 9 < nL) (hp : nl1 (some a8) = true) (k : V X G T σ (a0 :: a1 :: a2 :: a3 :: a4 :: a5 :: a6 :: a7 :: a8 :: some (.int x) :: R) (st) (pc + 2)) : V X G T σ (a0 :: a1 :: a2 :: a3 :: a4 :: a5 :: a6 :: a7 :: a8 :: c0 :: R) (.int x :: st) pc := s_istore B d hn (pj 8 hp) k
theorem r_astore_9 (B : Bd l X G b own nL D) {x : Nat} {a0 a1 a2 a3 a4 a5 a6 a7 a8 c0 : Option Value} {R : List (Option Value)} (d : decode b pc = .ok (.astore 9, 2)) (hn : 9 < nL) (hp : nl1 (some a8) = true) (k : V X G T σ (a0 :: a1 :: a2 :: a3 :: a4 :: a5 :: a6 :: a7 :: a8 :: some (.ref x) :: R) (st) (pc + 2)) : V X G T σ (a0 :: a1 :: a2 :: a3 :: a4 :: a5 :: a6 :: a7 :: a8 :: c0 :: R) (.ref x :: st) pc := s_astore B d hn (pj 8 hp) k
theorem r_iinc_9 (B : Bd l X G b own nL D) {i : Int} {x y : Int32} {a0 a1 a2 a3 a4 a5 a6 a7 a8 : Option Value} {R : List (Option Value)} (d : decode b pc = .ok (.iinc 9 i, 3)) (hy : x + Int32.ofInt i = y) (hn : 9 < nL) (hp : nl1 (some a8) = true) (k : V X G T σ (a0 :: a1 :: a2 :: a3 :: a4 :: a5 :: a6 :: a7 :: a8 :: some (.int y) :: R) (st) (pc + 3)) : V X G T σ (a0 :: a1 :: a2 :: a3 :: a4 :: a5 :: a6 :: a7 :: a8 :: some (.int x) :: R) (st) pc := s_iinc B d rfl hy hn (pj 8 hp) k
theorem r_lstore_9 (B : Bd l X G b own nL D) {x : Int64} {a0 a1 a2 a3 a4 a5 a6 a7 a8 c0 c1 : Option Value} {R : List (Option Value)} (d : decode b pc = .ok (.lstore 9, 2)) (hn : 9 + 1 < nL) (hp : nl1 (some a8) = true) (k : V X G T σ (a0 :: a1 :: a2 :: a3 :: a4 :: a5 :: a6 :: a7 :: a8 :: some (.long x) :: none :: R) (st) (pc + 2)) : V X G T σ (a0 :: a1 :: a2 :: a3 :: a4 :: a5 :: a6 :: a7 :: a8 :: c0 :: c1 :: R) (.long x :: st) pc := s_lstore B d hn (pj 8 hp) k
theorem r_istore_10 (B : Bd l X G b own nL D) {x : Int32} {a0 a1 a2 a3 a4 a5 a6 a7 a8 a9 c0 : Option Value} {R : List (Option Value)} (d : decode b pc = .ok (.istore 10, 2)) (hn : 10 < nL) (hp : nl1 (some a9) = true) (k : V X G T σ (a0 :: a1 :: a2 :: a3 :: a4 :: a5 :: a6 :: a7 :: a8 :: a9 :: some (.int x) :: R) (st) (pc + 2)) : V X G T σ (a0 :: a1 :: a2 :: a3 :: a4 :: a5 :: a6 :: a7 :: a8 :: a9 :: c0 :: R) (.int x :: st) pc := s_istore B d hn (pj 9 hp) k
theorem r_astore_10 (B : Bd l X G b own nL D) {x : Nat} {a0 a1 a2 a3 a4 a5 a6 a7 a8 a9 c0 : Option Value} {R : List (Option Value)} (d : decode b pc = .ok (.astore 10, 2)) (hn : 10 < nL) (hp : nl1 (some a9) = true) (k : V X G T σ (a0 :: a1 :: a2 :: a3 :: a4 :: a5 :: a6 :: a7 :: a8 :: a9 :: some (.ref x) :: R) (st) (pc + 2)) : V X G T σ (a0 :: a1 :: a2 :: a3 :: a4 :: a5 :: a6 :: a7 :: a8 :: a9 :: c0 :: R) (.ref x :: st) pc := s_astore B d hn (pj 9 hp) k
theorem r_iinc_10 (B : Bd l X G b own nL D) {i : Int} {x y : Int32} {a0 a1 a2 a3 a4 a5 a6 a7 a8 a9 : Option Value} {R : List (Option Value)} (d : decode b pc = .ok (.iinc 10 i, 3)) (hy : x + Int32.ofInt i = y) (hn : 10 < nL) (hp : nl1 (some a9) = true) (k : V X G T σ (a0 :: a1 :: a2 :: a3 :: a4 :: a5 :: a6 :: a7 :: a8 :: a9 :: some (.int y) :: R) (st) (pc + 3)) : V X G T σ (a0 :: a1 :: a2 :: a3 :: a4 :: a5 :: a6 :: a7 :: a8 :: a9 :: some (.int x) :: R) (st) pc := s_iinc B d rfl hy hn (pj 9 hp) k
theorem r_lstore_10 (B : Bd l X G b own nL D) {x : Int64} {a0 a1 a2 a3 a4 a5 a6 a7 a8 a9 c0 c1 : Option Value} {R : List (Option Value)} (d : decode b pc = .ok (.lstore 10, 2)) (hn : 10 + 1 < nL) (hp : nl1 (some a9) = true) (k : V X G T σ (a0 :: a1 :: a2 :: a3 :: a4 :: a5 :: a6 :: a7 :: a8 :: a9 :: some (.long x) :: none :: R) (st) (pc + 2)) : V X G T σ (a0 :: a1 :: a2 :: a3 :: a4 :: a5 :: a6 :: a7 :: a8 :: a9 :: c0 :: c1 :: R) (.long x :: st) pc := s_lstore B d hn (pj 9 hp) k
theorem r_istore_11 (B : Bd l X G b own nL D) {x : Int32} {a0 a1 a2 a3 a4 a5 a6 a7 a8 a9 a10 c0 : Option Value} {R : List (Option Value)} (d : decode b pc = .ok (.istore 11, 2)) (hn : 11 < nL) (hp : nl1 (some a10) = true) (k : V X G T σ (a0 :: a1 :: a2 :: a3 :: a4 :: a5 :: a6 :: a7 :: a8 :: a9 :: a10 :: some (.int x) :: R) (st) (pc + 2)) : V X G T σ (a0 :: a1 :: a2 :: a3 :: a4 :: a5 :: a6 :: a7 :: a8 :: a9 :: a10 :: c0 :: R) (.int x :: st) pc := s_istore B d hn (pj 10 hp) k
theorem r_astore_11 (B : Bd l X G b own nL D) {x : Nat} {a0 a1 a2 a3 a4 a5 a6 a7 a8 a9 a10 c0 : Option Value} {R : List (Option Value)} (d : decode b pc = .ok (.astore 11, 2)) (hn : 11 < nL) (hp : nl1 (some a10) = true) (k : V X G T σ (a0 :: a1 :: a2 :: a3 :: a4 :: a5 :: a6 :: a7 :: a8 :: a9 :: a10 :: some (.ref x) :: R) (st) (pc + 2)) : V X G T σ (a0 :: a1 :: a2 :: a3 :: a4 :: a5 :: a6 :: a7 :: a8 :: a9 :: a10 :: c0 :: R) (.ref x :: st) pc := s_astore B d hn (pj 10 hp) k
theorem r_iinc_11 (B : Bd l X G b own nL D) {i : Int} {x y : Int32} {a0 a1 a2 a3 a4 a5 a6 a7 a8 a9 a10 : Option Value} {R : List (Option Value)} (d : decode b pc = .ok (.iinc 11 i, 3)) (hy : x + Int32.ofInt i = y) (hn : 11 < nL) (hp : nl1 (some a10) = true) (k : V X G T σ (a0 :: a1 :: a2 :: a3 :: a4 :: a5 :: a6 :: a7 :: a8 :: a9 :: a10 :: some (.int y) :: R) (st) (pc + 3)) : V X G T σ (a0 :: a1 :: a2 :: a3 :: a4 :: a5 :: a6 :: a7 :: a8 :: a9 :: a10 :: some (.int x) :: R) (st) pc := s_iinc B d rfl hy hn (pj 10 hp) k
theorem r_lstore_11 (B : Bd l X G b own nL D) {x : Int64} {a0 a1 a2 a3 a4 a5 a6 a7 a8 a9 a10 c0 c1 : Option Value} {R : List (Option Value)} (d : decode b pc = .ok (.lstore 11, 2)) (hn : 11 + 1 < nL) (hp : nl1 (some a10) = true) (k : V X G T σ (a0 :: a1 :: a2 :: a3 :: a4 :: a5 :: a6 :: a7 :: a8 :: a9 :: a10 :: some (.long x) :: none :: R) (st) (pc + 2)) : V X G T σ (a0 :: a1 :: a2 :: a3 :: a4 :: a5 :: a6 :: a7 :: a8 :: a9 :: a10 :: c0 :: c1 :: R) (.long x :: st) pc := s_lstore B d hn (pj 10 hp) k
end RW
end
section
/-! fields -/
/-- the entry idx of own's pool is field i of class ci -/
def FF (own : String) (idx ci i : Nat) : Prop := ∃ (C : String) (Tt : u_T) (N : Nat) (ty0 : Nat → FieldType), vwCl[ci]? = some (C, Tt, N) ∧ i < N ∧ Cond.fieldLink own idx (Tt i).1 (Tt i).2.1 (Tt i).2.2.1 ∈ lwg ∧ (∀ w ∈ u_ws C Tt N, w ∈ lwg) ∧ (∀ k, k < N → parseFieldDescriptor (Tt k).2.2.1 = some (ty0 k)) ∧ (∀ a, a < N → ∀ b, b < N → a ≠ b → (Tt a).2.1 ≠ (Tt b).2.1)
/-- and it is no final one, of type d -/
def FP (own : String) (idx ci i : Nat) (d : String) : Prop := ∃ (C : String) (Tt : u_T) (N : Nat) (ty0 : Nat → FieldType), (vwCl[ci]? = some (C, Tt, N) ∧ i < N ∧ Cond.fieldLink own idx (Tt i).1 (Tt i).2.1 (Tt i).2.2.1 ∈ lwg ∧ (∀ w ∈ u_ws C Tt N, w ∈ lwg) ∧ (∀ k, k < N → parseFieldDescriptor (Tt k).2.2.1 = some (ty0 k)) ∧ (∀ a, a < N → ∀ b, b < N → a ≠ b → (Tt a).2.1 ≠ (Tt b).2.1)) ∧ (Tt i).2.2.2 = false ∧ (Tt i).2.2.1 = d
/-- an index within an array, as a number -/
def ix (i : Int32) (n j : Nat) : Prop := vp_in i n ∧ i.toNatClampNeg = j
section RF
variable {l : Launch} {X : CX} {G : GG} {T : List Sh} {σ : Sg} {L : List (Option Value)} {st : List Value} {pc : Nat} {b : ByteArray} {own : String} {nL D : Nat}
theorem r_get (B : Bd l X G b own nL D) {idx ci i k : Nat} {fs : List (Option (Option Nat))} {x : Option (Option Nat)} (F : FF own idx ci i) (hT : T[k]? = some (.inl (ci, fs))) (hf : fs[i]? = some x) (d : decode b pc = .ok (.getfield idx, 3)) (kk : V X G T σ L (fv G (σ k) i x :: st) (pc + 3)) : V X G T σ L (.ref (ad G k) :: st) pc := fun H locs ls hP hS hl => by
  obtain ⟨C, Tt, N, ty0, hc, hi, hw, hu, -, -⟩ := F
  exact va_get (D := G.1) (cl := vwCl) (ci := ci) (C := C) (T := Tt) (N := N) B.1 B.2.1 B.2.2.2.1 hu B.2.2.1 B.2.2.2.2.1.1 hP k (wl_at hT) hc i hi (B.2.2.2.1 _ hw) (fun _ h => h) (vl_at hf) d (kk H locs ls hP hS hl)
theorem r_geti (B : Bd l X G b own nL D) {idx ci i k : Nat} {fs : List (Option (Option Nat))} (F : FF own idx ci i) (hT : T[k]? = some (.inl (ci, fs))) (hf : fs[i]? = some none) (d : decode b pc = .ok (.getfield idx, 3)) (kk : V X G T σ L (.int (σ k i) :: st) (pc + 3)) : V X G T σ L (.ref (ad G k) :: st) pc := r_get B F hT hf d kk
theorem r_getr (B : Bd l X G b own nL D) {idx ci i k j : Nat} {fs : List (Option (Option Nat))} (F : FF own idx ci i) (hT : T[k]? = some (.inl (ci, fs))) (hf : fs[i]? = some (some (some j))) (d : decode b pc = .ok (.getfield idx, 3)) (kk : V X G T σ L (.ref (ad G j) :: st) (pc + 3)) : V X G T σ L (.ref (ad G k) :: st) pc := r_get B F hT hf d kk
theorem Pic.put {H1 : Heap} {k i : Nat} {ci : Nat} {fs : List (Option (Option Nat))} {v : Int32} (hT : T[k]? = some (.inl (ci, fs))) (hf : fs[i]? = some none) (h : va_P G.1 vwCl ((wl G T σ).set k (ad G k, .inr (ci, (vl G (σ k) fs).set i (.int v)))) H1) : Pic G T (st2 σ k i v) H1 := by
  rw [vl_set hf] at h
  have e := wl_set (G := G) (σ := σ) hT (upd (σ k) i v)
  rw [show ce G (upd (σ k) i v) (.inl (ci, fs)) = .inr (ci, vl G (upd (σ k) i v) fs) from rfl] at e
  rw [e, st2_eq] at h
  exact h
theorem r_putw (B : Bd l X G b own nL D) {idx ci i k : Nat} {fs : List (Option (Option Nat))} {v : Int32} {ty : FieldType} {dd : String} (F : FP own idx ci i dd) (hty : parseFieldDescriptor dd = some ty) (hn : narrow ty (.int v) = .int v) (hfi : fits ty (.int v) = true) (hT : T[k]? = some (.inl (ci, fs))) (hf : fs[i]? = some none) (d : decode b pc = .ok (.putfield idx, 3)) (kk : V X G T (st2 σ k i v) L st (pc + 3)) : V X G T σ L (.int v :: .ref (ad G k) :: st) pc := fun H locs ls hP hS hl => by
  obtain ⟨C, Tt, N, ty0, ⟨hc, hi, hw, hu, ht0, hnm⟩, hfin, hdd⟩ := F
  have hlen : i < (vl G (σ k) fs).length := by simp [vl]; exact (List.getElem?_eq_some_iff.mp hf).1
  have hap := va_apart (own := own) B.2.2.2.1 hu ty0 ht0 hnm B.2.2.2.2.1.1 hc
  obtain ⟨r, h1, cell, q1, q2, q3, q4⟩ := hP k _ (wl_at hT)
  have hr : r = (C, Tt, N) := Option.some.inj (h1.symm.trans hc)
  subst hr
  obtain ⟨hS1, hfc, kC, hkC, hkind⟩ := B.2.2.2.2.1.1.1 ci _ hc
  obtain ⟨cf, kf, fi, f, hi1, hsl⟩ := hS1 i hi
  have hlay := B.2.2.2.1 _ (hu _ (u_in_lay hi))
  unfold u_lay at hlay
  rw [if_neg (by rw [hfin]; decide)] at hlay
  have hst := (u_facts hfc hkC (u_lays B.2.2.2.1 hu hi) hi1).1
  have h6 := u_store hfc hkC hkind hlay hi1 (by rw [hdd]; exact hty) hn hfi
  refine W.putK B.1 B.2.1 (f := f) ⟨B.2.2.1, B.2.2.2.1 _ hw, ⟨_, _, _, hi1⟩, hst⟩ (by rw [q2]; exact h6) q1 q3 (by rw [hsl]; exact k2_hasslot (q4 i hi)) rfl rfl d fun H' e1 e2 e3 => ?_
  rw [hsl] at e1 ⊢
  refine kk H' _ ls (Pic.put hT hf (hP.set wl_D (wl_at hT) ⟨_, hc, t_OB.to (V := updV (vp_V (vl G (σ k) fs)) i (.int v)) ⟨_, e1, q2, q3, t_set q4 hap hi (.int v)⟩ (fun j _ => vp_updV_set hlen (.int v) j)⟩ e3)) (hS.put e2 e3 (wl_D.2 k _ (wl_at (G := G) (σ := σ) hT))) hl
theorem r_puti (B : Bd l X G b own nL D) {idx ci i k : Nat} {fs : List (Option (Option Nat))} {v : Int32} (F : FP own idx ci i "I") (hT : T[k]? = some (.inl (ci, fs))) (hf : fs[i]? = some none) (d : decode b pc = .ok (.putfield idx, 3)) (kk : V X G T (st2 σ k i v) L st (pc + 3)) : V X G T σ L (.int v :: .ref (ad G k) :: st) pc := r_putw B F (ty := .int) (by decide +kernel) rfl rfl hT hf d kk
theorem r_putz (B : Bd l X G b own nL D) {idx ci i k : Nat} {fs : List (Option (Option Nat))} {v : Int32} (F : FP own idx ci i "Z") (hv : v = 0 ∨ v = 1) (hT : T[k]? = some (.inl (ci, fs))) (hf : fs[i]? = some none) (d : decode b pc = .ok (.putfield idx, 3)) (kk : V X G T (st2 σ k i v) L st (pc + 3)) : V X G T σ L (.int v :: .ref (ad G k) :: st) pc := r_putw B F (ty := .boolean) (by decide +kernel) (by rcases hv with rfl | rfl <;> rfl) (by rcases hv with rfl | rfl <;> rfl) hT hf d kk
/-! arrays -/
theorem ix_nI {n N : Nat} (h : n < N) (hN : N < 2 ^ 31) : ix (nI n) N n := ⟨vp_in_nI h hN, nI_clamp (by omega)⟩
theorem r_iald (B : Bd l X G b own nL D) {k n j : Nat} {i : Int32} (hT : T[k]? = some (.inr (.inl n))) (hi : ix i n j) (d : decode b pc = .ok (.iaload, 1)) (kk : V X G T σ L (.int (σ k j) :: st) (pc + 1)) : V X G T σ L (.int i :: .ref (ad G k) :: st) pc := fun H locs ls hP hS hl => by
  obtain ⟨h1, rfl⟩ := hi
  exact va_iald (D := G.1) (cl := vwCl) B.1 B.2.1 B.2.2.2.2.1.1 hP k 0 (wl_at hT) rfl h1 d (kk H locs ls hP hS hl)
theorem r_iast (B : Bd l X G b own nL D) {k n j : Nat} {i v : Int32} (hT : T[k]? = some (.inr (.inl n))) (hi : ix i n j) (d : decode b pc = .ok (.iastore, 1)) (kk : V X G T (st2 σ k j v) L st (pc + 1)) : V X G T σ L (.int v :: .int i :: .ref (ad G k) :: st) pc := fun H locs ls hP hS hl => by
  obtain ⟨h1, rfl⟩ := hi
  refine W.iast B.1 B.2.1 (hP k _ (wl_at hT)) ((B.2.2.2.2.1.1.2 0 (G.2.1 0, .int) rfl).1 n (fun j => .int (σ k j))) (fun q => by cases q) (by show ¬ (i < 0 ∨ (arrV _ _ _).slots.size ≤ _); rw [arrV_size]; exact h1) rfl rfl d fun H1 e z oq => ?_
  have hat : va_at G.1 vwCl (ad G k, ce G (upd (σ k) i.toNatClampNeg v) (.inr (.inl n))) H1 := by
    show H1[_]? = some (vp_cell _ _)
    rw [e]
    show some ((vp_cell (G.2.1 0) (n, .inl (σ k))).setSlot _ _) = some (vp_cell (G.2.1 0) (n, .inl (upd (σ k) i.toNatClampNeg v)))
    rw [vp_cell_i, vp_cell_i, arrV_store]
    congr 2
    funext q
    by_cases hq : q = i.toNatClampNeg
    · subst hq
      simp [updV, upd]
    · simp [updV, upd, hq]
  have h3 := hP.set wl_D (wl_at hT) hat oq
  rw [wl_set hT, st2_eq] at h3
  exact kk H1 _ ls h3 (hS.put z oq (wl_D.2 k _ (wl_at (G := G) (σ := σ) hT))) hl
theorem r_alen (B : Bd l X G b own nL D) {k n : Nat} (hT : T[k]? = some (.inr (.inl n))) (d : decode b pc = .ok (.arraylength, 1)) (kk : V X G T σ L (.int (nI n) :: st) (pc + 1)) : V X G T σ L (.ref (ad G k) :: st) pc := fun H locs ls hP hS hl => va_alen (D := G.1) (cl := vwCl) B.1 B.2.1 B.2.2.2.2.1.1 hP k 0 (wl_at hT) (ty := .int) rfl rfl d (kk H locs ls hP hS hl)
theorem r_aald (B : Bd l X G b own nL D) {k c j q : Nat} {C : String} {js : List (Option Nat)} {i : Int32} (hT : T[k]? = some (.inr (.inr (c, js)))) (hc : (tyL G)[c]? = some (G.2.1 c, .object C)) (hi : ix i js.length j) (hj : js[j]? = some (some q)) (d : decode b pc = .ok (.aaload, 1)) (kk : V X G T σ L (.ref (ad G q) :: st) (pc + 1)) : V X G T σ L (.int i :: .ref (ad G k) :: st) pc := fun H locs ls hP hS hl => by
  obtain ⟨h1, rfl⟩ := hi
  refine va_aldq (D := G.1) (cl := vwCl) (f := fun i => ((js[i]?).getD none).map (ad G)) B.1 B.2.1 B.2.2.2.2.1.1 hP k c (wl_at hT) hc h1 d ?_
  have e : va_rf ((fun i => ((js[i]?).getD none).map (ad G)) i.toNatClampNeg) = .ref (ad G q) := by
    show va_rf (((js[i.toNatClampNeg]?).getD none).map (ad G)) = _
    rw [hj]; rfl
  rw [e]
  exact kk H locs ls hP hS hl
/-! the two tables -/
theorem r_gs (B : Bd l X G b own nL D) {idx : Nat} (w : Cond.fieldLink own idx "InsideOut" "GREATEST" "[I" ∈ lwg) (d : decode b pc = .ok (.getstatic idx, 3)) (kk : V X G T σ L (.ref G.2.2.2.2.2.1 :: st) (pc + 3)) : V X G T σ L st pc := fun H locs ls hP hS hl => va_gets B.1 B.2.1 B.2.2.2.2.1.2.1.1 hS B.2.2.1 (B.2.2.2.1 _ w) (fun _ h => h) d (kk H locs ls hP hS hl)
theorem r_gk (B : Bd l X G b own nL D) {idx : Nat} (w : Cond.fieldLink own idx "InsideOut" "KIND_ABOVE" "[I" ∈ lwg) (d : decode b pc = .ok (.getstatic idx, 3)) (kk : V X G T σ L (.ref G.2.2.2.2.2.2 :: st) (pc + 3)) : V X G T σ L st pc := fun H locs ls hP hS hl => va_gets B.1 B.2.1 B.2.2.2.2.1.2.1.2.2.1 hS B.2.2.1 (B.2.2.2.1 _ w) (fun _ h => h) d (kk H locs ls hP hS hl)
theorem r_gsN (B : Bd l X G b own nL D) {idx : Nat} (w : Cond.fieldLinkNest own idx "InsideOut" "GREATEST" "[I" "InsideOut" ∈ nW) (d : decode b pc = .ok (.getstatic idx, 3)) (kk : V X G T σ L (.ref G.2.2.2.2.2.1 :: st) (pc + 3)) : V X G T σ L st pc := fun H locs ls hP hS hl => va_getsN B.1 B.2.1 B.2.2.2.2.1.2.1.1 hS B.2.2.1 (va_Nw.use rfl (B.2.2.2.2.1.2.2.1 _ w)) (fun _ h => h) d (kk H locs ls hP hS hl)
theorem r_tg (B : Bd l X G b own nL D) {i v : Int32} (j : Nat) (hi : ix i 8 j) (hv : gT j = .int v) (d : decode b pc = .ok (.iaload, 1)) (kk : V X G T σ L (.int v :: st) (pc + 1)) : V X G T σ L (.int i :: .ref G.2.2.2.2.2.1 :: st) pc := fun H locs ls hP hS hl => by
  obtain ⟨h1, rfl⟩ := hi
  exact va_ti B.1 B.2.1 B.2.2.2.2.1.2.1.2.1 hS h1 hv d (kk H locs ls hP hS hl)
theorem r_tk (B : Bd l X G b own nL D) {i v : Int32} (j : Nat) (hi : ix i 7 j) (hv : kT j = .int v) (d : decode b pc = .ok (.iaload, 1)) (kk : V X G T σ L (.int v :: st) (pc + 1)) : V X G T σ L (.int i :: .ref G.2.2.2.2.2.2 :: st) pc := fun H locs ls hP hS hl => by
  obtain ⟨h1, rfl⟩ := hi
  exact va_ti B.1 B.2.1 B.2.2.2.2.1.2.1.2.2.2.1 hS h1 hv d (kk H locs ls hP hS hl)
/-! Math, arraycopy -/
def sm (st : List Value) : Nat := (st.map fun v => v.category).sum
theorem r_max (B : Bd l X G b own nL D) {idx : Nat} {x y : Int32} (w : Cond.methodLink own idx Lib.Math.max.name ∈ lwg) (hw : Cond.static Lib.Math.max.name ∈ lwg ∧ Cond.initialized "java/lang/Math" ∈ lwg ∧ Cond.code Lib.Math.max.name Lib.Math.max.code 2 (some .int) ∈ lwg) (hD : 1 ≤ D) (hs : sm st ≤ 8) (d : decode b pc = .ok (.invokestatic idx, 3)) (kk : V X G T σ L (.int (if x < y then y else x) :: st) (pc + 3)) : V X G T σ L (.int y :: .int x :: st) pc := fun H locs ls hP hS hl => by
  have h1 := B.2.2.2.2.2.2.1
  have h2 : sm st + 13 ≤ (xR X).locals := by omega
  have h3 : 1 ≤ (xR X).frames := by omega
  exact va_mmax B.1 B.2.1 hl.1.symm B.2.2.1 (B.2.2.2.1 _ w) (B.2.2.2.1 _ hw.1) (B.2.2.2.1 _ hw.2.1) (B.2.2.2.1 _ hw.2.2) h3 h2 B.2.2.2.2.2.2.2.1 B.2.2.2.2.2.2.2.2.1 d (kk H locs ls hP hS hl)
theorem r_min (B : Bd l X G b own nL D) {idx : Nat} {x y : Int32} (w : Cond.methodLink own idx Lib.Math.min.name ∈ lwg) (hw : Cond.static Lib.Math.min.name ∈ lwg ∧ Cond.initialized "java/lang/Math" ∈ lwg ∧ Cond.code Lib.Math.min.name Lib.Math.min.code 2 (some .int) ∈ lwg) (hD : 1 ≤ D) (hs : sm st ≤ 8) (d : decode b pc = .ok (.invokestatic idx, 3)) (kk : V X G T σ L (.int (if y < x then y else x) :: st) (pc + 3)) : V X G T σ L (.int y :: .int x :: st) pc := fun H locs ls hP hS hl => by
  have h1 := B.2.2.2.2.2.2.1
  have h2 : sm st + 13 ≤ (xR X).locals := by omega
  have h3 : 1 ≤ (xR X).frames := by omega
  exact va_mmin B.1 B.2.1 hl.1.symm B.2.2.1 (B.2.2.2.1 _ w) (B.2.2.2.1 _ hw.1) (B.2.2.2.1 _ hw.2.1) (B.2.2.2.1 _ hw.2.2) h3 h2 B.2.2.2.2.2.2.2.1 B.2.2.2.2.2.2.2.2.1 d (kk H locs ls hP hS hl)
/-- n numbers of cell a from sp on come to cell c from dp on -/
def cp2 (σ : Sg) (a sp c dp n : Nat) : Sg := va_up σ c (va_cpy (σ a) (σ c) sp dp n)
theorem r_copy (B : Bd l X G b own nL D) {idx a c na nc sj dj nj : Nat} {sp dp n : Int32} (w : Cond.methodLink own idx arraycopyName ∈ lwg) (hw : Cond.native arraycopyName ∈ lwg ∧ Cond.static arraycopyName ∈ lwg ∧ Cond.initialized "java/lang/System" ∈ lwg) (hD : 1 ≤ D) (hs : sm st ≤ 8) (hTa : T[a]? = some (.inr (.inl na))) (hTc : T[c]? = some (.inr (.inl nc))) (h1 : ¬ sp < 0 ∧ sp.toNatClampNeg = sj) (h2 : ¬ dp < 0 ∧ dp.toNatClampNeg = dj) (h3 : ¬ n < 0 ∧ n.toNatClampNeg = nj) (h4 : sj + nj ≤ na) (h5 : dj + nj ≤ nc) (d : decode b pc = .ok (.invokestatic idx, 3)) (kk : V X G T (cp2 σ a sj c dj nj) L st (pc + 3)) : V X G T σ L (.int n :: .int dp :: .ref (ad G c) :: .int sp :: .ref (ad G a) :: st) pc := fun H locs ls hP hS hl => by
  have hB := B.2.2.2.2.2.2.1
  have hnw : nativeFrameWords "java/lang/System" "arraycopy" 5 ≤ 18 := by decide +kernel
  have h6 : 1 ≤ (xR X).frames := by omega
  have h7 : sm st + (nativeFrameWords "java/lang/System" "arraycopy" 5 + 11) ≤ (xR X).locals := by omega
  obtain ⟨h1, rfl⟩ := h1
  obtain ⟨h2, rfl⟩ := h2
  obtain ⟨h3, rfl⟩ := h3
  refine va_copyi (D := G.1) (cl := vwCl) (f := σ a) (g := σ c) B.1 B.2.1 hl.1.symm B.2.2.1 (B.2.2.2.1 _ w) (B.2.2.2.1 _ hw.1) (B.2.2.2.1 _ hw.2.1) (B.2.2.2.1 _ hw.2.2) B.2.2.2.2.1.1 hP wl_D ⟨hS.1, hS.2.1, hS.2.2⟩ a c 0 0 (wl_at hTa) (wl_at hTc) rfl rfl rfl h1 h2 h3 h4 h5 (fun _ _ => rfl) h6 h7 d (fun H1 locs1 hP1 hD1 hS1 => ?_)
  have e := wl_set (G := G) (σ := σ) hTc (va_cpy (σ a) (σ c) sp.toNatClampNeg dp.toNatClampNeg n.toNatClampNeg)
  rw [show ce G (va_cpy (σ a) (σ c) sp.toNatClampNeg dp.toNatClampNeg n.toNatClampNeg) (.inr (.inl nc)) = .inl (G.2.1 0, nc, .inl (va_cpy (σ a) (σ c) sp.toNatClampNeg dp.toNatClampNeg n.toNatClampNeg)) from rfl] at e
  rw [e] at hP1
  exact kk H1 locs1 ls hP1 hS1 hl
end RF
end
section
/-! contracts over the picture -/
def rmD (d : Nat) : Room := { frames := d, cells := 0, slots := 0, locals := 37 * d }
def QR (G : GG) (T : List Sh) (Q : Option Value → Sg → Prop) : Array Value → State → Outcome → State → Prop := fun _ s0 o t => ∃ (r : Option Value) (τ : Sg), o = .returned r ∧ Q r τ ∧ Pic G T τ t.heap ∧ va_F (AA G) s0 t
def Ct (l : Launch) (G : GG) (M : MR) (d : Nat) (T : List Sh) (as : List Value) (σ : Sg) (Q : Option Value → Sg → Prop) : Prop := Met l M.1 (wM M) (rmD d) (va_Pc as (PRE G T σ)) (QR G T Q) 0 0 (AA G)
/-- it answers x, and the numbers are τ then -/
abbrev CtI (l : Launch) (G : GG) (M : MR) (d : Nat) (T : List Sh) (as : List Value) (σ : Sg) (x : Int32) (τ : Sg) : Prop := Ct l G M d T as σ (fun r ρ => r = some (.int x) ∧ ρ = τ)
abbrev CtL (l : Launch) (G : GG) (M : MR) (d : Nat) (T : List Sh) (as : List Value) (σ : Sg) (x : Int64) (τ : Sg) : Prop := Ct l G M d T as σ (fun r ρ => r = some (.long x) ∧ ρ = τ)
abbrev CtA (l : Launch) (G : GG) (M : MR) (d : Nat) (T : List Sh) (as : List Value) (σ : Sg) (x : Nat) (τ : Sg) : Prop := Ct l G M d T as σ (fun r ρ => r = some (.ref x) ∧ ρ = τ)
abbrev CtV (l : Launch) (G : GG) (M : MR) (d : Nat) (T : List Sh) (as : List Value) (σ : Sg) (τ : Sg) : Prop := Ct l G M d T as σ (fun r ρ => r = none ∧ ρ = τ)
theorem Ct.mono {l : Launch} {G : GG} {M : MR} {d : Nat} {T : List Sh} {as : List Value} {σ : Sg} {Q Q2 : Option Value → Sg → Prop} (h : Ct l G M d T as σ Q) (hQ : ∀ r τ, Q r τ → Q2 r τ) : Ct l G M d T as σ Q2 := by
  intro p e ha hc hk s m args below hf h1 h2 h3
  obtain ⟨k, o, g1, g2, g3, g4, g5⟩ := h p e ha hc hk s m args below hf h1 h2 h3
  refine ⟨k, o, g1, g2, g3, ?_, g5⟩
  obtain ⟨r, τ, q1, q2, q3⟩ := g4
  exact ⟨r, τ, q1, hQ r τ q2, q3⟩
/-- the body's end -/
def RQ (X : CX) (G : GG) (ret : Option FieldType) (T : List Sh) (Q : Option Value → Sg → Prop) : Prop := (xM X).sig.returnType = ret ∧ (xM X).locks = false ∧ xQ X = MQ (xb X) (QR G T Q) (xa X) (xs X) (xk X) (xn X) (AA G)
def sv : Slot → Option Value
  | .val v => some v
  | _ => none
def lvE (n : Nat) (vs : List Value) : List (Option Value) := (lg_sl vs ++ List.replicate (n - (lg_sl vs).length) Slot.unset).map sv
theorem lvE_lo {n : Nat} {vs : List Value} (h : (lg_sl vs).length ≤ n) : lo ((lg_sl vs ++ List.replicate (n - (lg_sl vs).length) Slot.unset).toArray) n (lvE n vs) := by
  obtain ⟨h1, h2, -⟩ := lv_entry vs h
  refine ⟨h1, h2, fun i v hv => ?_⟩
  simp only [lvE, List.getElem?_map] at hv
  rw [List.getElem?_toArray]
  cases hs : (lg_sl vs ++ List.replicate (n - (lg_sl vs).length) Slot.unset)[i]? with
  | none => rw [hs] at hv; cases hv
  | some x =>
    rw [hs] at hv
    cases x with
    | val w => simp [sv] at hv; rw [hv]
    | _ => simp [sv] at hv
theorem ct_intro {l : Launch} {G : GG} {y : MethodName} {b : ByteArray} {nL d : Nat} {ret : Option FieldType} {T : List Sh} {as : List Value} {σ : Sg} {Q : Option Value → Sg → Prop} (hy : plainName y.cls = true) (hl : (lg_sl as).length ≤ nL)
    (body : ∀ X : CX, Bd l X G b y.cls nL d → RQ X G ret T Q → V X G T σ (lvE nL as) [] 0) : Ct l G (y, b, nL, ret) d T as σ Q := by
  refine Met.ofW (cc := b) (maxL := nL) (ret := ret) hy rfl ?_
  intro p e s m args below meth c s₁ B hml hv
  obtain ⟨rfl, hP, hK⟩ := hv
  have hts := atoms_spec (ws := wM (y, b, nL, ret)) B.pre
  have hown : s.vm.findClass y.cls = some m.cls := findClass_of_methodNamed B.named
  have k := body (p, l, e, rmD d, s, m, as.toArray, below, meth, c, 0, 0, MQ below (QR G T Q) as.toArray s 0 0 (AA G)) ⟨B.exec, B.bytes, hown, fun w hw => hts w (List.mem_cons_of_mem _ hw), hK, rfl, ⟨Nat.le_refl _, Nat.le_refl _⟩, Nat.zero_le _, Nat.zero_le _, hml⟩ ⟨B.returns, B.notSynchronized, rfl⟩
  rw [lg_entry_eq]
  exact k s.heap [] _ hP va_S.rf (by show lo _ c.maxLocals _; rw [hml]; exact lvE_lo hl)
section RR
variable {l : Launch} {X : CX} {G : GG} {T : List Sh} {σ : Sg} {L : List (Option Value)} {st : List Value} {pc : Nat} {b : ByteArray} {own : String} {nL D : Nat} {Q : Option Value → Sg → Prop} {ret : Option FieldType}
theorem qr_of {r : Option Value} {H : Heap} {locs : List Loc} (hP : Pic G T σ H) (hS : va_S (AA G) (xs X).heap H locs) (h : Q r σ) : ∀ t : State, t.heap = H → (xs X).WarmedH t.vm → QR G T Q (xa X) (xs X) (.returned r) t := fun t ht _ => ⟨r, σ, rfl, h, by rw [ht]; exact hP, hS.F ht⟩
theorem r_iret (B : Bd l X G b own nL D) (R : RQ X G (some .int) T Q) {v : Int32} (d : decode b pc = .ok (.ireturn, 1)) (h : Q (some (.int v)) σ) : V X G T σ L [.int v] pc := fun H locs ls hP hS hl => by
  rw [R.2.2]
  exact W.iret (v := v) B.1 B.2.1 R.1 (qr_of hP hS h) hS.2.2 d R.2.1
theorem r_zret (B : Bd l X G b own nL D) (R : RQ X G (some .boolean) T Q) {v : Int32} (hv : v = 0 ∨ v = 1) (d : decode b pc = .ok (.ireturn, 1)) (h : Q (some (.int v)) σ) : V X G T σ L [.int v] pc := fun H locs ls hP hS hl => by
  rw [R.2.2]
  exact W.zret (v := v) (ty := .boolean) B.1 B.2.1 R.1 (by rcases hv with rfl | rfl <;> rfl) (qr_of hP hS h) hS.2.2 d R.2.1
theorem r_tret (B : Bd l X G b own nL D) {ty : FieldType} (R : RQ X G (some ty) T Q) {v : Int32} (hv : narrow ty (.int v) = .int v) (d : decode b pc = .ok (.ireturn, 1)) (h : Q (some (.int v)) σ) : V X G T σ L [.int v] pc := fun H locs ls hP hS hl => by
  rw [R.2.2]
  exact W.zret (v := v) (ty := ty) B.1 B.2.1 R.1 hv (qr_of hP hS h) hS.2.2 d R.2.1
theorem r_lret (B : Bd l X G b own nL D) (R : RQ X G (some .long) T Q) {v : Int64} (d : decode b pc = .ok (.lreturn, 1)) (h : Q (some (.long v)) σ) : V X G T σ L [.long v] pc := fun H locs ls hP hS hl => by
  rw [R.2.2]
  exact W.lret (v := v) B.1 B.2.1 R.1 (qr_of hP hS h) hS.2.2 d R.2.1
theorem r_vret (B : Bd l X G b own nL D) (R : RQ X G none T Q) (d : decode b pc = .ok (.return_, 1)) (h : Q none σ) : V X G T σ L [] pc := fun H locs ls hP hS hl => by
  rw [R.2.2]
  exact W.vret B.1 B.2.1 R.1 (qr_of hP hS h) hS.2.2 d R.2.1
theorem r_aret (B : Bd l X G b own nL D) {C : String} (R : RQ X G (some (.object C)) T Q) {v : Nat} (d : decode b pc = .ok (.areturn, 1)) (h : Q (some (.ref v)) σ) : V X G T σ L [.ref v] pc := fun H locs ls hP hS hl => by
  rw [R.2.2]
  exact W.aret (v := .ref v) B.1 B.2.1 R.1 (Or.inl ⟨_, rfl⟩) (Or.inr ⟨_, rfl⟩) (qr_of hP hS h) hS.2.2 d R.2.1
/-! calls -/
/-- behind a call -/
theorem v_run {rest : List Value} {st0 : List Value} {a : Array Value} (hr : ∀ (H : Heap) (locs : List Loc) (ls : Array Slot), Pic G T σ H → va_S (AA G) (xs X).heap H locs → lo ls (xc X).maxLocals L → va_Run (xp X) (xl X) (xe X) (xR X) (xs X) (xm X) (xa X) (xb X) (xM X) (xc X) H locs (xk X) (xn X) 0 0 (F0 (xm X) pc ls st0) rest (QR G T Q a) (AA G))
    (kk : ∀ (r : Option Value) (τ : Sg), Q r τ → V X G T τ L (r.toList ++ rest) (pc + 3)) : V X G T σ L st0 pc := fun H locs ls hP hS hl => by
  intro U hU S
  obtain ⟨v, st₀, t, U', L', h0, S', hL, e1, e2, ⟨r, τ, hv, hq, hp, hz, hk⟩, go⟩ := hr H locs ls hP hS hl U hU S
  cases hv
  rw [h0] at hz hk
  obtain ⟨t2, a1, b1⟩ := kk v τ hq U'.heap (locs ++ L') ls (by rw [e1]; exact hp) ⟨Nat.le_trans hS.1 (by rw [e1]; exact hz), fun q h1 h2 => by rw [e1, hk q (Nat.lt_of_lt_of_le h1 hS.1) h2]; exact hS.2.1 q h1 h2, fun q hq => by
      rcases List.mem_append.mp hq with h | h
      · exact hS.2.2 q h
      · exact hL q h⟩ hl U' rfl S'
  exact ⟨t2, go t2 a1, b1⟩
/-- a method of an object, plain -/
def KV (own : String) (idx : Nat) (M : MR) (n : Nat) : Prop := (Cond.methodLink own idx M.1 ∈ lwg ∧ Cond.instanceMethod M.1 ∈ lwg ∧ Cond.selects M.1.cls M.1 M.1 ∈ lwg ∧ Cond.initialized M.1.cls ∈ lwg ∧ Cond.code M.1 M.2.1 M.2.2.1 M.2.2.2 ∈ lwg) ∧ (M.1.cls ≠ "java/lang/invoke/MethodHandle" ∧ M.1.cls ≠ "java/lang/invoke/VarHandle" ∧ (parseMethodDescriptor M.1.desc).map (fun d => d.parameters.length) = some n) ∧ M.2.2.1 ≤ 18
def KS (own : String) (idx : Nat) (M : MR) (n : Nat) : Prop := (Cond.methodLink own idx M.1 ∈ lwg ∧ Cond.static M.1 ∈ lwg ∧ Cond.initialized M.1.cls ∈ lwg ∧ Cond.code M.1 M.2.1 M.2.2.1 M.2.2.2 ∈ lwg) ∧ (M.1.cls ≠ "java/lang/invoke/MethodHandle" ∧ M.1.cls ≠ "java/lang/invoke/VarHandle" ∧ (parseMethodDescriptor M.1.desc).map (fun d => d.parameters.length) = some n) ∧ M.2.2.1 ≤ 18
/-- a static one of a nest mate -/
def KN (own : String) (idx : Nat) (M : MR) (n : Nat) : Prop := (Cond.methodLinkNest own idx M.1 "InsideOut" ∈ nW ∧ Cond.static M.1 ∈ lwg ∧ Cond.initialized M.1.cls ∈ lwg ∧ Cond.code M.1 M.2.1 M.2.2.1 M.2.2.2 ∈ lwg) ∧ (M.1.cls ≠ "java/lang/invoke/MethodHandle" ∧ M.1.cls ≠ "java/lang/invoke/VarHandle" ∧ (parseMethodDescriptor M.1.desc).map (fun d => d.parameters.length) = some n) ∧ M.2.2.1 ≤ 18
theorem goodIn_cons {big ws : List Cond} {c : Cond} (h : c ∈ big) (hg : goodWord c = true) (hr : GoodIn big ws) : GoodIn big (c :: ws) := fun w hw => by
  rcases List.mem_cons.mp hw with e | e
  · rw [e]; exact ⟨h, good_of_word hg⟩
  · exact hr w e
theorem gw {w : Cond} (h : w ∈ lwg) : goodWord w = true := (List.mem_filter.mp h).2
variable {M : MR} {d idx n : Nat}
theorem fitR (B : Bd l X G b own nL D) (hm : M.2.2.1 ≤ 18) (hD : d + 1 ≤ D) : (rmD d).frames + 1 ≤ (xR X).frames ∧ 8 + (M.2.2.1 + 11) + (rmD d).locals ≤ (xR X).locals := by
  have h1 := B.2.2.2.2.2.2.1
  show d + 1 ≤ _ ∧ 8 + (M.2.2.1 + 11) + 37 * d ≤ _
  omega
theorem blind (as : List Value) : FrameBlind (va_Pc as (PRE G T σ)) := fun _ _ _ _ q => ⟨q.1, q.2.calling⟩
theorem r_cV (B : Bd l X G b own nL D) {kb ci : Nat} {C : String} {Tt : u_T} {N : Nat} {fs : List (Option (Option Nat))} {As rest : List Value} (K : KV own idx M n) (c : Ct l G M d T (.ref (ad G kb) :: As) σ Q) (hD : d + 1 ≤ D) (hn : As.length = n) (hT : T[kb]? = some (.inl (ci, fs))) (hC : vwCl[ci]? = some (M.1.cls, Tt, N)) (hs : sm rest ≤ 8) (dg : decode b pc = .ok (.invokevirtual idx, 3))
    (kk : ∀ (r : Option Value) (τ : Sg), Q r τ → V X G T τ L (r.toList ++ rest) (pc + 3)) : V X G T σ L (As.reverse ++ .ref (ad G kb) :: rest) pc := by
  refine v_run (a := (Value.ref (ad G kb) :: As).toArray) (fun H locs ls hP hS hl => ?_) kk
  obtain ⟨⟨k1, k2, k3, k4, k5⟩, k6, k7⟩ := K
  have hG : GoodIn lwg (wsV own idx M.1.cls M.1 (wM M)) := goodIn_cons k1 (gw k1) (goodIn_cons k2 (gw k2) (goodIn_cons k3 (gw k3) (goodIn_cons k4 (gw k4) (wM_good k5))))
  have hl6 := B.2.2.2.2.2.1
  subst hl6
  exact va_runV (C := M.1.cls) (bytes := M.2.1) (maxL := M.2.2.1) (ret := M.2.2.2) (As := As) (rest := rest) ⟨B.1, B.2.1, rfl, B.2.2.1, B.2.2.2.1⟩ c (cwV n B.2.2.2.1 hG rfl rfl rfl ⟨rfl, k6⟩ (fitR B k7 hD)) ⟨blind _, va_recv B.2.2.2.2.1.1 hP hC (wl_at hT), fun U hU hW => ⟨rfl, PRE.at B.2.2.2.2.1 hP hS hU hW⟩⟩ rfl hn hl.1 rfl (lv_room hs) dg ⟨by rw [Nat.add_zero]; exact B.2.2.2.2.2.2.2.1, by rw [Nat.add_zero]; exact B.2.2.2.2.2.2.2.2.1⟩
theorem r_cS (B : Bd l X G b own nL D) {As rest : List Value} (K : KS own idx M n) (c : Ct l G M d T As σ Q) (hD : d + 1 ≤ D) (hn : As.length = n) (hs : sm rest ≤ 8) (dg : decode b pc = .ok (.invokestatic idx, 3))
    (kk : ∀ (r : Option Value) (τ : Sg), Q r τ → V X G T τ L (r.toList ++ rest) (pc + 3)) : V X G T σ L (As.reverse ++ rest) pc := by
  refine v_run (a := As.toArray) (fun H locs ls hP hS hl => ?_) kk
  obtain ⟨⟨k1, k2, k3, k4⟩, k6, k7⟩ := K
  have hG : GoodIn lwg (va_wsS own idx M.1 (wM M)) := goodIn_cons k1 (gw k1) (goodIn_cons k2 (gw k2) (goodIn_cons k3 (gw k3) (wM_good k4)))
  have hl6 := B.2.2.2.2.2.1
  subst hl6
  exact va_runS (bytes := M.2.1) (maxL := M.2.2.1) (ret := M.2.2.2) (As := As) (rest := rest) ⟨B.1, B.2.1, rfl, B.2.2.1, B.2.2.2.1⟩ c (va_cwS n B.2.2.2.1 hG rfl rfl rfl k6 (fitR B k7 hD)) ⟨blind _, fun U hU hW => ⟨rfl, PRE.at B.2.2.2.2.1 hP hS hU hW⟩⟩ rfl hn hl.1 rfl (lv_room hs) dg ⟨by rw [Nat.add_zero]; exact B.2.2.2.2.2.2.2.1, by rw [Nat.add_zero]; exact B.2.2.2.2.2.2.2.2.1⟩
theorem r_cN (B : Bd l X G b own nL D) {As rest : List Value} (K : KN own idx M n) (c : Ct l G M d T As σ Q) (hD : d + 1 ≤ D) (hn : As.length = n) (hs : sm rest ≤ 8) (dg : decode b pc = .ok (.invokestatic idx, 3))
    (kk : ∀ (r : Option Value) (τ : Sg), Q r τ → V X G T τ L (r.toList ++ rest) (pc + 3)) : V X G T σ L (As.reverse ++ rest) pc := by
  refine v_run (a := As.toArray) (fun H locs ls hP hS hl => ?_) kk
  obtain ⟨⟨k1, k2, k3, k4⟩, k6, k7⟩ := K
  have hl6 := B.2.2.2.2.2.1
  subst hl6
  exact va_runSN (bytes := M.2.1) (maxL := M.2.2.1) (ret := M.2.2.2) (host := "InsideOut") (As := As) (rest := rest) ⟨B.1, B.2.1, rfl, B.2.2.1, B.2.2.2.1⟩ c ⟨va_cnB n B.2.2.2.1 (wM_good k4) rfl rfl rfl (B.2.2.2.2.1.2.2.1 _ k1) (B.2.2.2.1 _ k3) k6 (fitR B k7 hD), B.2.2.2.1 _ k2, trivial⟩ ⟨blind _, fun U hU hW => ⟨rfl, PRE.at B.2.2.2.2.1 hP hS hU hW⟩⟩ rfl hn hl.1 rfl (lv_room hs) dg ⟨by rw [Nat.add_zero]; exact B.2.2.2.2.2.2.2.1, by rw [Nat.add_zero]; exact B.2.2.2.2.2.2.2.2.1⟩
theorem r_cVi0 (B : Bd l X G b own nL D) {kb ci : Nat} {Tt : u_T} {N : Nat} {fs : List (Option (Option Nat))} {rest : List Value} {x : Int32} {τ : Sg} (K : KV own idx M 0) (c : CtI l G M d T [.ref (ad G kb)] σ x τ) (hT : T[kb]? = some (.inl (ci, fs))) (hC : vwCl[ci]? = some (M.1.cls, Tt, N)) (hD : d + 1 ≤ D) (hs : sm rest ≤ 8) (dg : decode b pc = .ok (.invokevirtual idx, 3)) (kk : V X G T τ L (.int x :: rest) (pc + 3)) : V X G T σ L (.ref (ad G kb) :: rest) pc := r_cV B (C := M.1.cls) (As := []) K c hD rfl hT hC hs dg (fun r ρ h => by obtain ⟨rfl, rfl⟩ := h; exact kk)
theorem r_cSi0 (B : Bd l X G b own nL D) {rest : List Value} {x : Int32} {τ : Sg} (K : KS own idx M 0) (c : CtI l G M d T [] σ x τ) (hD : d + 1 ≤ D) (hs : sm rest ≤ 8) (dg : decode b pc = .ok (.invokestatic idx, 3)) (kk : V X G T τ L (.int x :: rest) (pc + 3)) : V X G T σ L rest pc := r_cS B (As := []) K c hD rfl hs dg (fun r ρ h => by obtain ⟨rfl, rfl⟩ := h; exact kk)
theorem r_cNi0 (B : Bd l X G b own nL D) {rest : List Value} {x : Int32} {τ : Sg} (K : KN own idx M 0) (c : CtI l G M d T [] σ x τ) (hD : d + 1 ≤ D) (hs : sm rest ≤ 8) (dg : decode b pc = .ok (.invokestatic idx, 3)) (kk : V X G T τ L (.int x :: rest) (pc + 3)) : V X G T σ L rest pc := r_cN B (As := []) K c hD rfl hs dg (fun r ρ h => by obtain ⟨rfl, rfl⟩ := h; exact kk)
theorem r_cVl0 (B : Bd l X G b own nL D) {kb ci : Nat} {Tt : u_T} {N : Nat} {fs : List (Option (Option Nat))} {rest : List Value} {x : Int64} {τ : Sg} (K : KV own idx M 0) (c : CtL l G M d T [.ref (ad G kb)] σ x τ) (hT : T[kb]? = some (.inl (ci, fs))) (hC : vwCl[ci]? = some (M.1.cls, Tt, N)) (hD : d + 1 ≤ D) (hs : sm rest ≤ 8) (dg : decode b pc = .ok (.invokevirtual idx, 3)) (kk : V X G T τ L (.long x :: rest) (pc + 3)) : V X G T σ L (.ref (ad G kb) :: rest) pc := r_cV B (C := M.1.cls) (As := []) K c hD rfl hT hC hs dg (fun r ρ h => by obtain ⟨rfl, rfl⟩ := h; exact kk)
theorem r_cSl0 (B : Bd l X G b own nL D) {rest : List Value} {x : Int64} {τ : Sg} (K : KS own idx M 0) (c : CtL l G M d T [] σ x τ) (hD : d + 1 ≤ D) (hs : sm rest ≤ 8) (dg : decode b pc = .ok (.invokestatic idx, 3)) (kk : V X G T τ L (.long x :: rest) (pc + 3)) : V X G T σ L rest pc := r_cS B (As := []) K c hD rfl hs dg (fun r ρ h => by obtain ⟨rfl, rfl⟩ := h; exact kk)
theorem r_cNl0 (B : Bd l X G b own nL D) {rest : List Value} {x : Int64} {τ : Sg} (K : KN own idx M 0) (c : CtL l G M d T [] σ x τ) (hD : d + 1 ≤ D) (hs : sm rest ≤ 8) (dg : decode b pc = .ok (.invokestatic idx, 3)) (kk : V X G T τ L (.long x :: rest) (pc + 3)) : V X G T σ L rest pc := r_cN B (As := []) K c hD rfl hs dg (fun r ρ h => by obtain ⟨rfl, rfl⟩ := h; exact kk)
theorem r_cVa0 (B : Bd l X G b own nL D) {kb ci : Nat} {Tt : u_T} {N : Nat} {fs : List (Option (Option Nat))} {rest : List Value} {x : Nat} {τ : Sg} (K : KV own idx M 0) (c : CtA l G M d T [.ref (ad G kb)] σ x τ) (hT : T[kb]? = some (.inl (ci, fs))) (hC : vwCl[ci]? = some (M.1.cls, Tt, N)) (hD : d + 1 ≤ D) (hs : sm rest ≤ 8) (dg : decode b pc = .ok (.invokevirtual idx, 3)) (kk : V X G T τ L (.ref x :: rest) (pc + 3)) : V X G T σ L (.ref (ad G kb) :: rest) pc := r_cV B (C := M.1.cls) (As := []) K c hD rfl hT hC hs dg (fun r ρ h => by obtain ⟨rfl, rfl⟩ := h; exact kk)
theorem r_cSa0 (B : Bd l X G b own nL D) {rest : List Value} {x : Nat} {τ : Sg} (K : KS own idx M 0) (c : CtA l G M d T [] σ x τ) (hD : d + 1 ≤ D) (hs : sm rest ≤ 8) (dg : decode b pc = .ok (.invokestatic idx, 3)) (kk : V X G T τ L (.ref x :: rest) (pc + 3)) : V X G T σ L rest pc := r_cS B (As := []) K c hD rfl hs dg (fun r ρ h => by obtain ⟨rfl, rfl⟩ := h; exact kk)
theorem r_cNa0 (B : Bd l X G b own nL D) {rest : List Value} {x : Nat} {τ : Sg} (K : KN own idx M 0) (c : CtA l G M d T [] σ x τ) (hD : d + 1 ≤ D) (hs : sm rest ≤ 8) (dg : decode b pc = .ok (.invokestatic idx, 3)) (kk : V X G T τ L (.ref x :: rest) (pc + 3)) : V X G T σ L rest pc := r_cN B (As := []) K c hD rfl hs dg (fun r ρ h => by obtain ⟨rfl, rfl⟩ := h; exact kk)
theorem r_cVv0 (B : Bd l X G b own nL D) {kb ci : Nat} {Tt : u_T} {N : Nat} {fs : List (Option (Option Nat))} {rest : List Value}  {τ : Sg} (K : KV own idx M 0) (c : CtV l G M d T [.ref (ad G kb)] σ τ) (hT : T[kb]? = some (.inl (ci, fs))) (hC : vwCl[ci]? = some (M.1.cls, Tt, N)) (hD : d + 1 ≤ D) (hs : sm rest ≤ 8) (dg : decode b pc = .ok (.invokevirtual idx, 3)) (kk : V X G T τ L (rest) (pc + 3)) : V X G T σ L (.ref (ad G kb) :: rest) pc := r_cV B (C := M.1.cls) (As := []) K c hD rfl hT hC hs dg (fun r ρ h => by obtain ⟨rfl, rfl⟩ := h; exact kk)
theorem r_cSv0 (B : Bd l X G b own nL D) {rest : List Value}  {τ : Sg} (K : KS own idx M 0) (c : CtV l G M d T [] σ τ) (hD : d + 1 ≤ D) (hs : sm rest ≤ 8) (dg : decode b pc = .ok (.invokestatic idx, 3)) (kk : V X G T τ L (rest) (pc + 3)) : V X G T σ L rest pc := r_cS B (As := []) K c hD rfl hs dg (fun r ρ h => by obtain ⟨rfl, rfl⟩ := h; exact kk)
theorem r_cNv0 (B : Bd l X G b own nL D) {rest : List Value}  {τ : Sg} (K : KN own idx M 0) (c : CtV l G M d T [] σ τ) (hD : d + 1 ≤ D) (hs : sm rest ≤ 8) (dg : decode b pc = .ok (.invokestatic idx, 3)) (kk : V X G T τ L (rest) (pc + 3)) : V X G T σ L rest pc := r_cN B (As := []) K c hD rfl hs dg (fun r ρ h => by obtain ⟨rfl, rfl⟩ := h; exact kk)
theorem r_cVi1 (B : Bd l X G b own nL D) {kb ci : Nat} {Tt : u_T} {N : Nat} {fs : List (Option (Option Nat))} {a1 : Value} {rest : List Value} {x : Int32} {τ : Sg} (K : KV own idx M 1) (c : CtI l G M d T [.ref (ad G kb), a1] σ x τ) (hT : T[kb]? = some (.inl (ci, fs))) (hC : vwCl[ci]? = some (M.1.cls, Tt, N)) (hD : d + 1 ≤ D) (hs : sm rest ≤ 8) (dg : decode b pc = .ok (.invokevirtual idx, 3)) (kk : V X G T τ L (.int x :: rest) (pc + 3)) : V X G T σ L (a1 :: .ref (ad G kb) :: rest) pc := r_cV B (C := M.1.cls) (As := [a1]) K c hD rfl hT hC hs dg (fun r ρ h => by obtain ⟨rfl, rfl⟩ := h; exact kk)
theorem r_cSi1 (B : Bd l X G b own nL D) {a1 : Value} {rest : List Value} {x : Int32} {τ : Sg} (K : KS own idx M 1) (c : CtI l G M d T [a1] σ x τ) (hD : d + 1 ≤ D) (hs : sm rest ≤ 8) (dg : decode b pc = .ok (.invokestatic idx, 3)) (kk : V X G T τ L (.int x :: rest) (pc + 3)) : V X G T σ L (a1 :: rest) pc := r_cS B (As := [a1]) K c hD rfl hs dg (fun r ρ h => by obtain ⟨rfl, rfl⟩ := h; exact kk)
theorem r_cNi1 (B : Bd l X G b own nL D) {a1 : Value} {rest : List Value} {x : Int32} {τ : Sg} (K : KN own idx M 1) (c : CtI l G M d T [a1] σ x τ) (hD : d + 1 ≤ D) (hs : sm rest ≤ 8) (dg : decode b pc = .ok (.invokestatic idx, 3)) (kk : V X G T τ L (.int x :: rest) (pc + 3)) : V X G T σ L (a1 :: rest) pc := r_cN B (As := [a1]) K c hD rfl hs dg (fun r ρ h => by obtain ⟨rfl, rfl⟩ := h; exact kk)
theorem r_cVl1 (B : Bd l X G b own nL D) {kb ci : Nat} {Tt : u_T} {N : Nat} {fs : List (Option (Option Nat))} {a1 : Value} {rest : List Value} {x : Int64} {τ : Sg} (K : KV own idx M 1) (c : CtL l G M d T [.ref (ad G kb), a1] σ x τ) (hT : T[kb]? = some (.inl (ci, fs))) (hC : vwCl[ci]? = some (M.1.cls, Tt, N)) (hD : d + 1 ≤ D) (hs : sm rest ≤ 8) (dg : decode b pc = .ok (.invokevirtual idx, 3)) (kk : V X G T τ L (.long x :: rest) (pc + 3)) : V X G T σ L (a1 :: .ref (ad G kb) :: rest) pc := r_cV B (C := M.1.cls) (As := [a1]) K c hD rfl hT hC hs dg (fun r ρ h => by obtain ⟨rfl, rfl⟩ := h; exact kk)
theorem r_cSl1 (B : Bd l X G b own nL D) {a1 : Value} {rest : List Value} {x : Int64} {τ : Sg} (K : KS own idx M 1) (c : CtL l G M d T [a1] σ x τ) (hD : d + 1 ≤ D) (hs : sm rest ≤ 8) (dg : decode b pc = .ok (.invokestatic idx, 3)) (kk : V X G T τ L (.long x :: rest) (pc + 3)) : V X G T σ L (a1 :: rest) pc := r_cS B (As := [a1]) K c hD rfl hs dg (fun r ρ h => by obtain ⟨rfl, rfl⟩ := h; exact kk)
theorem r_cNl1 (B : Bd l X G b own nL D) {a1 : Value} {rest : List Value} {x : Int64} {τ : Sg} (K : KN own idx M 1) (c : CtL l G M d T [a1] σ x τ) (hD : d + 1 ≤ D) (hs : sm rest ≤ 8) (dg : decode b pc = .ok (.invokestatic idx, 3)) (kk : V X G T τ L (.long x :: rest) (pc + 3)) : V X G T σ L (a1 :: rest) pc := r_cN B (As := [a1]) K c hD rfl hs dg (fun r ρ h => by obtain ⟨rfl, rfl⟩ := h; exact kk)
theorem r_cVa1 (B : Bd l X G b own nL D) {kb ci : Nat} {Tt : u_T} {N : Nat} {fs : List (Option (Option Nat))} {a1 : Value} {rest : List Value} {x : Nat} {τ : Sg} (K : KV own idx M 1) (c : CtA l G M d T [.ref (ad G kb), a1] σ x τ) (hT : T[kb]? = some (.inl (ci, fs))) (hC : vwCl[ci]? = some (M.1.cls, Tt, N)) (hD : d + 1 ≤ D) (hs : sm rest ≤ 8) (dg : decode b pc = .ok (.invokevirtual idx, 3)) (kk : V X G T τ L (.ref x :: rest) (pc + 3)) : V X G T σ L (a1 :: .ref (ad G kb) :: rest) pc := r_cV B (C := M.1.cls) (As := [a1]) K c hD rfl hT hC hs dg (fun r ρ h => by obtain ⟨rfl, rfl⟩ := h; exact kk)
theorem r_cSa1 (B : Bd l X G b own nL D) {a1 : Value} {rest : List Value} {x : Nat} {τ : Sg} (K : KS own idx M 1) (c : CtA l G M d T [a1] σ x τ) (hD : d + 1 ≤ D) (hs : sm rest ≤ 8) (dg : decode b pc = .ok (.invokestatic idx, 3)) (kk : V X G T τ L (.ref x :: rest) (pc + 3)) : V X G T σ L (a1 :: rest) pc := r_cS B (As := [a1]) K c hD rfl hs dg (fun r ρ h => by obtain ⟨rfl, rfl⟩ := h; exact kk)
theorem r_cNa1 (B : Bd l X G b own nL D) {a1 : Value} {rest : List Value} {x : Nat} {τ : Sg} (K : KN own idx M 1) (c : CtA l G M d T [a1] σ x τ) (hD : d + 1 ≤ D) (hs : sm rest ≤ 8) (dg : decode b pc = .ok (.invokestatic idx, 3)) (kk : V X G T τ L (.ref x :: rest) (pc + 3)) : V X G T σ L (a1 :: rest) pc := r_cN B (As := [a1]) K c hD rfl hs dg (fun r ρ h => by obtain ⟨rfl, rfl⟩ := h; exact kk)
theorem r_cVv1 (B : Bd l X G b own nL D) {kb ci : Nat} {Tt : u_T} {N : Nat} {fs : List (Option (Option Nat))} {a1 : Value} {rest : List Value}  {τ : Sg} (K : KV own idx M 1) (c : CtV l G M d T [.ref (ad G kb), a1] σ τ) (hT : T[kb]? = some (.inl (ci, fs))) (hC : vwCl[ci]? = some (M.1.cls, Tt, N)) (hD : d + 1 ≤ D) (hs : sm rest ≤ 8) (dg : decode b pc = .ok (.invokevirtual idx, 3)) (kk : V X G T τ L (rest) (pc + 3)) : V X G T σ L (a1 :: .ref (ad G kb) :: rest) pc := r_cV B (C := M.1.cls) (As := [a1]) K c hD rfl hT hC hs dg (fun r ρ h => by obtain ⟨rfl, rfl⟩ := h; exact kk)
theorem r_cSv1 (B : Bd l X G b own nL D) {a1 : Value} {rest : List Value}  {τ : Sg} (K : KS own idx M 1) (c : CtV l G M d T [a1] σ τ) (hD : d + 1 ≤ D) (hs : sm rest ≤ 8) (dg : decode b pc = .ok (.invokestatic idx, 3)) (kk : V X G T τ L (rest) (pc + 3)) : V X G T σ L (a1 :: rest) pc := r_cS B (As := [a1]) K c hD rfl hs dg (fun r ρ h => by obtain ⟨rfl, rfl⟩ := h; exact kk)
theorem r_cNv1 (B : Bd l X G b own nL D) {a1 : Value} {rest : List Value}  {τ : Sg} (K : KN own idx M 1) (c : CtV l G M d T [a1] σ τ) (hD : d + 1 ≤ D) (hs : sm rest ≤ 8) (dg : decode b pc = .ok (.invokestatic idx, 3)) (kk : V X G T τ L (rest) (pc + 3)) : V X G T σ L (a1 :: rest) pc := r_cN B (As := [a1]) K c hD rfl hs dg (fun r ρ h => by obtain ⟨rfl, rfl⟩ := h; exact kk)
theorem r_cVi2 (B : Bd l X G b own nL D) {kb ci : Nat} {Tt : u_T} {N : Nat} {fs : List (Option (Option Nat))} {a1 a2 : Value} {rest : List Value} {x : Int32} {τ : Sg} (K : KV own idx M 2) (c : CtI l G M d T [.ref (ad G kb), a1, a2] σ x τ) (hT : T[kb]? = some (.inl (ci, fs))) (hC : vwCl[ci]? = some (M.1.cls, Tt, N)) (hD : d + 1 ≤ D) (hs : sm rest ≤ 8) (dg : decode b pc = .ok (.invokevirtual idx, 3)) (kk : V X G T τ L (.int x :: rest) (pc + 3)) : V X G T σ L (a2 :: a1 :: .ref (ad G kb) :: rest) pc := r_cV B (C := M.1.cls) (As := [a1, a2]) K c hD rfl hT hC hs dg (fun r ρ h => by obtain ⟨rfl, rfl⟩ := h; exact kk)
theorem r_cSi2 (B : Bd l X G b own nL D) {a1 a2 : Value} {rest : List Value} {x : Int32} {τ : Sg} (K : KS own idx M 2) (c : CtI l G M d T [a1, a2] σ x τ) (hD : d + 1 ≤ D) (hs : sm rest ≤ 8) (dg : decode b pc = .ok (.invokestatic idx, 3)) (kk : V X G T τ L (.int x :: rest) (pc + 3)) : V X G T σ L (a2 :: a1 :: rest) pc := r_cS B (As := [a1, a2]) K c hD rfl hs dg (fun r ρ h => by obtain ⟨rfl, rfl⟩ := h; exact kk)
theorem r_cNi2 (B : Bd l X G b own nL D) {a1 a2 : Value} {rest : List Value} {x : Int32} {τ : Sg} (K : KN own idx M 2) (c : CtI l G M d T [a1, a2] σ x τ) (hD : d + 1 ≤ D) (hs : sm rest ≤ 8) (dg : decode b pc = .ok (.invokestatic idx, 3)) (kk : V X G T τ L (.int x :: rest) (pc + 3)) : V X G T σ L (a2 :: a1 :: rest) pc := r_cN B (As := [a1, a2]) K c hD rfl hs dg (fun r ρ h => by obtain ⟨rfl, rfl⟩ := h; exact kk)
theorem r_cVl2 (B : Bd l X G b own nL D) {kb ci : Nat} {Tt : u_T} {N : Nat} {fs : List (Option (Option Nat))} {a1 a2 : Value} {rest : List Value} {x : Int64} {τ : Sg} (K : KV own idx M 2) (c : CtL l G M d T [.ref (ad G kb), a1, a2] σ x τ) (hT : T[kb]? = some (.inl (ci, fs))) (hC : vwCl[ci]? = some (M.1.cls, Tt, N)) (hD : d + 1 ≤ D) (hs : sm rest ≤ 8) (dg : decode b pc = .ok (.invokevirtual idx, 3)) (kk : V X G T τ L (.long x :: rest) (pc + 3)) : V X G T σ L (a2 :: a1 :: .ref (ad G kb) :: rest) pc := r_cV B (C := M.1.cls) (As := [a1, a2]) K c hD rfl hT hC hs dg (fun r ρ h => by obtain ⟨rfl, rfl⟩ := h; exact kk)
theorem r_cSl2 (B : Bd l X G b own nL D) {a1 a2 : Value} {rest : List Value} {x : Int64} {τ : Sg} (K : KS own idx M 2) (c : CtL l G M d T [a1, a2] σ x τ) (hD : d + 1 ≤ D) (hs : sm rest ≤ 8) (dg : decode b pc = .ok (.invokestatic idx, 3)) (kk : V X G T τ L (.long x :: rest) (pc + 3)) : V X G T σ L (a2 :: a1 :: rest) pc := r_cS B (As := [a1, a2]) K c hD rfl hs dg (fun r ρ h => by obtain ⟨rfl, rfl⟩ := h; exact kk)
theorem r_cNl2 (B : Bd l X G b own nL D) {a1 a2 : Value} {rest : List Value} {x : Int64} {τ : Sg} (K : KN own idx M 2) (c : CtL l G M d T [a1, a2] σ x τ) (hD : d + 1 ≤ D) (hs : sm rest ≤ 8) (dg : decode b pc = .ok (.invokestatic idx, 3)) (kk : V X G T τ L (.long x :: rest) (pc + 3)) : V X G T σ L (a2 :: a1 :: rest) pc := r_cN B (As := [a1, a2]) K c hD rfl hs dg (fun r ρ h => by obtain ⟨rfl, rfl⟩ := h; exact kk)
theorem r_cVa2 (B : Bd l X G b own nL D) {kb ci : Nat} {Tt : u_T} {N : Nat} {fs : List (Option (Option Nat))} {a1 a2 : Value} {rest : List Value} {x : Nat} {τ : Sg} (K : KV own idx M 2) (c : CtA l G M d T [.ref (ad G kb), a1, a2] σ x τ) (hT : T[kb]? = some (.inl (ci, fs))) (hC : vwCl[ci]? = some (M.1.cls, Tt, N)) (hD : d + 1 ≤ D) (hs : sm rest ≤ 8) (dg : decode b pc = .ok (.invokevirtual idx, 3)) (kk : V X G T τ L (.ref x :: rest) (pc + 3)) : V X G T σ L (a2 :: a1 :: .ref (ad G kb) :: rest) pc := r_cV B (C := M.1.cls) (As := [a1, a2]) K c hD rfl hT hC hs dg (fun r ρ h => by obtain ⟨rfl, rfl⟩ := h; exact kk)
theorem r_cSa2 (B : Bd l X G b own nL D) {a1 a2 : Value} {rest : List Value} {x : Nat} {τ : Sg} (K : KS own idx M 2) (c : CtA l G M d T [a1, a2] σ x τ) (hD : d + 1 ≤ D) (hs : sm rest ≤ 8) (dg : decode b pc = .ok (.invokestatic idx, 3)) (kk : V X G T τ L (.ref x :: rest) (pc + 3)) : V X G T σ L (a2 :: a1 :: rest) pc := r_cS B (As := [a1, a2]) K c hD rfl hs dg (fun r ρ h => by obtain ⟨rfl, rfl⟩ := h; exact kk)
theorem r_cNa2 (B : Bd l X G b own nL D) {a1 a2 : Value} {rest : List Value} {x : Nat} {τ : Sg} (K : KN own idx M 2) (c : CtA l G M d T [a1, a2] σ x τ) (hD : d + 1 ≤ D) (hs : sm rest ≤ 8) (dg : decode b pc = .ok (.invokestatic idx, 3)) (kk : V X G T τ L (.ref x :: rest) (pc + 3)) : V X G T σ L (a2 :: a1 :: rest) pc := r_cN B (As := [a1, a2]) K c hD rfl hs dg (fun r ρ h => by obtain ⟨rfl, rfl⟩ := h; exact kk)
theorem r_cVv2 (B : Bd l X G b own nL D) {kb ci : Nat} {Tt : u_T} {N : Nat} {fs : List (Option (Option Nat))} {a1 a2 : Value} {rest : List Value}  {τ : Sg} (K : KV own idx M 2) (c : CtV l G M d T [.ref (ad G kb), a1, a2] σ τ) (hT : T[kb]? = some (.inl (ci, fs))) (hC : vwCl[ci]? = some (M.1.cls, Tt, N)) (hD : d + 1 ≤ D) (hs : sm rest ≤ 8) (dg : decode b pc = .ok (.invokevirtual idx, 3)) (kk : V X G T τ L (rest) (pc + 3)) : V X G T σ L (a2 :: a1 :: .ref (ad G kb) :: rest) pc := r_cV B (C := M.1.cls) (As := [a1, a2]) K c hD rfl hT hC hs dg (fun r ρ h => by obtain ⟨rfl, rfl⟩ := h; exact kk)
theorem r_cSv2 (B : Bd l X G b own nL D) {a1 a2 : Value} {rest : List Value}  {τ : Sg} (K : KS own idx M 2) (c : CtV l G M d T [a1, a2] σ τ) (hD : d + 1 ≤ D) (hs : sm rest ≤ 8) (dg : decode b pc = .ok (.invokestatic idx, 3)) (kk : V X G T τ L (rest) (pc + 3)) : V X G T σ L (a2 :: a1 :: rest) pc := r_cS B (As := [a1, a2]) K c hD rfl hs dg (fun r ρ h => by obtain ⟨rfl, rfl⟩ := h; exact kk)
theorem r_cNv2 (B : Bd l X G b own nL D) {a1 a2 : Value} {rest : List Value}  {τ : Sg} (K : KN own idx M 2) (c : CtV l G M d T [a1, a2] σ τ) (hD : d + 1 ≤ D) (hs : sm rest ≤ 8) (dg : decode b pc = .ok (.invokestatic idx, 3)) (kk : V X G T τ L (rest) (pc + 3)) : V X G T σ L (a2 :: a1 :: rest) pc := r_cN B (As := [a1, a2]) K c hD rfl hs dg (fun r ρ h => by obtain ⟨rfl, rfl⟩ := h; exact kk)
theorem r_cVi3 (B : Bd l X G b own nL D) {kb ci : Nat} {Tt : u_T} {N : Nat} {fs : List (Option (Option Nat))} {a1 a2 a3 : Value} {rest : List Value} {x : Int32} {τ : Sg} (K : KV own idx M 3) (c : CtI l G M d T [.ref (ad G kb), a1, a2, a3] σ x τ) (hT : T[kb]? = some (.inl (ci, fs))) (hC : vwCl[ci]? = some (M.1.cls, Tt, N)) (hD : d + 1 ≤ D) (hs : sm rest ≤ 8) (dg : decode b pc = .ok (.invokevirtual idx, 3)) (kk : V X G T τ L (.int x :: rest) (pc + 3)) : V X G T σ L (a3 :: a2 :: a1 :: .ref (ad G kb) :: rest) pc := r_cV B (C := M.1.cls) (As := [a1, a2, a3]) K c hD rfl hT hC hs dg (fun r ρ h => by obtain ⟨rfl, rfl⟩ := h; exact kk)
theorem r_cSi3 (B : Bd l X G b own nL D) {a1 a2 a3 : Value} {rest : List Value} {x : Int32} {τ : Sg} (K : KS own idx M 3) (c : CtI l G M d T [a1, a2, a3] σ x τ) (hD : d + 1 ≤ D) (hs : sm rest ≤ 8) (dg : decode b pc = .ok (.invokestatic idx, 3)) (kk : V X G T τ L (.int x :: rest) (pc + 3)) : V X G T σ L (a3 :: a2 :: a1 :: rest) pc := r_cS B (As := [a1, a2, a3]) K c hD rfl hs dg (fun r ρ h => by obtain ⟨rfl, rfl⟩ := h; exact kk)
theorem r_cNi3 (B : Bd l X G b own nL D) {a1 a2 a3 : Value} {rest : List Value} {x : Int32} {τ : Sg} (K : KN own idx M 3) (c : CtI l G M d T [a1, a2, a3] σ x τ) (hD : d + 1 ≤ D) (hs : sm rest ≤ 8) (dg : decode b pc = .ok (.invokestatic idx, 3)) (kk : V X G T τ L (.int x :: rest) (pc + 3)) : V X G T σ L (a3 :: a2 :: a1 :: rest) pc := r_cN B (As := [a1, a2, a3]) K c hD rfl hs dg (fun r ρ h => by obtain ⟨rfl, rfl⟩ := h; exact kk)
theorem r_cVl3 (B : Bd l X G b own nL D) {kb ci : Nat} {Tt : u_T} {N : Nat} {fs : List (Option (Option Nat))} {a1 a2 a3 : Value} {rest : List Value} {x : Int64} {τ : Sg} (K : KV own idx M 3) (c : CtL l G M d T [.ref (ad G kb), a1, a2, a3] σ x τ) (hT : T[kb]? = some (.inl (ci, fs))) (hC : vwCl[ci]? = some (M.1.cls, Tt, N)) (hD : d + 1 ≤ D) (hs : sm rest ≤ 8) (dg : decode b pc = .ok (.invokevirtual idx, 3)) (kk : V X G T τ L (.long x :: rest) (pc + 3)) : V X G T σ L (a3 :: a2 :: a1 :: .ref (ad G kb) :: rest) pc := r_cV B (C := M.1.cls) (As := [a1, a2, a3]) K c hD rfl hT hC hs dg (fun r ρ h => by obtain ⟨rfl, rfl⟩ := h; exact kk)
theorem r_cSl3 (B : Bd l X G b own nL D) {a1 a2 a3 : Value} {rest : List Value} {x : Int64} {τ : Sg} (K : KS own idx M 3) (c : CtL l G M d T [a1, a2, a3] σ x τ) (hD : d + 1 ≤ D) (hs : sm rest ≤ 8) (dg : decode b pc = .ok (.invokestatic idx, 3)) (kk : V X G T τ L (.long x :: rest) (pc + 3)) : V X G T σ L (a3 :: a2 :: a1 :: rest) pc := r_cS B (As := [a1, a2, a3]) K c hD rfl hs dg (fun r ρ h => by obtain ⟨rfl, rfl⟩ := h; exact kk)
theorem r_cNl3 (B : Bd l X G b own nL D) {a1 a2 a3 : Value} {rest : List Value} {x : Int64} {τ : Sg} (K : KN own idx M 3) (c : CtL l G M d T [a1, a2, a3] σ x τ) (hD : d + 1 ≤ D) (hs : sm rest ≤ 8) (dg : decode b pc = .ok (.invokestatic idx, 3)) (kk : V X G T τ L (.long x :: rest) (pc + 3)) : V X G T σ L (a3 :: a2 :: a1 :: rest) pc := r_cN B (As := [a1, a2, a3]) K c hD rfl hs dg (fun r ρ h => by obtain ⟨rfl, rfl⟩ := h; exact kk)
theorem r_cVa3 (B : Bd l X G b own nL D) {kb ci : Nat} {Tt : u_T} {N : Nat} {fs : List (Option (Option Nat))} {a1 a2 a3 : Value} {rest : List Value} {x : Nat} {τ : Sg} (K : KV own idx M 3) (c : CtA l G M d T [.ref (ad G kb), a1, a2, a3] σ x τ) (hT : T[kb]? = some (.inl (ci, fs))) (hC : vwCl[ci]? = some (M.1.cls, Tt, N)) (hD : d + 1 ≤ D) (hs : sm rest ≤ 8) (dg : decode b pc = .ok (.invokevirtual idx, 3)) (kk : V X G T τ L (.ref x :: rest) (pc + 3)) : V X G T σ L (a3 :: a2 :: a1 :: .ref (ad G kb) :: rest) pc := r_cV B (C := M.1.cls) (As := [a1, a2, a3]) K c hD rfl hT hC hs dg (fun r ρ h => by obtain ⟨rfl, rfl⟩ := h; exact kk)
theorem r_cSa3 (B : Bd l X G b own nL D) {a1 a2 a3 : Value} {rest : List Value} {x : Nat} {τ : Sg} (K : KS own idx M 3) (c : CtA l G M d T [a1, a2, a3] σ x τ) (hD : d + 1 ≤ D) (hs : sm rest ≤ 8) (dg : decode b pc = .ok (.invokestatic idx, 3)) (kk : V X G T τ L (.ref x :: rest) (pc + 3)) : V X G T σ L (a3 :: a2 :: a1 :: rest) pc := r_cS B (As := [a1, a2, a3]) K c hD rfl hs dg (fun r ρ h => by obtain ⟨rfl, rfl⟩ := h; exact kk)
theorem r_cNa3 (B : Bd l X G b own nL D) {a1 a2 a3 : Value} {rest : List Value} {x : Nat} {τ : Sg} (K : KN own idx M 3) (c : CtA l G M d T [a1, a2, a3] σ x τ) (hD : d + 1 ≤ D) (hs : sm rest ≤ 8) (dg : decode b pc = .ok (.invokestatic idx, 3)) (kk : V X G T τ L (.ref x :: rest) (pc + 3)) : V X G T σ L (a3 :: a2 :: a1 :: rest) pc := r_cN B (As := [a1, a2, a3]) K c hD rfl hs dg (fun r ρ h => by obtain ⟨rfl, rfl⟩ := h; exact kk)
theorem r_cVv3 (B : Bd l X G b own nL D) {kb ci : Nat} {Tt : u_T} {N : Nat} {fs : List (Option (Option Nat))} {a1 a2 a3 : Value} {rest : List Value}  {τ : Sg} (K : KV own idx M 3) (c : CtV l G M d T [.ref (ad G kb), a1, a2, a3] σ τ) (hT : T[kb]? = some (.inl (ci, fs))) (hC : vwCl[ci]? = some (M.1.cls, Tt, N)) (hD : d + 1 ≤ D) (hs : sm rest ≤ 8) (dg : decode b pc = .ok (.invokevirtual idx, 3)) (kk : V X G T τ L (rest) (pc + 3)) : V X G T σ L (a3 :: a2 :: a1 :: .ref (ad G kb) :: rest) pc := r_cV B (C := M.1.cls) (As := [a1, a2, a3]) K c hD rfl hT hC hs dg (fun r ρ h => by obtain ⟨rfl, rfl⟩ := h; exact kk)
theorem r_cSv3 (B : Bd l X G b own nL D) {a1 a2 a3 : Value} {rest : List Value}  {τ : Sg} (K : KS own idx M 3) (c : CtV l G M d T [a1, a2, a3] σ τ) (hD : d + 1 ≤ D) (hs : sm rest ≤ 8) (dg : decode b pc = .ok (.invokestatic idx, 3)) (kk : V X G T τ L (rest) (pc + 3)) : V X G T σ L (a3 :: a2 :: a1 :: rest) pc := r_cS B (As := [a1, a2, a3]) K c hD rfl hs dg (fun r ρ h => by obtain ⟨rfl, rfl⟩ := h; exact kk)
theorem r_cNv3 (B : Bd l X G b own nL D) {a1 a2 a3 : Value} {rest : List Value}  {τ : Sg} (K : KN own idx M 3) (c : CtV l G M d T [a1, a2, a3] σ τ) (hD : d + 1 ≤ D) (hs : sm rest ≤ 8) (dg : decode b pc = .ok (.invokestatic idx, 3)) (kk : V X G T τ L (rest) (pc + 3)) : V X G T σ L (a3 :: a2 :: a1 :: rest) pc := r_cN B (As := [a1, a2, a3]) K c hD rfl hs dg (fun r ρ h => by obtain ⟨rfl, rfl⟩ := h; exact kk)
theorem r_cVi4 (B : Bd l X G b own nL D) {kb ci : Nat} {Tt : u_T} {N : Nat} {fs : List (Option (Option Nat))} {a1 a2 a3 a4 : Value} {rest : List Value} {x : Int32} {τ : Sg} (K : KV own idx M 4) (c : CtI l G M d T [.ref (ad G kb), a1, a2, a3, a4] σ x τ) (hT : T[kb]? = some (.inl (ci, fs))) (hC : vwCl[ci]? = some (M.1.cls, Tt, N)) (hD : d + 1 ≤ D) (hs : sm rest ≤ 8) (dg : decode b pc = .ok (.invokevirtual idx, 3)) (kk : V X G T τ L (.int x :: rest) (pc + 3)) : V X G T σ L (a4 :: a3 :: a2 :: a1 :: .ref (ad G kb) :: rest) pc := r_cV B (C := M.1.cls) (As := [a1, a2, a3, a4]) K c hD rfl hT hC hs dg (fun r ρ h => by obtain ⟨rfl, rfl⟩ := h; exact kk)
theorem r_cSi4 (B : Bd l X G b own nL D) {a1 a2 a3 a4 : Value} {rest : List Value} {x : Int32} {τ : Sg} (K : KS own idx M 4) (c : CtI l G M d T [a1, a2, a3, a4] σ x τ) (hD : d + 1 ≤ D) (hs : sm rest ≤ 8) (dg : decode b pc = .ok (.invokestatic idx, 3)) (kk : V X G T τ L (.int x :: rest) (pc + 3)) : V X G T σ L (a4 :: a3 :: a2 :: a1 :: rest) pc := r_cS B (As := [a1, a2, a3, a4]) K c hD rfl hs dg (fun r ρ h => by obtain ⟨rfl, rfl⟩ := h; exact kk)
theorem r_cNi4 (B : Bd l X G b own nL D) {a1 a2 a3 a4 : Value} {rest : List Value} {x : Int32} {τ : Sg} (K : KN own idx M 4) (c : CtI l G M d T [a1, a2, a3, a4] σ x τ) (hD : d + 1 ≤ D) (hs : sm rest ≤ 8) (dg : decode b pc = .ok (.invokestatic idx, 3)) (kk : V X G T τ L (.int x :: rest) (pc + 3)) : V X G T σ L (a4 :: a3 :: a2 :: a1 :: rest) pc := r_cN B (As := [a1, a2, a3, a4]) K c hD rfl hs dg (fun r ρ h => by obtain ⟨rfl, rfl⟩ := h; exact kk)
theorem r_cVl4 (B : Bd l X G b own nL D) {kb ci : Nat} {Tt : u_T} {N : Nat} {fs : List (Option (Option Nat))} {a1 a2 a3 a4 : Value} {rest : List Value} {x : Int64} {τ : Sg} (K : KV own idx M 4) (c : CtL l G M d T [.ref (ad G kb), a1, a2, a3, a4] σ x τ) (hT : T[kb]? = some (.inl (ci, fs))) (hC : vwCl[ci]? = some (M.1.cls, Tt, N)) (hD : d + 1 ≤ D) (hs : sm rest ≤ 8) (dg : decode b pc = .ok (.invokevirtual idx, 3)) (kk : V X G T τ L (.long x :: rest) (pc + 3)) : V X G T σ L (a4 :: a3 :: a2 :: a1 :: .ref (ad G kb) :: rest) pc := r_cV B (C := M.1.cls) (As := [a1, a2, a3, a4]) K c hD rfl hT hC hs dg (fun r ρ h => by obtain ⟨rfl, rfl⟩ := h; exact kk)
theorem r_cSl4 (B : Bd l X G b own nL D) {a1 a2 a3 a4 : Value} {rest : List Value} {x : Int64} {τ : Sg} (K : KS own idx M 4) (c : CtL l G M d T [a1, a2, a3, a4] σ x τ) (hD : d + 1 ≤ D) (hs : sm rest ≤ 8) (dg : decode b pc = .ok (.invokestatic idx, 3)) (kk : V X G T τ L (.long x :: rest) (pc + 3)) : V X G T σ L (a4 :: a3 :: a2 :: a1 :: rest) pc := r_cS B (As := [a1, a2, a3, a4]) K c hD rfl hs dg (fun r ρ h => by obtain ⟨rfl, rfl⟩ := h; exact kk)
theorem r_cNl4 (B : Bd l X G b own nL D) {a1 a2 a3 a4 : Value} {rest : List Value} {x : Int64} {τ : Sg} (K : KN own idx M 4) (c : CtL l G M d T [a1, a2, a3, a4] σ x τ) (hD : d + 1 ≤ D) (hs : sm rest ≤ 8) (dg : decode b pc = .ok (.invokestatic idx, 3)) (kk : V X G T τ L (.long x :: rest) (pc + 3)) : V X G T σ L (a4 :: a3 :: a2 :: a1 :: rest) pc := r_cN B (As := [a1, a2, a3, a4]) K c hD rfl hs dg (fun r ρ h => by obtain ⟨rfl, rfl⟩ := h; exact kk)
theorem r_cVa4 (B : Bd l X G b own nL D) {kb ci : Nat} {Tt : u_T} {N : Nat} {fs : List (Option (Option Nat))} {a1 a2 a3 a4 : Value} {rest : List Value} {x : Nat} {τ : Sg} (K : KV own idx M 4) (c : CtA l G M d T [.ref (ad G kb), a1, a2, a3, a4] σ x τ) (hT : T[kb]? = some (.inl (ci, fs))) (hC : vwCl[ci]? = some (M.1.cls, Tt, N)) (hD : d + 1 ≤ D) (hs : sm rest ≤ 8) (dg : decode b pc = .ok (.invokevirtual idx, 3)) (kk : V X G T τ L (.ref x :: rest) (pc + 3)) : V X G T σ L (a4 :: a3 :: a2 :: a1 :: .ref (ad G kb) :: rest) pc := r_cV B (C := M.1.cls) (As := [a1, a2, a3, a4]) K c hD rfl hT hC hs dg (fun r ρ h => by obtain ⟨rfl, rfl⟩ := h; exact kk)
theorem r_cSa4 (B : Bd l X G b own nL D) {a1 a2 a3 a4 : Value} {rest : List Value} {x : Nat} {τ : Sg} (K : KS own idx M 4) (c : CtA l G M d T [a1, a2, a3, a4] σ x τ) (hD : d + 1 ≤ D) (hs : sm rest ≤ 8) (dg : decode b pc = .ok (.invokestatic idx, 3)) (kk : V X G T τ L (.ref x :: rest) (pc + 3)) : V X G T σ L (a4 :: a3 :: a2 :: a1 :: rest) pc := r_cS B (As := [a1, a2, a3, a4]) K c hD rfl hs dg (fun r ρ h => by obtain ⟨rfl, rfl⟩ := h; exact kk)
theorem r_cNa4 (B : Bd l X G b own nL D) {a1 a2 a3 a4 : Value} {rest : List Value} {x : Nat} {τ : Sg} (K : KN own idx M 4) (c : CtA l G M d T [a1, a2, a3, a4] σ x τ) (hD : d + 1 ≤ D) (hs : sm rest ≤ 8) (dg : decode b pc = .ok (.invokestatic idx, 3)) (kk : V X G T τ L (.ref x :: rest) (pc + 3)) : V X G T σ L (a4 :: a3 :: a2 :: a1 :: rest) pc := r_cN B (As := [a1, a2, a3, a4]) K c hD rfl hs dg (fun r ρ h => by obtain ⟨rfl, rfl⟩ := h; exact kk)
theorem r_cVv4 (B : Bd l X G b own nL D) {kb ci : Nat} {Tt : u_T} {N : Nat} {fs : List (Option (Option Nat))} {a1 a2 a3 a4 : Value} {rest : List Value}  {τ : Sg} (K : KV own idx M 4) (c : CtV l G M d T [.ref (ad G kb), a1, a2, a3, a4] σ τ) (hT : T[kb]? = some (.inl (ci, fs))) (hC : vwCl[ci]? = some (M.1.cls, Tt, N)) (hD : d + 1 ≤ D) (hs : sm rest ≤ 8) (dg : decode b pc = .ok (.invokevirtual idx, 3)) (kk : V X G T τ L (rest) (pc + 3)) : V X G T σ L (a4 :: a3 :: a2 :: a1 :: .ref (ad G kb) :: rest) pc := r_cV B (C := M.1.cls) (As := [a1, a2, a3, a4]) K c hD rfl hT hC hs dg (fun r ρ h => by obtain ⟨rfl, rfl⟩ := h; exact kk)
theorem r_cSv4 (B : Bd l X G b own nL D) {a1 a2 a3 a4 : Value} {rest : List Value}  {τ : Sg} (K : KS own idx M 4) (c : CtV l G M d T [a1, a2, a3, a4] σ τ) (hD : d + 1 ≤ D) (hs : sm rest ≤ 8) (dg : decode b pc = .ok (.invokestatic idx, 3)) (kk : V X G T τ L (rest) (pc + 3)) : V X G T σ L (a4 :: a3 :: a2 :: a1 :: rest) pc := r_cS B (As := [a1, a2, a3, a4]) K c hD rfl hs dg (fun r ρ h => by obtain ⟨rfl, rfl⟩ := h; exact kk)
theorem r_cNv4 (B : Bd l X G b own nL D) {a1 a2 a3 a4 : Value} {rest : List Value}  {τ : Sg} (K : KN own idx M 4) (c : CtV l G M d T [a1, a2, a3, a4] σ τ) (hD : d + 1 ≤ D) (hs : sm rest ≤ 8) (dg : decode b pc = .ok (.invokestatic idx, 3)) (kk : V X G T τ L (rest) (pc + 3)) : V X G T σ L (a4 :: a3 :: a2 :: a1 :: rest) pc := r_cN B (As := [a1, a2, a3, a4]) K c hD rfl hs dg (fun r ρ h => by obtain ⟨rfl, rfl⟩ := h; exact kk)
theorem r_cVi5 (B : Bd l X G b own nL D) {kb ci : Nat} {Tt : u_T} {N : Nat} {fs : List (Option (Option Nat))} {a1 a2 a3 a4 a5 : Value} {rest : List Value} {x : Int32} {τ : Sg} (K : KV own idx M 5) (c : CtI l G M d T [.ref (ad G kb), a1, a2, a3, a4, a5] σ x τ) (hT : T[kb]? = some (.inl (ci, fs))) (hC : vwCl[ci]? = some (M.1.cls, Tt, N)) (hD : d + 1 ≤ D) (hs : sm rest ≤ 8) (dg : decode b pc = .ok (.invokevirtual idx, 3)) (kk : V X G T τ L (.int x :: rest) (pc + 3)) : V X G T σ L (a5 :: a4 :: a3 :: a2 :: a1 :: .ref (ad G kb) :: rest) pc := r_cV B (C := M.1.cls) (As := [a1, a2, a3, a4, a5]) K c hD rfl hT hC hs dg (fun r ρ h => by obtain ⟨rfl, rfl⟩ := h; exact kk)
theorem r_cSi5 (B : Bd l X G b own nL D) {a1 a2 a3 a4 a5 : Value} {rest : List Value} {x : Int32} {τ : Sg} (K : KS own idx M 5) (c : CtI l G M d T [a1, a2, a3, a4, a5] σ x τ) (hD : d + 1 ≤ D) (hs : sm rest ≤ 8) (dg : decode b pc = .ok (.invokestatic idx, 3)) (kk : V X G T τ L (.int x :: rest) (pc + 3)) : V X G T σ L (a5 :: a4 :: a3 :: a2 :: a1 :: rest) pc := r_cS B (As := [a1, a2, a3, a4, a5]) K c hD rfl hs dg (fun r ρ h => by obtain ⟨rfl, rfl⟩ := h; exact kk)
theorem r_cNi5 (B : Bd l X G b own nL D) {a1 a2 a3 a4 a5 : Value} {rest : List Value} {x : Int32} {τ : Sg} (K : KN own idx M 5) (c : CtI l G M d T [a1, a2, a3, a4, a5] σ x τ) (hD : d + 1 ≤ D) (hs : sm rest ≤ 8) (dg : decode b pc = .ok (.invokestatic idx, 3)) (kk : V X G T τ L (.int x :: rest) (pc + 3)) : V X G T σ L (a5 :: a4 :: a3 :: a2 :: a1 :: rest) pc := r_cN B (As := [a1, a2, a3, a4, a5]) K c hD rfl hs dg (fun r ρ h => by obtain ⟨rfl, rfl⟩ := h; exact kk)
theorem r_cVl5 (B : Bd l X G b own nL D) {kb ci : Nat} {Tt : u_T} {N : Nat} {fs : List (Option (Option Nat))} {a1 a2 a3 a4 a5 : Value} {rest : List Value} {x : Int64} {τ : Sg} (K : KV own idx M 5) (c : CtL l G M d T [.ref (ad G kb), a1, a2, a3, a4, a5] σ x τ) (hT : T[kb]? = some (.inl (ci, fs))) (hC : vwCl[ci]? = some (M.1.cls, Tt, N)) (hD : d + 1 ≤ D) (hs : sm rest ≤ 8) (dg : decode b pc = .ok (.invokevirtual idx, 3)) (kk : V X G T τ L (.long x :: rest) (pc + 3)) : V X G T σ L (a5 :: a4 :: a3 :: a2 :: a1 :: .ref (ad G kb) :: rest) pc := r_cV B (C := M.1.cls) (As := [a1, a2, a3, a4, a5]) K c hD rfl hT hC hs dg (fun r ρ h => by obtain ⟨rfl, rfl⟩ := h; exact kk)
theorem r_cSl5 (B : Bd l X G b own nL D) {a1 a2 a3 a4 a5 : Value} {rest : List Value} {x : Int64} {τ : Sg} (K : KS own idx M 5) (c : CtL l G M d T [a1, a2, a3, a4, a5] σ x τ) (hD : d + 1 ≤ D) (hs : sm rest ≤ 8) (dg : decode b pc = .ok (.invokestatic idx, 3)) (kk : V X G T τ L (.long x :: rest) (pc + 3)) : V X G T σ L (a5 :: a4 :: a3 :: a2 :: a1 :: rest) pc := r_cS B (As := [a1, a2, a3, a4, a5]) K c hD rfl hs dg (fun r ρ h => by obtain ⟨rfl, rfl⟩ := h; exact kk)
theorem r_cNl5 (B : Bd l X G b own nL D) {a1 a2 a3 a4 a5 : Value} {rest : List Value} {x : Int64} {τ : Sg} (K : KN own idx M 5) (c : CtL l G M d T [a1, a2, a3, a4, a5] σ x τ) (hD : d + 1 ≤ D) (hs : sm rest ≤ 8) (dg : decode b pc = .ok (.invokestatic idx, 3)) (kk : V X G T τ L (.long x :: rest) (pc + 3)) : V X G T σ L (a5 :: a4 :: a3 :: a2 :: a1 :: rest) pc := r_cN B (As := [a1, a2, a3, a4, a5]) K c hD rfl hs dg (fun r ρ h => by obtain ⟨rfl, rfl⟩ := h; exact kk)
theorem r_cVa5 (B : Bd l X G b own nL D) {kb ci : Nat} {Tt : u_T} {N : Nat} {fs : List (Option (Option Nat))} {a1 a2 a3 a4 a5 : Value} {rest : List Value} {x : Nat} {τ : Sg} (K : KV own idx M 5) (c : CtA l G M d T [.ref (ad G kb), a1, a2, a3, a4, a5] σ x τ) (hT : T[kb]? = some (.inl (ci, fs))) (hC : vwCl[ci]? = some (M.1.cls, Tt, N)) (hD : d + 1 ≤ D) (hs : sm rest ≤ 8) (dg : decode b pc = .ok (.invokevirtual idx, 3)) (kk : V X G T τ L (.ref x :: rest) (pc + 3)) : V X G T σ L (a5 :: a4 :: a3 :: a2 :: a1 :: .ref (ad G kb) :: rest) pc := r_cV B (C := M.1.cls) (As := [a1, a2, a3, a4, a5]) K c hD rfl hT hC hs dg (fun r ρ h => by obtain ⟨rfl, rfl⟩ := h; exact kk)
theorem r_cSa5 (B : Bd l X G b own nL D) {a1 a2 a3 a4 a5 : Value} {rest : List Value} {x : Nat} {τ : Sg} (K : KS own idx M 5) (c : CtA l G M d T [a1, a2, a3, a4, a5] σ x τ) (hD : d + 1 ≤ D) (hs : sm rest ≤ 8) (dg : decode b pc = .ok (.invokestatic idx, 3)) (kk : V X G T τ L (.ref x :: rest) (pc + 3)) : V X G T σ L (a5 :: a4 :: a3 :: a2 :: a1 :: rest) pc := r_cS B (As := [a1, a2, a3, a4, a5]) K c hD rfl hs dg (fun r ρ h => by obtain ⟨rfl, rfl⟩ := h; exact kk)
theorem r_cNa5 (B : Bd l X G b own nL D) {a1 a2 a3 a4 a5 : Value} {rest : List Value} {x : Nat} {τ : Sg} (K : KN own idx M 5) (c : CtA l G M d T [a1, a2, a3, a4, a5] σ x τ) (hD : d + 1 ≤ D) (hs : sm rest ≤ 8) (dg : decode b pc = .ok (.invokestatic idx, 3)) (kk : V X G T τ L (.ref x :: rest) (pc + 3)) : V X G T σ L (a5 :: a4 :: a3 :: a2 :: a1 :: rest) pc := r_cN B (As := [a1, a2, a3, a4, a5]) K c hD rfl hs dg (fun r ρ h => by obtain ⟨rfl, rfl⟩ := h; exact kk)
theorem r_cVv5 (B : Bd l X G b own nL D) {kb ci : Nat} {Tt : u_T} {N : Nat} {fs : List (Option (Option Nat))} {a1 a2 a3 a4 a5 : Value} {rest : List Value}  {τ : Sg} (K : KV own idx M 5) (c : CtV l G M d T [.ref (ad G kb), a1, a2, a3, a4, a5] σ τ) (hT : T[kb]? = some (.inl (ci, fs))) (hC : vwCl[ci]? = some (M.1.cls, Tt, N)) (hD : d + 1 ≤ D) (hs : sm rest ≤ 8) (dg : decode b pc = .ok (.invokevirtual idx, 3)) (kk : V X G T τ L (rest) (pc + 3)) : V X G T σ L (a5 :: a4 :: a3 :: a2 :: a1 :: .ref (ad G kb) :: rest) pc := r_cV B (C := M.1.cls) (As := [a1, a2, a3, a4, a5]) K c hD rfl hT hC hs dg (fun r ρ h => by obtain ⟨rfl, rfl⟩ := h; exact kk)
theorem r_cSv5 (B : Bd l X G b own nL D) {a1 a2 a3 a4 a5 : Value} {rest : List Value}  {τ : Sg} (K : KS own idx M 5) (c : CtV l G M d T [a1, a2, a3, a4, a5] σ τ) (hD : d + 1 ≤ D) (hs : sm rest ≤ 8) (dg : decode b pc = .ok (.invokestatic idx, 3)) (kk : V X G T τ L (rest) (pc + 3)) : V X G T σ L (a5 :: a4 :: a3 :: a2 :: a1 :: rest) pc := r_cS B (As := [a1, a2, a3, a4, a5]) K c hD rfl hs dg (fun r ρ h => by obtain ⟨rfl, rfl⟩ := h; exact kk)
theorem r_cNv5 (B : Bd l X G b own nL D) {a1 a2 a3 a4 a5 : Value} {rest : List Value}  {τ : Sg} (K : KN own idx M 5) (c : CtV l G M d T [a1, a2, a3, a4, a5] σ τ) (hD : d + 1 ≤ D) (hs : sm rest ≤ 8) (dg : decode b pc = .ok (.invokestatic idx, 3)) (kk : V X G T τ L (rest) (pc + 3)) : V X G T σ L (a5 :: a4 :: a3 :: a2 :: a1 :: rest) pc := r_cN B (As := [a1, a2, a3, a4, a5]) K c hD rfl hs dg (fun r ρ h => by obtain ⟨rfl, rfl⟩ := h; exact kk)
theorem r_cVi6 (B : Bd l X G b own nL D) {kb ci : Nat} {Tt : u_T} {N : Nat} {fs : List (Option (Option Nat))} {a1 a2 a3 a4 a5 a6 : Value} {rest : List Value} {x : Int32} {τ : Sg} (K : KV own idx M 6) (c : CtI l G M d T [.ref (ad G kb), a1, a2, a3, a4, a5, a6] σ x τ) (hT : T[kb]? = some (.inl (ci, fs))) (hC : vwCl[ci]? = some (M.1.cls, Tt, N)) (hD : d + 1 ≤ D) (hs : sm rest ≤ 8) (dg : decode b pc = .ok (.invokevirtual idx, 3)) (kk : V X G T τ L (.int x :: rest) (pc + 3)) : V X G T σ L (a6 :: a5 :: a4 :: a3 :: a2 :: a1 :: .ref (ad G kb) :: rest) pc := r_cV B (C := M.1.cls) (As := [a1, a2, a3, a4, a5, a6]) K c hD rfl hT hC hs dg (fun r ρ h => by obtain ⟨rfl, rfl⟩ := h; exact kk)
theorem r_cSi6 (B : Bd l X G b own nL D) {a1 a2 a3 a4 a5 a6 : Value} {rest : List Value} {x : Int32} {τ : Sg} (K : KS own idx M 6) (c : CtI l G M d T [a1, a2, a3, a4, a5, a6] σ x τ) (hD : d + 1 ≤ D) (hs : sm rest ≤ 8) (dg : decode b pc = .ok (.invokestatic idx, 3)) (kk : V X G T τ L (.int x :: rest) (pc + 3)) : V X G T σ L (a6 :: a5 :: a4 :: a3 :: a2 :: a1 :: rest) pc := r_cS B (As := [a1, a2, a3, a4, a5, a6]) K c hD rfl hs dg (fun r ρ h => by obtain ⟨rfl, rfl⟩ := h; exact kk)
theorem r_cNi6 (B : Bd l X G b own nL D) {a1 a2 a3 a4 a5 a6 : Value} {rest : List Value} {x : Int32} {τ : Sg} (K : KN own idx M 6) (c : CtI l G M d T [a1, a2, a3, a4, a5, a6] σ x τ) (hD : d + 1 ≤ D) (hs : sm rest ≤ 8) (dg : decode b pc = .ok (.invokestatic idx, 3)) (kk : V X G T τ L (.int x :: rest) (pc + 3)) : V X G T σ L (a6 :: a5 :: a4 :: a3 :: a2 :: a1 :: rest) pc := r_cN B (As := [a1, a2, a3, a4, a5, a6]) K c hD rfl hs dg (fun r ρ h => by obtain ⟨rfl, rfl⟩ := h; exact kk)
theorem r_cVl6 (B : Bd l X G b own nL D) {kb ci : Nat} {Tt : u_T} {N : Nat} {fs : List (Option (Option Nat))} {a1 a2 a3 a4 a5 a6 : Value} {rest : List Value} {x : Int64} {τ : Sg} (K : KV own idx M 6) (c : CtL l G M d T [.ref (ad G kb), a1, a2, a3, a4, a5, a6] σ x τ) (hT : T[kb]? = some (.inl (ci, fs))) (hC : vwCl[ci]? = some (M.1.cls, Tt, N)) (hD : d + 1 ≤ D) (hs : sm rest ≤ 8) (dg : decode b pc = .ok (.invokevirtual idx, 3)) (kk : V X G T τ L (.long x :: rest) (pc + 3)) : V X G T σ L (a6 :: a5 :: a4 :: a3 :: a2 :: a1 :: .ref (ad G kb) :: rest) pc := r_cV B (C := M.1.cls) (As := [a1, a2, a3, a4, a5, a6]) K c hD rfl hT hC hs dg (fun r ρ h => by obtain ⟨rfl, rfl⟩ := h; exact kk)
theorem r_cSl6 (B : Bd l X G b own nL D) {a1 a2 a3 a4 a5 a6 : Value} {rest : List Value} {x : Int64} {τ : Sg} (K : KS own idx M 6) (c : CtL l G M d T [a1, a2, a3, a4, a5, a6] σ x τ) (hD : d + 1 ≤ D) (hs : sm rest ≤ 8) (dg : decode b pc = .ok (.invokestatic idx, 3)) (kk : V X G T τ L (.long x :: rest) (pc + 3)) : V X G T σ L (a6 :: a5 :: a4 :: a3 :: a2 :: a1 :: rest) pc := r_cS B (As := [a1, a2, a3, a4, a5, a6]) K c hD rfl hs dg (fun r ρ h => by obtain ⟨rfl, rfl⟩ := h; exact kk)
theorem r_cNl6 (B : Bd l X G b own nL D) {a1 a2 a3 a4 a5 a6 : Value} {rest : List Value} {x : Int64} {τ : Sg} (K : KN own idx M 6) (c : CtL l G M d T [a1, a2, a3, a4, a5, a6] σ x τ) (hD : d + 1 ≤ D) (hs : sm rest ≤ 8) (dg : decode b pc = .ok (.invokestatic idx, 3)) (kk : V X G T τ L (.long x :: rest) (pc + 3)) : V X G T σ L (a6 :: a5 :: a4 :: a3 :: a2 :: a1 :: rest) pc := r_cN B (As := [a1, a2, a3, a4, a5, a6]) K c hD rfl hs dg (fun r ρ h => by obtain ⟨rfl, rfl⟩ := h; exact kk)
theorem r_cVa6 (B : Bd l X G b own nL D) {kb ci : Nat} {Tt : u_T} {N : Nat} {fs : List (Option (Option Nat))} {a1 a2 a3 a4 a5 a6 : Value} {rest : List Value} {x : Nat} {τ : Sg} (K : KV own idx M 6) (c : CtA l G M d T [.ref (ad G kb), a1, a2, a3, a4, a5, a6] σ x τ) (hT : T[kb]? = some (.inl (ci, fs))) (hC : vwCl[ci]? = some (M.1.cls, Tt, N)) (hD : d + 1 ≤ D) (hs : sm rest ≤ 8) (dg : decode b pc = .ok (.invokevirtual idx, 3)) (kk : V X G T τ L (.ref x :: rest) (pc + 3)) : V X G T σ L (a6 :: a5 :: a4 :: a3 :: a2 :: a1 :: .ref (ad G kb) :: rest) pc := r_cV B (C := M.1.cls) (As := [a1, a2, a3, a4, a5, a6]) K c hD rfl hT hC hs dg (fun r ρ h => by obtain ⟨rfl, rfl⟩ := h; exact kk)
theorem r_cSa6 (B : Bd l X G b own nL D) {a1 a2 a3 a4 a5 a6 : Value} {rest : List Value} {x : Nat} {τ : Sg} (K : KS own idx M 6) (c : CtA l G M d T [a1, a2, a3, a4, a5, a6] σ x τ) (hD : d + 1 ≤ D) (hs : sm rest ≤ 8) (dg : decode b pc = .ok (.invokestatic idx, 3)) (kk : V X G T τ L (.ref x :: rest) (pc + 3)) : V X G T σ L (a6 :: a5 :: a4 :: a3 :: a2 :: a1 :: rest) pc := r_cS B (As := [a1, a2, a3, a4, a5, a6]) K c hD rfl hs dg (fun r ρ h => by obtain ⟨rfl, rfl⟩ := h; exact kk)
theorem r_cNa6 (B : Bd l X G b own nL D) {a1 a2 a3 a4 a5 a6 : Value} {rest : List Value} {x : Nat} {τ : Sg} (K : KN own idx M 6) (c : CtA l G M d T [a1, a2, a3, a4, a5, a6] σ x τ) (hD : d + 1 ≤ D) (hs : sm rest ≤ 8) (dg : decode b pc = .ok (.invokestatic idx, 3)) (kk : V X G T τ L (.ref x :: rest) (pc + 3)) : V X G T σ L (a6 :: a5 :: a4 :: a3 :: a2 :: a1 :: rest) pc := r_cN B (As := [a1, a2, a3, a4, a5, a6]) K c hD rfl hs dg (fun r ρ h => by obtain ⟨rfl, rfl⟩ := h; exact kk)
theorem r_cVv6 (B : Bd l X G b own nL D) {kb ci : Nat} {Tt : u_T} {N : Nat} {fs : List (Option (Option Nat))} {a1 a2 a3 a4 a5 a6 : Value} {rest : List Value}  {τ : Sg} (K : KV own idx M 6) (c : CtV l G M d T [.ref (ad G kb), a1, a2, a3, a4, a5, a6] σ τ) (hT : T[kb]? = some (.inl (ci, fs))) (hC : vwCl[ci]? = some (M.1.cls, Tt, N)) (hD : d + 1 ≤ D) (hs : sm rest ≤ 8) (dg : decode b pc = .ok (.invokevirtual idx, 3)) (kk : V X G T τ L (rest) (pc + 3)) : V X G T σ L (a6 :: a5 :: a4 :: a3 :: a2 :: a1 :: .ref (ad G kb) :: rest) pc := r_cV B (C := M.1.cls) (As := [a1, a2, a3, a4, a5, a6]) K c hD rfl hT hC hs dg (fun r ρ h => by obtain ⟨rfl, rfl⟩ := h; exact kk)
theorem r_cSv6 (B : Bd l X G b own nL D) {a1 a2 a3 a4 a5 a6 : Value} {rest : List Value}  {τ : Sg} (K : KS own idx M 6) (c : CtV l G M d T [a1, a2, a3, a4, a5, a6] σ τ) (hD : d + 1 ≤ D) (hs : sm rest ≤ 8) (dg : decode b pc = .ok (.invokestatic idx, 3)) (kk : V X G T τ L (rest) (pc + 3)) : V X G T σ L (a6 :: a5 :: a4 :: a3 :: a2 :: a1 :: rest) pc := r_cS B (As := [a1, a2, a3, a4, a5, a6]) K c hD rfl hs dg (fun r ρ h => by obtain ⟨rfl, rfl⟩ := h; exact kk)
theorem r_cNv6 (B : Bd l X G b own nL D) {a1 a2 a3 a4 a5 a6 : Value} {rest : List Value}  {τ : Sg} (K : KN own idx M 6) (c : CtV l G M d T [a1, a2, a3, a4, a5, a6] σ τ) (hD : d + 1 ≤ D) (hs : sm rest ≤ 8) (dg : decode b pc = .ok (.invokestatic idx, 3)) (kk : V X G T τ L (rest) (pc + 3)) : V X G T σ L (a6 :: a5 :: a4 :: a3 :: a2 :: a1 :: rest) pc := r_cN B (As := [a1, a2, a3, a4, a5, a6]) K c hD rfl hs dg (fun r ρ h => by obtain ⟨rfl, rfl⟩ := h; exact kk)
end RR
end
section
theorem fcons {c : Cond} {l : List Cond} (h : c ∈ lwg) (hl : ∀ w ∈ l, w ∈ lwg) : ∀ w ∈ c :: l, w ∈ lwg := fun w hw => (List.mem_cons.mp hw).elim (fun e => by rw [e]; exact h) (hl w)
set_option maxRecDepth 20000 in
theorem q0 : Cond.initialized "InsideOutLaw" ∈ lwg := tG 0 (by decide +kernel) (by decide +kernel)
set_option maxRecDepth 20000 in
theorem q1 : Cond.initialized "InsideOut" ∈ lwg := tG 1 (by decide +kernel) (by decide +kernel)
set_option maxRecDepth 20000 in
theorem q2 : Cond.initialized "InsideOut$World" ∈ lwg := tG 2 (by decide +kernel) (by decide +kernel)
set_option maxRecDepth 20000 in
theorem q3 : Cond.initialized "InsideOut$Street" ∈ lwg := tG 3 (by decide +kernel) (by decide +kernel)
set_option maxRecDepth 20000 in
theorem q4 : Cond.initialized "java/util/Arrays" ∈ lwg := tG 4 (by decide +kernel) (by decide +kernel)
set_option maxRecDepth 20000 in
theorem q5 : Cond.initialized "InsideOut$Umbrella" ∈ lwg := tG 5 (by decide +kernel) (by decide +kernel)
set_option maxRecDepth 20000 in
theorem q6 : Cond.initialized "InsideOut$Walk" ∈ lwg := tG 6 (by decide +kernel) (by decide +kernel)
set_option maxRecDepth 20000 in
theorem q7 : Cond.initialized "InsideOut$Tape" ∈ lwg := tG 7 (by decide +kernel) (by decide +kernel)
set_option maxRecDepth 20000 in
theorem q8 : Cond.initialized "InsideOut$Reader" ∈ lwg := tG 8 (by decide +kernel) (by decide +kernel)
set_option maxRecDepth 20000 in
theorem q9 : Cond.initialized "InsideOut$Sheet" ∈ lwg := tG 9 (by decide +kernel) (by decide +kernel)
set_option maxRecDepth 20000 in
theorem q10 : Cond.initialized "InsideOutModel" ∈ lwg := tG 10 (by decide +kernel) (by decide +kernel)
set_option maxRecDepth 20000 in
theorem q11 : Cond.initialized "java/lang/Math" ∈ lwg := tG 11 (by decide +kernel) (by decide +kernel)
set_option maxRecDepth 20000 in
theorem q12 : Cond.initialized "java/lang/System" ∈ lwg := tG 12 (by decide +kernel) (by decide +kernel)
set_option maxRecDepth 20000 in
theorem q13 : Cond.initialized "java/lang/Integer" ∈ lwg := tG 13 (by decide +kernel) (by decide +kernel)
set_option maxRecDepth 20000 in
theorem q14 : Cond.initialized "java/lang/String" ∈ lwg := tG 14 (by decide +kernel) (by decide +kernel)
set_option maxRecDepth 20000 in
theorem q15 : Cond.initialized "java/lang/StringLatin1" ∈ lwg := tG 15 (by decide +kernel) (by decide +kernel)
set_option maxRecDepth 20000 in
theorem q16 : Cond.initialized "jdk/internal/util/Preconditions" ∈ lwg := tG 16 (by decide +kernel) (by decide +kernel)
set_option maxRecDepth 20000 in
theorem q17 : Cond.initialized "java/lang/StringUTF16" ∈ lwg := tG 17 (by decide +kernel) (by decide +kernel)
set_option maxRecDepth 20000 in
theorem q18 : Cond.classLink "InsideOutLaw" 7 "InsideOut" ∈ lwg := tG 18 (by decide +kernel) (by decide +kernel)
set_option maxRecDepth 20000 in
theorem q19 : Cond.instantiable "InsideOut" 9 ∈ lwg := tG 19 (by decide +kernel) (by decide +kernel)
set_option maxRecDepth 20000 in
theorem q20 : Cond.methodLink "InsideOutLaw" 9 yX7_init ∈ lwg := tG 20 (by decide +kernel) (by decide +kernel)
set_option maxRecDepth 20000 in
theorem q21 : Cond.instanceMethod yX7_init ∈ lwg := tG 21 (by decide +kernel) (by decide +kernel)
set_option maxRecDepth 20000 in
theorem q22 : Cond.code yX7_init prog_1_method_1_code 2 (none : Option Jvm.ClassFile.FieldType) ∈ lwg := tG 22 rfl rfl
set_option maxRecDepth 20000 in
theorem q23 : Cond.methodLink "InsideOut" 1 ⟨"java/lang/Object", "<init>", "()V"⟩ ∈ lwg := tG 23 (by decide +kernel) (by decide +kernel)
set_option maxRecDepth 20000 in
theorem q25 : Cond.code ⟨"java/lang/Object", "<init>", "()V"⟩ object_method_1_code 1 (none : Option Jvm.ClassFile.FieldType) ∈ lwg := tG 25 rfl rfl
set_option maxRecDepth 20000 in
theorem q26 : Cond.classLink "InsideOut" 7 "InsideOut$World" ∈ lwg := tG 26 (by decide +kernel) (by decide +kernel)
set_option maxRecDepth 20000 in
theorem q27 : Cond.instantiable "InsideOut$World" 5 ∈ lwg := tG 27 (by decide +kernel) (by decide +kernel)
set_option maxRecDepth 20000 in
theorem q28 : Cond.methodLink "InsideOut" 9 yX6_init ∈ lwg := tG 28 (by decide +kernel) (by decide +kernel)
set_option maxRecDepth 20000 in
theorem q29 : Cond.instanceMethod yX6_init ∈ lwg := tG 29 (by decide +kernel) (by decide +kernel)
set_option maxRecDepth 20000 in
theorem q30 : Cond.code yX6_init prog_8_method_1_code 2 (none : Option Jvm.ClassFile.FieldType) ∈ lwg := tG 30 rfl rfl
set_option maxRecDepth 20000 in
theorem q31 : Cond.methodLink "InsideOut$World" 3 ⟨"java/lang/Object", "<init>", "()V"⟩ ∈ lwg := tG 31 (by decide +kernel) (by decide +kernel)
set_option maxRecDepth 20000 in
theorem q32 : Cond.classLink "InsideOut$World" 9 "InsideOut$Street" ∈ lwg := tG 32 (by decide +kernel) (by decide +kernel)
set_option maxRecDepth 20000 in
theorem q33 : Cond.instantiable "InsideOut$Street" 6 ∈ lwg := tG 33 (by decide +kernel) (by decide +kernel)
set_option maxRecDepth 20000 in
theorem q34 : Cond.methodLink "InsideOut$World" 11 yX2_init ∈ lwg := tG 34 (by decide +kernel) (by decide +kernel)
set_option maxRecDepth 20000 in
theorem q35 : Cond.instanceMethod yX2_init ∈ lwg := tG 35 (by decide +kernel) (by decide +kernel)
set_option maxRecDepth 20000 in
theorem q36 : Cond.code yX2_init prog_4_method_1_code 1 (none : Option Jvm.ClassFile.FieldType) ∈ lwg := tG 36 rfl rfl
set_option maxRecDepth 20000 in
theorem q37 : Cond.methodLink "InsideOut$Street" 3 ⟨"java/lang/Object", "<init>", "()V"⟩ ∈ lwg := tG 37 (by decide +kernel) (by decide +kernel)
set_option maxRecDepth 20000 in
theorem q38 : Cond.methodLink "InsideOut$Street" 31 yJ7_fill_53178 ∈ lwg := tG 38 (by decide +kernel) (by decide +kernel)
set_option maxRecDepth 20000 in
theorem q39 : Cond.static yJ7_fill_53178 ∈ lwg := tG 39 (by decide +kernel) (by decide +kernel)
set_option maxRecDepth 20000 in
theorem q40 : Cond.code yJ7_fill_53178 prog_17_method_103_code 4 (none : Option Jvm.ClassFile.FieldType) ∈ lwg := tG 40 rfl rfl
set_option maxRecDepth 20000 in
theorem q41 : Cond.fieldLink "InsideOut$Street" 9 "InsideOut$Street" "from" "[I" ∈ lwg := tG 41 (by decide +kernel) (by decide +kernel)
set_option maxRecDepth 20000 in
theorem q42 : Cond.fieldLink "InsideOut" 72 "InsideOut$Street" "from" "[I" ∈ lwg := tG 42 (by decide +kernel) (by decide +kernel)
set_option maxRecDepth 20000 in
theorem q43 : Cond.fieldLink "InsideOut$Reader" 116 "InsideOut$Street" "from" "[I" ∈ lwg := tG 43 (by decide +kernel) (by decide +kernel)
set_option maxRecDepth 20000 in
theorem q44 : Cond.fieldLink "InsideOut$Umbrella" 57 "InsideOut$Street" "from" "[I" ∈ lwg := tG 44 (by decide +kernel) (by decide +kernel)
set_option maxRecDepth 20000 in
theorem q45 : Cond.fieldLink "InsideOut$Street" 15 "InsideOut$Street" "strength" "[I" ∈ lwg := tG 45 (by decide +kernel) (by decide +kernel)
set_option maxRecDepth 20000 in
theorem q46 : Cond.fieldLink "InsideOut" 77 "InsideOut$Street" "strength" "[I" ∈ lwg := tG 46 (by decide +kernel) (by decide +kernel)
set_option maxRecDepth 20000 in
theorem q47 : Cond.fieldLink "InsideOut$Reader" 121 "InsideOut$Street" "strength" "[I" ∈ lwg := tG 47 (by decide +kernel) (by decide +kernel)
set_option maxRecDepth 20000 in
theorem q48 : Cond.fieldLink "InsideOut$Street" 18 "InsideOut$Street" "roof" "[I" ∈ lwg := tG 48 (by decide +kernel) (by decide +kernel)
set_option maxRecDepth 20000 in
theorem q49 : Cond.fieldLink "InsideOut" 80 "InsideOut$Street" "roof" "[I" ∈ lwg := tG 49 (by decide +kernel) (by decide +kernel)
set_option maxRecDepth 20000 in
theorem q50 : Cond.fieldLink "InsideOut$Walk" 36 "InsideOut$Street" "roof" "[I" ∈ lwg := tG 50 (by decide +kernel) (by decide +kernel)
set_option maxRecDepth 20000 in
theorem q51 : Cond.fieldLink "InsideOut$Reader" 124 "InsideOut$Street" "roof" "[I" ∈ lwg := tG 51 (by decide +kernel) (by decide +kernel)
set_option maxRecDepth 20000 in
theorem q52 : Cond.fieldLink "InsideOut$Umbrella" 81 "InsideOut$Street" "roof" "[I" ∈ lwg := tG 52 (by decide +kernel) (by decide +kernel)
set_option maxRecDepth 20000 in
theorem q53 : Cond.fieldLink "InsideOut$Street" 21 "InsideOut$Street" "rain" "I" ∈ lwg := tG 53 (by decide +kernel) (by decide +kernel)
set_option maxRecDepth 20000 in
theorem q54 : Cond.fieldLink "InsideOut" 94 "InsideOut$Street" "rain" "I" ∈ lwg := tG 54 (by decide +kernel) (by decide +kernel)
set_option maxRecDepth 20000 in
theorem q55 : Cond.fieldLink "InsideOut$Umbrella" 42 "InsideOut$Street" "rain" "I" ∈ lwg := tG 55 (by decide +kernel) (by decide +kernel)
set_option maxRecDepth 20000 in
theorem q56 : Cond.fieldLink "InsideOut$Reader" 126 "InsideOut$Street" "rain" "I" ∈ lwg := tG 56 (by decide +kernel) (by decide +kernel)
set_option maxRecDepth 20000 in
theorem q57 : Cond.fieldLink "InsideOut$Street" 25 "InsideOut$Street" "gust" "I" ∈ lwg := tG 57 (by decide +kernel) (by decide +kernel)
set_option maxRecDepth 20000 in
theorem q58 : Cond.fieldLink "InsideOut" 98 "InsideOut$Street" "gust" "I" ∈ lwg := tG 58 (by decide +kernel) (by decide +kernel)
set_option maxRecDepth 20000 in
theorem q59 : Cond.fieldLink "InsideOut$Reader" 128 "InsideOut$Street" "gust" "I" ∈ lwg := tG 59 (by decide +kernel) (by decide +kernel)
set_option maxRecDepth 20000 in
theorem q60 : Cond.fieldLink "InsideOut$Street" 28 "InsideOut$Street" "tick" "I" ∈ lwg := tG 60 (by decide +kernel) (by decide +kernel)
set_option maxRecDepth 20000 in
theorem q61 : Cond.fieldLink "InsideOut" 128 "InsideOut$Street" "tick" "I" ∈ lwg := tG 61 (by decide +kernel) (by decide +kernel)
set_option maxRecDepth 20000 in
theorem q62 : Cond.fieldLink "InsideOut$Umbrella" 50 "InsideOut$Street" "tick" "I" ∈ lwg := tG 62 (by decide +kernel) (by decide +kernel)
set_option maxRecDepth 20000 in
theorem q63 : Cond.laysFinal "InsideOut$Street" "InsideOut$Street" "from" "[I" ∈ lwg := tG 63 (by decide +kernel) (by decide +kernel)
set_option maxRecDepth 20000 in
theorem q65 : Cond.laysFinal "InsideOut$Street" "InsideOut$Street" "strength" "[I" ∈ lwg := tG 65 (by decide +kernel) (by decide +kernel)
set_option maxRecDepth 20000 in
theorem q67 : Cond.laysFinal "InsideOut$Street" "InsideOut$Street" "roof" "[I" ∈ lwg := tG 67 (by decide +kernel) (by decide +kernel)
set_option maxRecDepth 20000 in
theorem q69 : Cond.lays "InsideOut$Street" "InsideOut$Street" "rain" "I" ∈ lwg := tG 69 (by decide +kernel) (by decide +kernel)
set_option maxRecDepth 20000 in
theorem q71 : Cond.lays "InsideOut$Street" "InsideOut$Street" "gust" "I" ∈ lwg := tG 71 (by decide +kernel) (by decide +kernel)
set_option maxRecDepth 20000 in
theorem q73 : Cond.lays "InsideOut$Street" "InsideOut$Street" "tick" "I" ∈ lwg := tG 73 (by decide +kernel) (by decide +kernel)
set_option maxRecDepth 20000 in
theorem q76 : Cond.arrayClass .int ∈ lwg := tG 76 (by decide +kernel) (by decide +kernel)
set_option maxRecDepth 20000 in
theorem q77 : Cond.classLink "InsideOut$World" 18 "InsideOut$Umbrella" ∈ lwg := tG 77 (by decide +kernel) (by decide +kernel)
set_option maxRecDepth 20000 in
theorem q79 : Cond.instantiable "InsideOut$Umbrella" 8 ∈ lwg := tG 79 (by decide +kernel) (by decide +kernel)
set_option maxRecDepth 20000 in
theorem q81 : Cond.instanceMethod yX4_init ∈ lwg := tG 81 (by decide +kernel) (by decide +kernel)
set_option maxRecDepth 20000 in
theorem q82 : Cond.code yX4_init prog_6_method_1_code 1 (none : Option Jvm.ClassFile.FieldType) ∈ lwg := tG 82 rfl rfl
set_option maxRecDepth 20000 in
theorem q83 : Cond.methodLink "InsideOut$Umbrella" 3 ⟨"java/lang/Object", "<init>", "()V"⟩ ∈ lwg := tG 83 (by decide +kernel) (by decide +kernel)
set_option maxRecDepth 20000 in
theorem q84 : Cond.fieldLink "InsideOut$Umbrella" 9 "InsideOut$Umbrella" "kind" "I" ∈ lwg := tG 84 (by decide +kernel) (by decide +kernel)
set_option maxRecDepth 20000 in
theorem q85 : Cond.fieldLink "InsideOut" 223 "InsideOut$Umbrella" "kind" "I" ∈ lwg := tG 85 (by decide +kernel) (by decide +kernel)
set_option maxRecDepth 20000 in
theorem q86 : Cond.fieldLink "InsideOut$Umbrella" 15 "InsideOut$Umbrella" "at" "I" ∈ lwg := tG 86 (by decide +kernel) (by decide +kernel)
set_option maxRecDepth 20000 in
theorem q87 : Cond.fieldLink "InsideOut$Walk" 52 "InsideOut$Umbrella" "at" "I" ∈ lwg := tG 87 (by decide +kernel) (by decide +kernel)
set_option maxRecDepth 20000 in
theorem q88 : Cond.fieldLink "InsideOut$Umbrella" 18 "InsideOut$Umbrella" "held" "I" ∈ lwg := tG 88 (by decide +kernel) (by decide +kernel)
set_option maxRecDepth 20000 in
theorem q89 : Cond.fieldLink "InsideOut$Umbrella" 21 "InsideOut$Umbrella" "habit" "I" ∈ lwg := tG 89 (by decide +kernel) (by decide +kernel)
set_option maxRecDepth 20000 in
theorem q90 : Cond.fieldLink "InsideOut$Umbrella" 24 "InsideOut$Umbrella" "ribs" "I" ∈ lwg := tG 90 (by decide +kernel) (by decide +kernel)
set_option maxRecDepth 20000 in
theorem q91 : Cond.fieldLink "InsideOut" 185 "InsideOut$Umbrella" "ribs" "I" ∈ lwg := tG 91 (by decide +kernel) (by decide +kernel)
set_option maxRecDepth 20000 in
theorem q92 : Cond.fieldLink "InsideOut$Umbrella" 27 "InsideOut$Umbrella" "out" "I" ∈ lwg := tG 92 (by decide +kernel) (by decide +kernel)
set_option maxRecDepth 20000 in
theorem q93 : Cond.fieldLink "InsideOut$Umbrella" 30 "InsideOut$Umbrella" "turned" "I" ∈ lwg := tG 93 (by decide +kernel) (by decide +kernel)
set_option maxRecDepth 20000 in
theorem q94 : Cond.fieldLink "InsideOut$Walk" 59 "InsideOut$Umbrella" "turned" "I" ∈ lwg := tG 94 (by decide +kernel) (by decide +kernel)
set_option maxRecDepth 20000 in
theorem q95 : Cond.fieldLink "InsideOut$Umbrella" 33 "InsideOut$Umbrella" "wet" "I" ∈ lwg := tG 95 (by decide +kernel) (by decide +kernel)
set_option maxRecDepth 20000 in
theorem q96 : Cond.fieldLink "InsideOut" 271 "InsideOut$Umbrella" "wet" "I" ∈ lwg := tG 96 (by decide +kernel) (by decide +kernel)
set_option maxRecDepth 20000 in
theorem q97 : Cond.lays "InsideOut$Umbrella" "InsideOut$Umbrella" "kind" "I" ∈ lwg := tG 97 (by decide +kernel) (by decide +kernel)
set_option maxRecDepth 20000 in
theorem q99 : Cond.lays "InsideOut$Umbrella" "InsideOut$Umbrella" "at" "I" ∈ lwg := tG 99 (by decide +kernel) (by decide +kernel)
set_option maxRecDepth 20000 in
theorem q101 : Cond.lays "InsideOut$Umbrella" "InsideOut$Umbrella" "held" "I" ∈ lwg := tG 101 (by decide +kernel) (by decide +kernel)
set_option maxRecDepth 20000 in
theorem q103 : Cond.lays "InsideOut$Umbrella" "InsideOut$Umbrella" "habit" "I" ∈ lwg := tG 103 (by decide +kernel) (by decide +kernel)
set_option maxRecDepth 20000 in
theorem q105 : Cond.lays "InsideOut$Umbrella" "InsideOut$Umbrella" "ribs" "I" ∈ lwg := tG 105 (by decide +kernel) (by decide +kernel)
set_option maxRecDepth 20000 in
theorem q107 : Cond.lays "InsideOut$Umbrella" "InsideOut$Umbrella" "out" "I" ∈ lwg := tG 107 (by decide +kernel) (by decide +kernel)
set_option maxRecDepth 20000 in
theorem q109 : Cond.lays "InsideOut$Umbrella" "InsideOut$Umbrella" "turned" "I" ∈ lwg := tG 109 (by decide +kernel) (by decide +kernel)
set_option maxRecDepth 20000 in
theorem q111 : Cond.lays "InsideOut$Umbrella" "InsideOut$Umbrella" "wet" "I" ∈ lwg := tG 111 (by decide +kernel) (by decide +kernel)
set_option maxRecDepth 20000 in
theorem q114 : Cond.methodLink "InsideOut$World" 36 yJ7_fill_53178 ∈ lwg := tG 114 (by decide +kernel) (by decide +kernel)
set_option maxRecDepth 20000 in
theorem q115 : Cond.fieldLink "InsideOut$World" 12 "InsideOut$World" "street" "LInsideOut$Street;" ∈ lwg := tG 115 (by decide +kernel) (by decide +kernel)
set_option maxRecDepth 20000 in
theorem q116 : Cond.fieldLink "InsideOut" 68 "InsideOut$World" "street" "LInsideOut$Street;" ∈ lwg := tG 116 (by decide +kernel) (by decide +kernel)
set_option maxRecDepth 20000 in
theorem q117 : Cond.fieldLink "InsideOut$Reader" 50 "InsideOut$World" "street" "LInsideOut$Street;" ∈ lwg := tG 117 (by decide +kernel) (by decide +kernel)
set_option maxRecDepth 20000 in
theorem q118 : Cond.fieldLink "InsideOut$World" 20 "InsideOut$World" "umbrellas" "[LInsideOut$Umbrella;" ∈ lwg := tG 118 (by decide +kernel) (by decide +kernel)
set_option maxRecDepth 20000 in
theorem q119 : Cond.fieldLink "InsideOut$Reader" 79 "InsideOut$World" "umbrellas" "[LInsideOut$Umbrella;" ∈ lwg := tG 119 (by decide +kernel) (by decide +kernel)
set_option maxRecDepth 20000 in
theorem q120 : Cond.fieldLink "InsideOut" 114 "InsideOut$World" "umbrellas" "[LInsideOut$Umbrella;" ∈ lwg := tG 120 (by decide +kernel) (by decide +kernel)
set_option maxRecDepth 20000 in
theorem q121 : Cond.fieldLink "InsideOut$World" 24 "InsideOut$World" "size" "I" ∈ lwg := tG 121 (by decide +kernel) (by decide +kernel)
set_option maxRecDepth 20000 in
theorem q122 : Cond.fieldLink "InsideOut" 175 "InsideOut$World" "size" "I" ∈ lwg := tG 122 (by decide +kernel) (by decide +kernel)
set_option maxRecDepth 20000 in
theorem q123 : Cond.fieldLink "InsideOut$World" 28 "InsideOut$World" "spots" "[I" ∈ lwg := tG 123 (by decide +kernel) (by decide +kernel)
set_option maxRecDepth 20000 in
theorem q124 : Cond.fieldLink "InsideOut" 220 "InsideOut$World" "spots" "[I" ∈ lwg := tG 124 (by decide +kernel) (by decide +kernel)
set_option maxRecDepth 20000 in
theorem q125 : Cond.fieldLink "InsideOut$World" 32 "InsideOut$World" "z" "I" ∈ lwg := tG 125 (by decide +kernel) (by decide +kernel)
set_option maxRecDepth 20000 in
theorem q126 : Cond.fieldLink "InsideOut" 200 "InsideOut$World" "z" "I" ∈ lwg := tG 126 (by decide +kernel) (by decide +kernel)
set_option maxRecDepth 20000 in
theorem q127 : Cond.laysFinal "InsideOut$World" "InsideOut$World" "street" "LInsideOut$Street;" ∈ lwg := tG 127 (by decide +kernel) (by decide +kernel)
set_option maxRecDepth 20000 in
theorem q129 : Cond.laysFinal "InsideOut$World" "InsideOut$World" "umbrellas" "[LInsideOut$Umbrella;" ∈ lwg := tG 129 (by decide +kernel) (by decide +kernel)
set_option maxRecDepth 20000 in
theorem q131 : Cond.lays "InsideOut$World" "InsideOut$World" "size" "I" ∈ lwg := tG 131 (by decide +kernel) (by decide +kernel)
set_option maxRecDepth 20000 in
theorem q133 : Cond.laysFinal "InsideOut$World" "InsideOut$World" "spots" "[I" ∈ lwg := tG 133 (by decide +kernel) (by decide +kernel)
set_option maxRecDepth 20000 in
theorem q135 : Cond.lays "InsideOut$World" "InsideOut$World" "z" "I" ∈ lwg := tG 135 (by decide +kernel) (by decide +kernel)
set_option maxRecDepth 20000 in
theorem q138 : Cond.classLink "InsideOut" 26 "InsideOut$Walk" ∈ lwg := tG 138 (by decide +kernel) (by decide +kernel)
set_option maxRecDepth 20000 in
theorem q139 : Cond.instantiable "InsideOut$Walk" 2 ∈ lwg := tG 139 (by decide +kernel) (by decide +kernel)
set_option maxRecDepth 20000 in
theorem q141 : Cond.instanceMethod yX5_init ∈ lwg := tG 141 (by decide +kernel) (by decide +kernel)
set_option maxRecDepth 20000 in
theorem q142 : Cond.code yX5_init prog_7_method_1_code 1 (none : Option Jvm.ClassFile.FieldType) ∈ lwg := tG 142 rfl rfl
set_option maxRecDepth 20000 in
theorem q143 : Cond.methodLink "InsideOut$Walk" 3 ⟨"java/lang/Object", "<init>", "()V"⟩ ∈ lwg := tG 143 (by decide +kernel) (by decide +kernel)
set_option maxRecDepth 20000 in
theorem q144 : Cond.classLink "InsideOut$Walk" 9 "InsideOut$Street" ∈ lwg := tG 144 (by decide +kernel) (by decide +kernel)
set_option maxRecDepth 20000 in
theorem q145 : Cond.methodLink "InsideOut$Walk" 11 yX2_init ∈ lwg := tG 145 (by decide +kernel) (by decide +kernel)
set_option maxRecDepth 20000 in
theorem q146 : Cond.classLink "InsideOut$Walk" 18 "InsideOut$Umbrella" ∈ lwg := tG 146 (by decide +kernel) (by decide +kernel)
set_option maxRecDepth 20000 in
theorem q148 : Cond.fieldLink "InsideOut$Walk" 12 "InsideOut$Walk" "street" "LInsideOut$Street;" ∈ lwg := tG 148 (by decide +kernel) (by decide +kernel)
set_option maxRecDepth 20000 in
theorem q149 : Cond.fieldLink "InsideOut" 181 "InsideOut$Walk" "street" "LInsideOut$Street;" ∈ lwg := tG 149 (by decide +kernel) (by decide +kernel)
set_option maxRecDepth 20000 in
theorem q150 : Cond.fieldLink "InsideOut$Walk" 21 "InsideOut$Walk" "walker" "LInsideOut$Umbrella;" ∈ lwg := tG 150 (by decide +kernel) (by decide +kernel)
set_option maxRecDepth 20000 in
theorem q151 : Cond.fieldLink "InsideOut" 165 "InsideOut$Walk" "walker" "LInsideOut$Umbrella;" ∈ lwg := tG 151 (by decide +kernel) (by decide +kernel)
set_option maxRecDepth 20000 in
theorem q152 : Cond.laysFinal "InsideOut$Walk" "InsideOut$Walk" "street" "LInsideOut$Street;" ∈ lwg := tG 152 (by decide +kernel) (by decide +kernel)
set_option maxRecDepth 20000 in
theorem q154 : Cond.laysFinal "InsideOut$Walk" "InsideOut$Walk" "walker" "LInsideOut$Umbrella;" ∈ lwg := tG 154 (by decide +kernel) (by decide +kernel)
set_option maxRecDepth 20000 in
theorem q157 : Cond.classLink "InsideOut" 33 "InsideOut$Tape" ∈ lwg := tG 157 (by decide +kernel) (by decide +kernel)
set_option maxRecDepth 20000 in
theorem q158 : Cond.instantiable "InsideOut$Tape" 2 ∈ lwg := tG 158 (by decide +kernel) (by decide +kernel)
set_option maxRecDepth 20000 in
theorem q160 : Cond.instanceMethod yX3_init ∈ lwg := tG 160 (by decide +kernel) (by decide +kernel)
set_option maxRecDepth 20000 in
theorem q161 : Cond.code yX3_init prog_5_method_1_code 1 (none : Option Jvm.ClassFile.FieldType) ∈ lwg := tG 161 rfl rfl
set_option maxRecDepth 20000 in
theorem q162 : Cond.methodLink "InsideOut$Tape" 3 ⟨"java/lang/Object", "<init>", "()V"⟩ ∈ lwg := tG 162 (by decide +kernel) (by decide +kernel)
set_option maxRecDepth 20000 in
theorem q163 : Cond.fieldLink "InsideOut$Tape" 9 "InsideOut$Tape" "bytes" "[I" ∈ lwg := tG 163 (by decide +kernel) (by decide +kernel)
set_option maxRecDepth 20000 in
theorem q164 : Cond.fieldLink "InsideOut$Tape" 15 "InsideOut$Tape" "length" "I" ∈ lwg := tG 164 (by decide +kernel) (by decide +kernel)
set_option maxRecDepth 20000 in
theorem q165 : Cond.fieldLink "InsideOut$Reader" 145 "InsideOut$Tape" "length" "I" ∈ lwg := tG 165 (by decide +kernel) (by decide +kernel)
set_option maxRecDepth 20000 in
theorem q166 : Cond.fieldLink "InsideOut" 203 "InsideOut$Tape" "length" "I" ∈ lwg := tG 166 (by decide +kernel) (by decide +kernel)
set_option maxRecDepth 20000 in
theorem q167 : Cond.laysFinal "InsideOut$Tape" "InsideOut$Tape" "bytes" "[I" ∈ lwg := tG 167 (by decide +kernel) (by decide +kernel)
set_option maxRecDepth 20000 in
theorem q169 : Cond.lays "InsideOut$Tape" "InsideOut$Tape" "length" "I" ∈ lwg := tG 169 (by decide +kernel) (by decide +kernel)
set_option maxRecDepth 20000 in
theorem q172 : Cond.classLink "InsideOut" 40 "InsideOut$Reader" ∈ lwg := tG 172 (by decide +kernel) (by decide +kernel)
set_option maxRecDepth 20000 in
theorem q173 : Cond.instantiable "InsideOut$Reader" 5 ∈ lwg := tG 173 (by decide +kernel) (by decide +kernel)
set_option maxRecDepth 20000 in
theorem q174 : Cond.methodLink "InsideOut" 42 yX0_init ∈ lwg := tG 174 (by decide +kernel) (by decide +kernel)
set_option maxRecDepth 20000 in
theorem q175 : Cond.instanceMethod yX0_init ∈ lwg := tG 175 (by decide +kernel) (by decide +kernel)
set_option maxRecDepth 20000 in
theorem q176 : Cond.code yX0_init prog_2_method_1_code 2 (none : Option Jvm.ClassFile.FieldType) ∈ lwg := tG 176 rfl rfl
set_option maxRecDepth 20000 in
theorem q177 : Cond.methodLink "InsideOut$Reader" 3 ⟨"java/lang/Object", "<init>", "()V"⟩ ∈ lwg := tG 177 (by decide +kernel) (by decide +kernel)
set_option maxRecDepth 20000 in
theorem q178 : Cond.fieldLink "InsideOut$Reader" 24 "InsideOut$Reader" "tape" "LInsideOut$Tape;" ∈ lwg := tG 178 (by decide +kernel) (by decide +kernel)
set_option maxRecDepth 20000 in
theorem q179 : Cond.fieldLink "InsideOut$Reader" 9 "InsideOut$Reader" "place" "I" ∈ lwg := tG 179 (by decide +kernel) (by decide +kernel)
set_option maxRecDepth 20000 in
theorem q180 : Cond.fieldLink "InsideOut$Reader" 15 "InsideOut$Reader" "behind" "I" ∈ lwg := tG 180 (by decide +kernel) (by decide +kernel)
set_option maxRecDepth 20000 in
theorem q181 : Cond.fieldLink "InsideOut$Reader" 18 "InsideOut$Reader" "token" "I" ∈ lwg := tG 181 (by decide +kernel) (by decide +kernel)
set_option maxRecDepth 20000 in
theorem q182 : Cond.fieldLink "InsideOut$Reader" 21 "InsideOut$Reader" "number" "I" ∈ lwg := tG 182 (by decide +kernel) (by decide +kernel)
set_option maxRecDepth 20000 in
theorem q183 : Cond.laysFinal "InsideOut$Reader" "InsideOut$Reader" "tape" "LInsideOut$Tape;" ∈ lwg := tG 183 (by decide +kernel) (by decide +kernel)
set_option maxRecDepth 20000 in
theorem q185 : Cond.lays "InsideOut$Reader" "InsideOut$Reader" "place" "I" ∈ lwg := tG 185 (by decide +kernel) (by decide +kernel)
set_option maxRecDepth 20000 in
theorem q187 : Cond.lays "InsideOut$Reader" "InsideOut$Reader" "behind" "I" ∈ lwg := tG 187 (by decide +kernel) (by decide +kernel)
set_option maxRecDepth 20000 in
theorem q189 : Cond.lays "InsideOut$Reader" "InsideOut$Reader" "token" "I" ∈ lwg := tG 189 (by decide +kernel) (by decide +kernel)
set_option maxRecDepth 20000 in
theorem q191 : Cond.lays "InsideOut$Reader" "InsideOut$Reader" "number" "I" ∈ lwg := tG 191 (by decide +kernel) (by decide +kernel)
set_option maxRecDepth 20000 in
theorem q194 : Cond.classLink "InsideOut" 49 "InsideOut$Sheet" ∈ lwg := tG 194 (by decide +kernel) (by decide +kernel)
set_option maxRecDepth 20000 in
theorem q196 : Cond.instantiable "InsideOut$Sheet" 3 ∈ lwg := tG 196 (by decide +kernel) (by decide +kernel)
set_option maxRecDepth 20000 in
theorem q198 : Cond.instanceMethod yX1_init ∈ lwg := tG 198 (by decide +kernel) (by decide +kernel)
set_option maxRecDepth 20000 in
theorem q199 : Cond.code yX1_init prog_3_method_1_code 1 (none : Option Jvm.ClassFile.FieldType) ∈ lwg := tG 199 rfl rfl
set_option maxRecDepth 20000 in
theorem q200 : Cond.methodLink "InsideOut$Sheet" 3 ⟨"java/lang/Object", "<init>", "()V"⟩ ∈ lwg := tG 200 (by decide +kernel) (by decide +kernel)
set_option maxRecDepth 20000 in
theorem q201 : Cond.fieldLink "InsideOut$Sheet" 9 "InsideOut$Sheet" "numbers" "[I" ∈ lwg := tG 201 (by decide +kernel) (by decide +kernel)
set_option maxRecDepth 20000 in
theorem q202 : Cond.fieldLink "InsideOut$Walk" 67 "InsideOut$Sheet" "numbers" "[I" ∈ lwg := tG 202 (by decide +kernel) (by decide +kernel)
set_option maxRecDepth 20000 in
theorem q203 : Cond.fieldLink "InsideOut" 248 "InsideOut$Sheet" "numbers" "[I" ∈ lwg := tG 203 (by decide +kernel) (by decide +kernel)
set_option maxRecDepth 20000 in
theorem q204 : Cond.fieldLink "InsideOut$Sheet" 15 "InsideOut$Sheet" "bits" "I" ∈ lwg := tG 204 (by decide +kernel) (by decide +kernel)
set_option maxRecDepth 20000 in
theorem q205 : Cond.fieldLink "InsideOut" 242 "InsideOut$Sheet" "bits" "I" ∈ lwg := tG 205 (by decide +kernel) (by decide +kernel)
set_option maxRecDepth 20000 in
theorem q206 : Cond.fieldLink "InsideOut$Sheet" 19 "InsideOut$Sheet" "size" "I" ∈ lwg := tG 206 (by decide +kernel) (by decide +kernel)
set_option maxRecDepth 20000 in
theorem q207 : Cond.fieldLink "InsideOut$Walk" 62 "InsideOut$Sheet" "size" "I" ∈ lwg := tG 207 (by decide +kernel) (by decide +kernel)
set_option maxRecDepth 20000 in
theorem q208 : Cond.fieldLink "InsideOut" 235 "InsideOut$Sheet" "size" "I" ∈ lwg := tG 208 (by decide +kernel) (by decide +kernel)
set_option maxRecDepth 20000 in
theorem q209 : Cond.laysFinal "InsideOut$Sheet" "InsideOut$Sheet" "numbers" "[I" ∈ lwg := tG 209 (by decide +kernel) (by decide +kernel)
set_option maxRecDepth 20000 in
theorem q211 : Cond.lays "InsideOut$Sheet" "InsideOut$Sheet" "bits" "I" ∈ lwg := tG 211 (by decide +kernel) (by decide +kernel)
set_option maxRecDepth 20000 in
theorem q213 : Cond.lays "InsideOut$Sheet" "InsideOut$Sheet" "size" "I" ∈ lwg := tG 213 (by decide +kernel) (by decide +kernel)
set_option maxRecDepth 20000 in
theorem q216 : Cond.fieldLink "InsideOut" 10 "InsideOut" "world" "LInsideOut$World;" ∈ lwg := tG 216 (by decide +kernel) (by decide +kernel)
set_option maxRecDepth 20000 in
theorem q217 : Cond.fieldLink "InsideOut" 16 "InsideOut" "kept" "LInsideOut$World;" ∈ lwg := tG 217 (by decide +kernel) (by decide +kernel)
set_option maxRecDepth 20000 in
theorem q218 : Cond.fieldLink "InsideOut" 19 "InsideOut" "draft" "LInsideOut$World;" ∈ lwg := tG 218 (by decide +kernel) (by decide +kernel)
set_option maxRecDepth 20000 in
theorem q219 : Cond.fieldLink "InsideOut" 22 "InsideOut" "somethingKept" "Z" ∈ lwg := tG 219 (by decide +kernel) (by decide +kernel)
set_option maxRecDepth 20000 in
theorem q220 : Cond.fieldLink "InsideOut" 29 "InsideOut" "walk" "LInsideOut$Walk;" ∈ lwg := tG 220 (by decide +kernel) (by decide +kernel)
set_option maxRecDepth 20000 in
theorem q221 : Cond.fieldLink "InsideOut" 36 "InsideOut" "tape" "LInsideOut$Tape;" ∈ lwg := tG 221 (by decide +kernel) (by decide +kernel)
set_option maxRecDepth 20000 in
theorem q222 : Cond.fieldLink "InsideOut" 45 "InsideOut" "reader" "LInsideOut$Reader;" ∈ lwg := tG 222 (by decide +kernel) (by decide +kernel)
set_option maxRecDepth 20000 in
theorem q223 : Cond.fieldLink "InsideOut" 51 "InsideOut" "sheets" "[LInsideOut$Sheet;" ∈ lwg := tG 223 (by decide +kernel) (by decide +kernel)
set_option maxRecDepth 20000 in
theorem q224 : Cond.fieldLink "InsideOut" 55 "InsideOut" "findings" "[I" ∈ lwg := tG 224 (by decide +kernel) (by decide +kernel)
set_option maxRecDepth 20000 in
theorem q225 : Cond.laysFinal "InsideOut" "InsideOut" "world" "LInsideOut$World;" ∈ lwg := tG 225 (by decide +kernel) (by decide +kernel)
set_option maxRecDepth 20000 in
theorem q227 : Cond.laysFinal "InsideOut" "InsideOut" "kept" "LInsideOut$World;" ∈ lwg := tG 227 (by decide +kernel) (by decide +kernel)
set_option maxRecDepth 20000 in
theorem q229 : Cond.laysFinal "InsideOut" "InsideOut" "draft" "LInsideOut$World;" ∈ lwg := tG 229 (by decide +kernel) (by decide +kernel)
set_option maxRecDepth 20000 in
theorem q231 : Cond.lays "InsideOut" "InsideOut" "somethingKept" "Z" ∈ lwg := tG 231 (by decide +kernel) (by decide +kernel)
set_option maxRecDepth 20000 in
theorem q233 : Cond.laysFinal "InsideOut" "InsideOut" "walk" "LInsideOut$Walk;" ∈ lwg := tG 233 (by decide +kernel) (by decide +kernel)
set_option maxRecDepth 20000 in
theorem q235 : Cond.laysFinal "InsideOut" "InsideOut" "tape" "LInsideOut$Tape;" ∈ lwg := tG 235 (by decide +kernel) (by decide +kernel)
set_option maxRecDepth 20000 in
theorem q237 : Cond.laysFinal "InsideOut" "InsideOut" "reader" "LInsideOut$Reader;" ∈ lwg := tG 237 (by decide +kernel) (by decide +kernel)
set_option maxRecDepth 20000 in
theorem q239 : Cond.laysFinal "InsideOut" "InsideOut" "sheets" "[LInsideOut$Sheet;" ∈ lwg := tG 239 (by decide +kernel) (by decide +kernel)
set_option maxRecDepth 20000 in
theorem q241 : Cond.laysFinal "InsideOut" "InsideOut" "findings" "[I" ∈ lwg := tG 241 (by decide +kernel) (by decide +kernel)
set_option maxRecDepth 20000 in
theorem q244 : Cond.methodLink "InsideOutLaw" 13 yX7_step ∈ lwg := tG 244 (by decide +kernel) (by decide +kernel)
set_option maxRecDepth 20000 in
theorem q245 : Cond.instanceMethod yX7_step ∈ lwg := tG 245 (by decide +kernel) (by decide +kernel)
set_option maxRecDepth 20000 in
theorem q246 : Cond.selects "InsideOut" yX7_step yX7_step ∈ lwg := tG 246 (by decide +kernel) (by decide +kernel)
set_option maxRecDepth 20000 in
theorem q247 : Cond.code yX7_step prog_1_method_2_code 8 (some .int) ∈ lwg := tG 247 rfl rfl
set_option maxRecDepth 20000 in
theorem q248 : Cond.methodLink "InsideOut" 60 yX7_isStep ∈ lwg := tG 248 (by decide +kernel) (by decide +kernel)
set_option maxRecDepth 20000 in
theorem q249 : Cond.static yX7_isStep ∈ lwg := tG 249 (by decide +kernel) (by decide +kernel)
set_option maxRecDepth 20000 in
theorem q250 : Cond.code yX7_isStep prog_1_method_45_code 1 (some .boolean) ∈ lwg := tG 250 rfl rfl
set_option maxRecDepth 20000 in
theorem q251 : Cond.methodLink "InsideOut" 64 yX7_finding ∈ lwg := tG 251 (by decide +kernel) (by decide +kernel)
set_option maxRecDepth 20000 in
theorem q253 : Cond.instanceMethod yX7_finding ∈ lwg := tG 253 (by decide +kernel) (by decide +kernel)
set_option maxRecDepth 20000 in
theorem q254 : Cond.code yX7_finding prog_1_method_43_code 2 (some .int) ∈ lwg := tG 254 rfl rfl
set_option maxRecDepth 20000 in
theorem q255 : Cond.constant "InsideOut" 260 (-1000001 : Int32) ∈ lwg := tG 255 (by decide +kernel) (by decide +kernel)
set_option maxRecDepth 20000 in
theorem q256 : Cond.methodLink "InsideOut" 83 yX7_isWithin ∈ lwg := tG 256 (by decide +kernel) (by decide +kernel)
set_option maxRecDepth 20000 in
theorem q257 : Cond.static yX7_isWithin ∈ lwg := tG 257 (by decide +kernel) (by decide +kernel)
set_option maxRecDepth 20000 in
theorem q258 : Cond.code yX7_isWithin prog_1_method_44_code 2 (some .boolean) ∈ lwg := tG 258 rfl rfl
set_option maxRecDepth 20000 in
theorem q259 : Cond.methodLink "InsideOutLaw" 18 yX7_stepOf ∈ lwg := tG 259 (by decide +kernel) (by decide +kernel)
set_option maxRecDepth 20000 in
theorem q260 : Cond.instanceMethod yX7_stepOf ∈ lwg := tG 260 (by decide +kernel) (by decide +kernel)
set_option maxRecDepth 20000 in
theorem q261 : Cond.selects "InsideOut" yX7_stepOf yX7_stepOf ∈ lwg := tG 261 (by decide +kernel) (by decide +kernel)
set_option maxRecDepth 20000 in
theorem q262 : Cond.code yX7_stepOf prog_1_method_3_code 4 (some .int) ∈ lwg := tG 262 rfl rfl
set_option maxRecDepth 20000 in
theorem q263 : Cond.methodLink "InsideOut" 87 yX2_windOn ∈ lwg := tG 263 (by decide +kernel) (by decide +kernel)
set_option maxRecDepth 20000 in
theorem q264 : Cond.instanceMethod yX2_windOn ∈ lwg := tG 264 (by decide +kernel) (by decide +kernel)
set_option maxRecDepth 20000 in
theorem q265 : Cond.selects "InsideOut$Street" yX2_windOn yX2_windOn ∈ lwg := tG 265 (by decide +kernel) (by decide +kernel)
set_option maxRecDepth 20000 in
theorem q266 : Cond.code yX2_windOn prog_4_method_3_code 3 (some .int) ∈ lwg := tG 266 rfl rfl
set_option maxRecDepth 20000 in
theorem q268 : Cond.methodLink "InsideOut" 90 yX6_setOf ∈ lwg := tG 268 (by decide +kernel) (by decide +kernel)
set_option maxRecDepth 20000 in
theorem q269 : Cond.instanceMethod yX6_setOf ∈ lwg := tG 269 (by decide +kernel) (by decide +kernel)
set_option maxRecDepth 20000 in
theorem q270 : Cond.selects "InsideOut$World" yX6_setOf yX6_setOf ∈ lwg := tG 270 (by decide +kernel) (by decide +kernel)
set_option maxRecDepth 20000 in
theorem q271 : Cond.code yX6_setOf prog_8_method_7_code 5 (some .int) ∈ lwg := tG 271 rfl rfl
set_option maxRecDepth 20000 in
theorem q272 : Cond.methodLink "InsideOut$World" 67 yX4_mark ∈ lwg := tG 272 (by decide +kernel) (by decide +kernel)
set_option maxRecDepth 20000 in
theorem q273 : Cond.instanceMethod yX4_mark ∈ lwg := tG 273 (by decide +kernel) (by decide +kernel)
set_option maxRecDepth 20000 in
theorem q274 : Cond.selects "InsideOut$Umbrella" yX4_mark yX4_mark ∈ lwg := tG 274 (by decide +kernel) (by decide +kernel)
set_option maxRecDepth 20000 in
theorem q275 : Cond.code yX4_mark prog_6_method_4_code 2 (some .int) ∈ lwg := tG 275 rfl rfl
set_option maxRecDepth 20000 in
theorem q276 : Cond.methodLink "InsideOutLaw" 23 yX7_weather ∈ lwg := tG 276 (by decide +kernel) (by decide +kernel)
set_option maxRecDepth 20000 in
theorem q277 : Cond.instanceMethod yX7_weather ∈ lwg := tG 277 (by decide +kernel) (by decide +kernel)
set_option maxRecDepth 20000 in
theorem q278 : Cond.selects "InsideOut" yX7_weather yX7_weather ∈ lwg := tG 278 (by decide +kernel) (by decide +kernel)
set_option maxRecDepth 20000 in
theorem q279 : Cond.code yX7_weather prog_1_method_4_code 5 (some .int) ∈ lwg := tG 279 rfl rfl
set_option maxRecDepth 20000 in
theorem q280 : Cond.methodLink "InsideOutLaw" 27 yX7_umbrella ∈ lwg := tG 280 (by decide +kernel) (by decide +kernel)
set_option maxRecDepth 20000 in
theorem q281 : Cond.instanceMethod yX7_umbrella ∈ lwg := tG 281 (by decide +kernel) (by decide +kernel)
set_option maxRecDepth 20000 in
theorem q282 : Cond.selects "InsideOut" yX7_umbrella yX7_umbrella ∈ lwg := tG 282 (by decide +kernel) (by decide +kernel)
set_option maxRecDepth 20000 in
theorem q283 : Cond.code yX7_umbrella prog_1_method_5_code 2 (some .int) ∈ lwg := tG 283 rfl rfl
set_option maxRecDepth 20000 in
theorem q284 : Cond.methodLink "InsideOut" 101 yX7_isKind ∈ lwg := tG 284 (by decide +kernel) (by decide +kernel)
set_option maxRecDepth 20000 in
theorem q285 : Cond.static yX7_isKind ∈ lwg := tG 285 (by decide +kernel) (by decide +kernel)
set_option maxRecDepth 20000 in
theorem q286 : Cond.code yX7_isKind prog_1_method_46_code 1 (some .boolean) ∈ lwg := tG 286 rfl rfl
set_option maxRecDepth 20000 in
theorem q287 : Cond.methodLink "InsideOut" 104 yX6_isFull ∈ lwg := tG 287 (by decide +kernel) (by decide +kernel)
set_option maxRecDepth 20000 in
theorem q288 : Cond.instanceMethod yX6_isFull ∈ lwg := tG 288 (by decide +kernel) (by decide +kernel)
set_option maxRecDepth 20000 in
theorem q289 : Cond.selects "InsideOut$World" yX6_isFull yX6_isFull ∈ lwg := tG 289 (by decide +kernel) (by decide +kernel)
set_option maxRecDepth 20000 in
theorem q290 : Cond.code yX6_isFull prog_8_method_3_code 1 (some .boolean) ∈ lwg := tG 290 rfl rfl
set_option maxRecDepth 20000 in
theorem q291 : Cond.methodLink "InsideOut" 108 yX6_addUmbrella ∈ lwg := tG 291 (by decide +kernel) (by decide +kernel)
set_option maxRecDepth 20000 in
theorem q292 : Cond.instanceMethod yX6_addUmbrella ∈ lwg := tG 292 (by decide +kernel) (by decide +kernel)
set_option maxRecDepth 20000 in
theorem q293 : Cond.selects "InsideOut$World" yX6_addUmbrella yX6_addUmbrella ∈ lwg := tG 293 (by decide +kernel) (by decide +kernel)
set_option maxRecDepth 20000 in
theorem q294 : Cond.code yX6_addUmbrella prog_8_method_4_code 3 (some .int) ∈ lwg := tG 294 rfl rfl
set_option maxRecDepth 20000 in
theorem q295 : Cond.methodLink "InsideOut$World" 55 yX4_beNew ∈ lwg := tG 295 (by decide +kernel) (by decide +kernel)
set_option maxRecDepth 20000 in
theorem q296 : Cond.instanceMethod yX4_beNew ∈ lwg := tG 296 (by decide +kernel) (by decide +kernel)
set_option maxRecDepth 20000 in
theorem q297 : Cond.selects "InsideOut$Umbrella" yX4_beNew yX4_beNew ∈ lwg := tG 297 (by decide +kernel) (by decide +kernel)
set_option maxRecDepth 20000 in
theorem q298 : Cond.code yX4_beNew prog_6_method_2_code 2 (none : Option Jvm.ClassFile.FieldType) ∈ lwg := tG 298 rfl rfl
set_option maxRecDepth 20000 in
theorem q299 : Cond.methodLink "InsideOutLaw" 32 yX7_of ∈ lwg := tG 299 (by decide +kernel) (by decide +kernel)
set_option maxRecDepth 20000 in
theorem q300 : Cond.instanceMethod yX7_of ∈ lwg := tG 300 (by decide +kernel) (by decide +kernel)
set_option maxRecDepth 20000 in
theorem q301 : Cond.selects "InsideOut" yX7_of yX7_of ∈ lwg := tG 301 (by decide +kernel) (by decide +kernel)
set_option maxRecDepth 20000 in
theorem q302 : Cond.code yX7_of prog_1_method_6_code 4 (some .int) ∈ lwg := tG 302 rfl rfl
set_option maxRecDepth 20000 in
theorem q303 : Cond.methodLink "InsideOut" 111 yX7_isUmbrella ∈ lwg := tG 303 (by decide +kernel) (by decide +kernel)
set_option maxRecDepth 20000 in
theorem q305 : Cond.instanceMethod yX7_isUmbrella ∈ lwg := tG 305 (by decide +kernel) (by decide +kernel)
set_option maxRecDepth 20000 in
theorem q306 : Cond.code yX7_isUmbrella prog_1_method_49_code 2 (some .boolean) ∈ lwg := tG 306 rfl rfl
set_option maxRecDepth 20000 in
theorem q307 : Cond.methodLink "InsideOut" 118 yX4_stiff ∈ lwg := tG 307 (by decide +kernel) (by decide +kernel)
set_option maxRecDepth 20000 in
theorem q308 : Cond.instanceMethod yX4_stiff ∈ lwg := tG 308 (by decide +kernel) (by decide +kernel)
set_option maxRecDepth 20000 in
theorem q309 : Cond.selects "InsideOut$Umbrella" yX4_stiff yX4_stiff ∈ lwg := tG 309 (by decide +kernel) (by decide +kernel)
set_option maxRecDepth 20000 in
theorem q310 : Cond.code yX4_stiff prog_6_method_6_code 5 (some .int) ∈ lwg := tG 310 rfl rfl
set_option maxRecDepth 20000 in
theorem q311 : Cond.methodLink "InsideOut$Umbrella" 36 yJ9_max_7cf53 ∈ lwg := tG 311 (by decide +kernel) (by decide +kernel)
set_option maxRecDepth 20000 in
theorem q312 : Cond.static yJ9_max_7cf53 ∈ lwg := tG 312 (by decide +kernel) (by decide +kernel)
set_option maxRecDepth 20000 in
theorem q313 : Cond.code yJ9_max_7cf53 prog_12_method_65_code 2 (some .int) ∈ lwg := tG 313 rfl rfl
set_option maxRecDepth 20000 in
theorem q314 : Cond.methodLink "InsideOut" 124 yX4_covers ∈ lwg := tG 314 (by decide +kernel) (by decide +kernel)
set_option maxRecDepth 20000 in
theorem q315 : Cond.instanceMethod yX4_covers ∈ lwg := tG 315 (by decide +kernel) (by decide +kernel)
set_option maxRecDepth 20000 in
theorem q316 : Cond.selects "InsideOut$Umbrella" yX4_covers yX4_covers ∈ lwg := tG 316 (by decide +kernel) (by decide +kernel)
set_option maxRecDepth 20000 in
theorem q317 : Cond.code yX4_covers prog_6_method_8_code 5 (some .int) ∈ lwg := tG 317 rfl rfl
set_option maxRecDepth 20000 in
theorem q318 : Cond.methodLink "InsideOut$Umbrella" 47 yJ9_min_7cf53 ∈ lwg := tG 318 (by decide +kernel) (by decide +kernel)
set_option maxRecDepth 20000 in
theorem q319 : Cond.static yJ9_min_7cf53 ∈ lwg := tG 319 (by decide +kernel) (by decide +kernel)
set_option maxRecDepth 20000 in
theorem q320 : Cond.code yJ9_min_7cf53 prog_12_method_69_code 2 (some .int) ∈ lwg := tG 320 rfl rfl
set_option maxRecDepth 20000 in
theorem q321 : Cond.methodLink "InsideOut" 131 yX4_pace ∈ lwg := tG 321 (by decide +kernel) (by decide +kernel)
set_option maxRecDepth 20000 in
theorem q322 : Cond.instanceMethod yX4_pace ∈ lwg := tG 322 (by decide +kernel) (by decide +kernel)
set_option maxRecDepth 20000 in
theorem q323 : Cond.selects "InsideOut$Umbrella" yX4_pace yX4_pace ∈ lwg := tG 323 (by decide +kernel) (by decide +kernel)
set_option maxRecDepth 20000 in
theorem q324 : Cond.code yX4_pace prog_6_method_9_code 2 (some .int) ∈ lwg := tG 324 rfl rfl
set_option maxRecDepth 20000 in
theorem q325 : Cond.methodLink "InsideOut" 134 yX4_mark ∈ lwg := tG 325 (by decide +kernel) (by decide +kernel)
set_option maxRecDepth 20000 in
theorem q326 : Cond.methodLink "InsideOutLaw" 36 yX7_change ∈ lwg := tG 326 (by decide +kernel) (by decide +kernel)
set_option maxRecDepth 20000 in
theorem q327 : Cond.instanceMethod yX7_change ∈ lwg := tG 327 (by decide +kernel) (by decide +kernel)
set_option maxRecDepth 20000 in
theorem q328 : Cond.selects "InsideOut" yX7_change yX7_change ∈ lwg := tG 328 (by decide +kernel) (by decide +kernel)
set_option maxRecDepth 20000 in
theorem q329 : Cond.code yX7_change prog_1_method_7_code 6 (some .int) ∈ lwg := tG 329 rfl rfl
set_option maxRecDepth 20000 in
theorem q330 : Cond.fieldLink "InsideOut" 137 "InsideOut" "GREATEST" "[I" ∈ lwg := tG 330 (by decide +kernel) (by decide +kernel)
set_option maxRecDepth 20000 in
theorem q332 : Cond.methodLink "InsideOut" 140 yX4_setMark ∈ lwg := tG 332 (by decide +kernel) (by decide +kernel)
set_option maxRecDepth 20000 in
theorem q333 : Cond.instanceMethod yX4_setMark ∈ lwg := tG 333 (by decide +kernel) (by decide +kernel)
set_option maxRecDepth 20000 in
theorem q334 : Cond.selects "InsideOut$Umbrella" yX4_setMark yX4_setMark ∈ lwg := tG 334 (by decide +kernel) (by decide +kernel)
set_option maxRecDepth 20000 in
theorem q335 : Cond.code yX4_setMark prog_6_method_5_code 3 (none : Option Jvm.ClassFile.FieldType) ∈ lwg := tG 335 rfl rfl
set_option maxRecDepth 20000 in
theorem q336 : Cond.methodLink "InsideOutLaw" 40 yX7_bears ∈ lwg := tG 336 (by decide +kernel) (by decide +kernel)
set_option maxRecDepth 20000 in
theorem q337 : Cond.instanceMethod yX7_bears ∈ lwg := tG 337 (by decide +kernel) (by decide +kernel)
set_option maxRecDepth 20000 in
theorem q338 : Cond.selects "InsideOut" yX7_bears yX7_bears ∈ lwg := tG 338 (by decide +kernel) (by decide +kernel)
set_option maxRecDepth 20000 in
theorem q339 : Cond.code yX7_bears prog_1_method_8_code 5 (some .int) ∈ lwg := tG 339 rfl rfl
set_option maxRecDepth 20000 in
theorem q340 : Cond.methodLink "InsideOut" 144 yX4_bearable ∈ lwg := tG 340 (by decide +kernel) (by decide +kernel)
set_option maxRecDepth 20000 in
theorem q341 : Cond.static yX4_bearable ∈ lwg := tG 341 (by decide +kernel) (by decide +kernel)
set_option maxRecDepth 20000 in
theorem q342 : Cond.code yX4_bearable prog_6_method_7_code 4 (some .int) ∈ lwg := tG 342 rfl rfl
set_option maxRecDepth 20000 in
theorem q343 : Cond.methodLink "InsideOutLaw" 44 yX7_go ∈ lwg := tG 343 (by decide +kernel) (by decide +kernel)
set_option maxRecDepth 20000 in
theorem q344 : Cond.instanceMethod yX7_go ∈ lwg := tG 344 (by decide +kernel) (by decide +kernel)
set_option maxRecDepth 20000 in
theorem q345 : Cond.selects "InsideOut" yX7_go yX7_go ∈ lwg := tG 345 (by decide +kernel) (by decide +kernel)
set_option maxRecDepth 20000 in
theorem q346 : Cond.code yX7_go prog_1_method_9_code 3 (some .int) ∈ lwg := tG 346 rfl rfl
set_option maxRecDepth 20000 in
theorem q347 : Cond.constant "InsideOut" 148 (99999 : Int32) ∈ lwg := tG 347 (by decide +kernel) (by decide +kernel)
set_option maxRecDepth 20000 in
theorem q348 : Cond.methodLink "InsideOut" 149 yX6_passTick ∈ lwg := tG 348 (by decide +kernel) (by decide +kernel)
set_option maxRecDepth 20000 in
theorem q349 : Cond.instanceMethod yX6_passTick ∈ lwg := tG 349 (by decide +kernel) (by decide +kernel)
set_option maxRecDepth 20000 in
theorem q350 : Cond.selects "InsideOut$World" yX6_passTick yX6_passTick ∈ lwg := tG 350 (by decide +kernel) (by decide +kernel)
set_option maxRecDepth 20000 in
theorem q351 : Cond.code yX6_passTick prog_8_method_5_code 3 (some .int) ∈ lwg := tG 351 rfl rfl
set_option maxRecDepth 20000 in
theorem q352 : Cond.methodLink "InsideOut$World" 59 yX4_walkOn ∈ lwg := tG 352 (by decide +kernel) (by decide +kernel)
set_option maxRecDepth 20000 in
theorem q353 : Cond.instanceMethod yX4_walkOn ∈ lwg := tG 353 (by decide +kernel) (by decide +kernel)
set_option maxRecDepth 20000 in
theorem q354 : Cond.selects "InsideOut$Umbrella" yX4_walkOn yX4_walkOn ∈ lwg := tG 354 (by decide +kernel) (by decide +kernel)
set_option maxRecDepth 20000 in
theorem q355 : Cond.code yX4_walkOn prog_6_method_10_code 8 (some .boolean) ∈ lwg := tG 355 rfl rfl
set_option maxRecDepth 20000 in
theorem q357 : Cond.methodLink "InsideOut$Umbrella" 61 yX2_windOn ∈ lwg := tG 357 (by decide +kernel) (by decide +kernel)
set_option maxRecDepth 20000 in
theorem q358 : Cond.methodLink "InsideOut$Umbrella" 65 yX4_stiff ∈ lwg := tG 358 (by decide +kernel) (by decide +kernel)
set_option maxRecDepth 20000 in
theorem q359 : Cond.methodLink "InsideOut$Umbrella" 69 yX4_bearable ∈ lwg := tG 359 (by decide +kernel) (by decide +kernel)
set_option maxRecDepth 20000 in
theorem q360 : Cond.methodLink "InsideOut$Umbrella" 73 yX4_holdByHabit ∈ lwg := tG 360 (by decide +kernel) (by decide +kernel)
set_option maxRecDepth 20000 in
theorem q362 : Cond.instanceMethod yX4_holdByHabit ∈ lwg := tG 362 (by decide +kernel) (by decide +kernel)
set_option maxRecDepth 20000 in
theorem q363 : Cond.code yX4_holdByHabit prog_6_method_11_code 4 (none : Option Jvm.ClassFile.FieldType) ∈ lwg := tG 363 rfl rfl
set_option maxRecDepth 20000 in
theorem q364 : Cond.methodLink "InsideOut$Umbrella" 77 yX4_turn ∈ lwg := tG 364 (by decide +kernel) (by decide +kernel)
set_option maxRecDepth 20000 in
theorem q366 : Cond.instanceMethod yX4_turn ∈ lwg := tG 366 (by decide +kernel) (by decide +kernel)
set_option maxRecDepth 20000 in
theorem q367 : Cond.code yX4_turn prog_6_method_12_code 3 (some .boolean) ∈ lwg := tG 367 rfl rfl
set_option maxRecDepth 20000 in
theorem q369 : Cond.methodLink "InsideOut$Umbrella" 84 yX4_covers ∈ lwg := tG 369 (by decide +kernel) (by decide +kernel)
set_option maxRecDepth 20000 in
theorem q370 : Cond.methodLink "InsideOut$Umbrella" 91 yX4_pace ∈ lwg := tG 370 (by decide +kernel) (by decide +kernel)
set_option maxRecDepth 20000 in
theorem q371 : Cond.methodLink "InsideOut$World" 63 yX2_nextTick ∈ lwg := tG 371 (by decide +kernel) (by decide +kernel)
set_option maxRecDepth 20000 in
theorem q372 : Cond.instanceMethod yX2_nextTick ∈ lwg := tG 372 (by decide +kernel) (by decide +kernel)
set_option maxRecDepth 20000 in
theorem q373 : Cond.selects "InsideOut$Street" yX2_nextTick yX2_nextTick ∈ lwg := tG 373 (by decide +kernel) (by decide +kernel)
set_option maxRecDepth 20000 in
theorem q374 : Cond.code yX2_nextTick prog_4_method_5_code 2 (none : Option Jvm.ClassFile.FieldType) ∈ lwg := tG 374 rfl rfl
set_option maxRecDepth 20000 in
theorem q375 : Cond.constant "InsideOut$Street" 47 (99999 : Int32) ∈ lwg := tG 375 (by decide +kernel) (by decide +kernel)
set_option maxRecDepth 20000 in
theorem q376 : Cond.methodLink "InsideOut$Street" 48 yJ9_min_7cf53 ∈ lwg := tG 376 (by decide +kernel) (by decide +kernel)
set_option maxRecDepth 20000 in
theorem q377 : Cond.methodLink "InsideOutLaw" 48 yX7_now ∈ lwg := tG 377 (by decide +kernel) (by decide +kernel)
set_option maxRecDepth 20000 in
theorem q378 : Cond.instanceMethod yX7_now ∈ lwg := tG 378 (by decide +kernel) (by decide +kernel)
set_option maxRecDepth 20000 in
theorem q379 : Cond.selects "InsideOut" yX7_now yX7_now ∈ lwg := tG 379 (by decide +kernel) (by decide +kernel)
set_option maxRecDepth 20000 in
theorem q380 : Cond.code yX7_now prog_1_method_10_code 2 (some .int) ∈ lwg := tG 380 rfl rfl
set_option maxRecDepth 20000 in
theorem q381 : Cond.methodLink "InsideOut" 152 yX6_sumOf ∈ lwg := tG 381 (by decide +kernel) (by decide +kernel)
set_option maxRecDepth 20000 in
theorem q382 : Cond.instanceMethod yX6_sumOf ∈ lwg := tG 382 (by decide +kernel) (by decide +kernel)
set_option maxRecDepth 20000 in
theorem q383 : Cond.selects "InsideOut$World" yX6_sumOf yX6_sumOf ∈ lwg := tG 383 (by decide +kernel) (by decide +kernel)
set_option maxRecDepth 20000 in
theorem q384 : Cond.code yX6_sumOf prog_8_method_8_code 4 (some .int) ∈ lwg := tG 384 rfl rfl
set_option maxRecDepth 20000 in
theorem q385 : Cond.methodLink "InsideOut" 155 yX2_roofs ∈ lwg := tG 385 (by decide +kernel) (by decide +kernel)
set_option maxRecDepth 20000 in
theorem q386 : Cond.instanceMethod yX2_roofs ∈ lwg := tG 386 (by decide +kernel) (by decide +kernel)
set_option maxRecDepth 20000 in
theorem q387 : Cond.selects "InsideOut$Street" yX2_roofs yX2_roofs ∈ lwg := tG 387 (by decide +kernel) (by decide +kernel)
set_option maxRecDepth 20000 in
theorem q388 : Cond.code yX2_roofs prog_4_method_4_code 3 (some .int) ∈ lwg := tG 388 rfl rfl
set_option maxRecDepth 20000 in
theorem q389 : Cond.methodLink "InsideOutLaw" 52 yX7_ahead ∈ lwg := tG 389 (by decide +kernel) (by decide +kernel)
set_option maxRecDepth 20000 in
theorem q390 : Cond.instanceMethod yX7_ahead ∈ lwg := tG 390 (by decide +kernel) (by decide +kernel)
set_option maxRecDepth 20000 in
theorem q391 : Cond.selects "InsideOut" yX7_ahead yX7_ahead ∈ lwg := tG 391 (by decide +kernel) (by decide +kernel)
set_option maxRecDepth 20000 in
theorem q392 : Cond.code yX7_ahead prog_1_method_11_code 5 (some .int) ∈ lwg := tG 392 rfl rfl
set_option maxRecDepth 20000 in
theorem q393 : Cond.methodLink "InsideOut" 158 yX7_startWalk ∈ lwg := tG 393 (by decide +kernel) (by decide +kernel)
set_option maxRecDepth 20000 in
theorem q395 : Cond.instanceMethod yX7_startWalk ∈ lwg := tG 395 (by decide +kernel) (by decide +kernel)
set_option maxRecDepth 20000 in
theorem q396 : Cond.code yX7_startWalk prog_1_method_51_code 2 (none : Option Jvm.ClassFile.FieldType) ∈ lwg := tG 396 rfl rfl
set_option maxRecDepth 20000 in
theorem q397 : Cond.methodLink "InsideOut" 264 yX5_start ∈ lwg := tG 397 (by decide +kernel) (by decide +kernel)
set_option maxRecDepth 20000 in
theorem q398 : Cond.instanceMethod yX5_start ∈ lwg := tG 398 (by decide +kernel) (by decide +kernel)
set_option maxRecDepth 20000 in
theorem q399 : Cond.selects "InsideOut$Walk" yX5_start yX5_start ∈ lwg := tG 399 (by decide +kernel) (by decide +kernel)
set_option maxRecDepth 20000 in
theorem q400 : Cond.code yX5_start prog_7_method_2_code 3 (none : Option Jvm.ClassFile.FieldType) ∈ lwg := tG 400 rfl rfl
set_option maxRecDepth 20000 in
theorem q401 : Cond.methodLink "InsideOut$Walk" 25 yX2_setTo ∈ lwg := tG 401 (by decide +kernel) (by decide +kernel)
set_option maxRecDepth 20000 in
theorem q402 : Cond.instanceMethod yX2_setTo ∈ lwg := tG 402 (by decide +kernel) (by decide +kernel)
set_option maxRecDepth 20000 in
theorem q403 : Cond.selects "InsideOut$Street" yX2_setTo yX2_setTo ∈ lwg := tG 403 (by decide +kernel) (by decide +kernel)
set_option maxRecDepth 20000 in
theorem q404 : Cond.code yX2_setTo prog_4_method_2_code 2 (none : Option Jvm.ClassFile.FieldType) ∈ lwg := tG 404 rfl rfl
set_option maxRecDepth 20000 in
theorem q405 : Cond.methodLink "InsideOut$Street" 37 ⟨"java/lang/System", "arraycopy", "(Ljava/lang/Object;ILjava/lang/Object;II)V"⟩ ∈ lwg := tG 405 (by decide +kernel) (by decide +kernel)
set_option maxRecDepth 20000 in
theorem q406 : Cond.static ⟨"java/lang/System", "arraycopy", "(Ljava/lang/Object;ILjava/lang/Object;II)V"⟩ ∈ lwg := tG 406 (by decide +kernel) (by decide +kernel)
set_option maxRecDepth 20000 in
theorem q407 : Cond.native ⟨"java/lang/System", "arraycopy", "(Ljava/lang/Object;ILjava/lang/Object;II)V"⟩ ∈ lwg := tG 407 (by decide +kernel) (by decide +kernel)
set_option maxRecDepth 20000 in
theorem q408 : Cond.methodLink "InsideOut$Walk" 29 yX4_setTo ∈ lwg := tG 408 (by decide +kernel) (by decide +kernel)
set_option maxRecDepth 20000 in
theorem q409 : Cond.instanceMethod yX4_setTo ∈ lwg := tG 409 (by decide +kernel) (by decide +kernel)
set_option maxRecDepth 20000 in
theorem q410 : Cond.selects "InsideOut$Umbrella" yX4_setTo yX4_setTo ∈ lwg := tG 410 (by decide +kernel) (by decide +kernel)
set_option maxRecDepth 20000 in
theorem q411 : Cond.code yX4_setTo prog_6_method_3_code 2 (none : Option Jvm.ClassFile.FieldType) ∈ lwg := tG 411 rfl rfl
set_option maxRecDepth 20000 in
theorem q412 : Cond.methodLink "InsideOut" 162 yX5_goOn ∈ lwg := tG 412 (by decide +kernel) (by decide +kernel)
set_option maxRecDepth 20000 in
theorem q413 : Cond.instanceMethod yX5_goOn ∈ lwg := tG 413 (by decide +kernel) (by decide +kernel)
set_option maxRecDepth 20000 in
theorem q414 : Cond.selects "InsideOut$Walk" yX5_goOn yX5_goOn ∈ lwg := tG 414 (by decide +kernel) (by decide +kernel)
set_option maxRecDepth 20000 in
theorem q415 : Cond.code yX5_goOn prog_7_method_4_code 1 (none : Option Jvm.ClassFile.FieldType) ∈ lwg := tG 415 rfl rfl
set_option maxRecDepth 20000 in
theorem q416 : Cond.methodLink "InsideOut$Walk" 48 yX4_walkOn ∈ lwg := tG 416 (by decide +kernel) (by decide +kernel)
set_option maxRecDepth 20000 in
theorem q417 : Cond.methodLink "InsideOut$Walk" 40 yX2_nextTick ∈ lwg := tG 417 (by decide +kernel) (by decide +kernel)
set_option maxRecDepth 20000 in
theorem q418 : Cond.methodLink "InsideOutLaw" 56 yX7_home ∈ lwg := tG 418 (by decide +kernel) (by decide +kernel)
set_option maxRecDepth 20000 in
theorem q419 : Cond.instanceMethod yX7_home ∈ lwg := tG 419 (by decide +kernel) (by decide +kernel)
set_option maxRecDepth 20000 in
theorem q420 : Cond.selects "InsideOut" yX7_home yX7_home ∈ lwg := tG 420 (by decide +kernel) (by decide +kernel)
set_option maxRecDepth 20000 in
theorem q421 : Cond.code yX7_home prog_1_method_12_code 3 (some .int) ∈ lwg := tG 421 rfl rfl
set_option maxRecDepth 20000 in
theorem q422 : Cond.methodLink "InsideOut" 169 yX5_ticksHome ∈ lwg := tG 422 (by decide +kernel) (by decide +kernel)
set_option maxRecDepth 20000 in
theorem q423 : Cond.instanceMethod yX5_ticksHome ∈ lwg := tG 423 (by decide +kernel) (by decide +kernel)
set_option maxRecDepth 20000 in
theorem q424 : Cond.selects "InsideOut$Walk" yX5_ticksHome yX5_ticksHome ∈ lwg := tG 424 (by decide +kernel) (by decide +kernel)
set_option maxRecDepth 20000 in
theorem q425 : Cond.code yX5_ticksHome prog_7_method_5_code 2 (some .int) ∈ lwg := tG 425 rfl rfl
set_option maxRecDepth 20000 in
theorem q426 : Cond.methodLink "InsideOut$Walk" 56 yX5_goOn ∈ lwg := tG 426 (by decide +kernel) (by decide +kernel)
set_option maxRecDepth 20000 in
theorem q427 : Cond.methodLink "InsideOutLaw" 60 yX7_homeWith ∈ lwg := tG 427 (by decide +kernel) (by decide +kernel)
set_option maxRecDepth 20000 in
theorem q428 : Cond.instanceMethod yX7_homeWith ∈ lwg := tG 428 (by decide +kernel) (by decide +kernel)
set_option maxRecDepth 20000 in
theorem q429 : Cond.selects "InsideOut" yX7_homeWith yX7_homeWith ∈ lwg := tG 429 (by decide +kernel) (by decide +kernel)
set_option maxRecDepth 20000 in
theorem q430 : Cond.code yX7_homeWith prog_1_method_13_code 3 (some .int) ∈ lwg := tG 430 rfl rfl
set_option maxRecDepth 20000 in
theorem q431 : Cond.methodLink "InsideOutLaw" 64 yX7_whup ∈ lwg := tG 431 (by decide +kernel) (by decide +kernel)
set_option maxRecDepth 20000 in
theorem q432 : Cond.instanceMethod yX7_whup ∈ lwg := tG 432 (by decide +kernel) (by decide +kernel)
set_option maxRecDepth 20000 in
theorem q433 : Cond.selects "InsideOut" yX7_whup yX7_whup ∈ lwg := tG 433 (by decide +kernel) (by decide +kernel)
set_option maxRecDepth 20000 in
theorem q434 : Cond.code yX7_whup prog_1_method_14_code 3 (some .int) ∈ lwg := tG 434 rfl rfl
set_option maxRecDepth 20000 in
theorem q435 : Cond.methodLink "InsideOut" 172 yX5_ticksTillTurned ∈ lwg := tG 435 (by decide +kernel) (by decide +kernel)
set_option maxRecDepth 20000 in
theorem q436 : Cond.instanceMethod yX5_ticksTillTurned ∈ lwg := tG 436 (by decide +kernel) (by decide +kernel)
set_option maxRecDepth 20000 in
theorem q437 : Cond.selects "InsideOut$Walk" yX5_ticksTillTurned yX5_ticksTillTurned ∈ lwg := tG 437 (by decide +kernel) (by decide +kernel)
set_option maxRecDepth 20000 in
theorem q438 : Cond.code yX5_ticksTillTurned prog_7_method_6_code 3 (some .int) ∈ lwg := tG 438 rfl rfl
set_option maxRecDepth 20000 in
theorem q439 : Cond.methodLink "InsideOutLaw" 68 yX7_first ∈ lwg := tG 439 (by decide +kernel) (by decide +kernel)
set_option maxRecDepth 20000 in
theorem q440 : Cond.instanceMethod yX7_first ∈ lwg := tG 440 (by decide +kernel) (by decide +kernel)
set_option maxRecDepth 20000 in
theorem q441 : Cond.selects "InsideOut" yX7_first yX7_first ∈ lwg := tG 441 (by decide +kernel) (by decide +kernel)
set_option maxRecDepth 20000 in
theorem q442 : Cond.code yX7_first prog_1_method_15_code 5 (some .int) ∈ lwg := tG 442 rfl rfl
set_option maxRecDepth 20000 in
theorem q443 : Cond.methodLink "InsideOutLaw" 73 yX7_habitFor ∈ lwg := tG 443 (by decide +kernel) (by decide +kernel)
set_option maxRecDepth 20000 in
theorem q444 : Cond.instanceMethod yX7_habitFor ∈ lwg := tG 444 (by decide +kernel) (by decide +kernel)
set_option maxRecDepth 20000 in
theorem q445 : Cond.selects "InsideOut" yX7_habitFor yX7_habitFor ∈ lwg := tG 445 (by decide +kernel) (by decide +kernel)
set_option maxRecDepth 20000 in
theorem q446 : Cond.code yX7_habitFor prog_1_method_16_code 2 (some .int) ∈ lwg := tG 446 rfl rfl
set_option maxRecDepth 20000 in
theorem q447 : Cond.methodLink "InsideOut" 178 yX7_driest ∈ lwg := tG 447 (by decide +kernel) (by decide +kernel)
set_option maxRecDepth 20000 in
theorem q449 : Cond.instanceMethod yX7_driest ∈ lwg := tG 449 (by decide +kernel) (by decide +kernel)
set_option maxRecDepth 20000 in
theorem q450 : Cond.code yX7_driest prog_1_method_52_code 7 (some .int) ∈ lwg := tG 450 rfl rfl
set_option maxRecDepth 20000 in
theorem q451 : Cond.methodLink "InsideOut" 268 yX5_choose ∈ lwg := tG 451 (by decide +kernel) (by decide +kernel)
set_option maxRecDepth 20000 in
theorem q452 : Cond.instanceMethod yX5_choose ∈ lwg := tG 452 (by decide +kernel) (by decide +kernel)
set_option maxRecDepth 20000 in
theorem q453 : Cond.selects "InsideOut$Walk" yX5_choose yX5_choose ∈ lwg := tG 453 (by decide +kernel) (by decide +kernel)
set_option maxRecDepth 20000 in
theorem q454 : Cond.code yX5_choose prog_7_method_3_code 3 (some .boolean) ∈ lwg := tG 454 rfl rfl
set_option maxRecDepth 20000 in
theorem q456 : Cond.methodLink "InsideOut$Walk" 44 yX4_setMark ∈ lwg := tG 456 (by decide +kernel) (by decide +kernel)
set_option maxRecDepth 20000 in
theorem q457 : Cond.methodLink "InsideOutLaw" 77 yX7_heldFor ∈ lwg := tG 457 (by decide +kernel) (by decide +kernel)
set_option maxRecDepth 20000 in
theorem q458 : Cond.instanceMethod yX7_heldFor ∈ lwg := tG 458 (by decide +kernel) (by decide +kernel)
set_option maxRecDepth 20000 in
theorem q459 : Cond.selects "InsideOut" yX7_heldFor yX7_heldFor ∈ lwg := tG 459 (by decide +kernel) (by decide +kernel)
set_option maxRecDepth 20000 in
theorem q460 : Cond.code yX7_heldFor prog_1_method_17_code 2 (some .int) ∈ lwg := tG 460 rfl rfl
set_option maxRecDepth 20000 in
theorem q461 : Cond.methodLink "InsideOutLaw" 81 yX7_kindFor ∈ lwg := tG 461 (by decide +kernel) (by decide +kernel)
set_option maxRecDepth 20000 in
theorem q462 : Cond.instanceMethod yX7_kindFor ∈ lwg := tG 462 (by decide +kernel) (by decide +kernel)
set_option maxRecDepth 20000 in
theorem q463 : Cond.selects "InsideOut" yX7_kindFor yX7_kindFor ∈ lwg := tG 463 (by decide +kernel) (by decide +kernel)
set_option maxRecDepth 20000 in
theorem q464 : Cond.code yX7_kindFor prog_1_method_18_code 2 (some .int) ∈ lwg := tG 464 rfl rfl
set_option maxRecDepth 20000 in
theorem q465 : Cond.methodLink "InsideOutLaw" 85 yX7_roofFor ∈ lwg := tG 465 (by decide +kernel) (by decide +kernel)
set_option maxRecDepth 20000 in
theorem q466 : Cond.instanceMethod yX7_roofFor ∈ lwg := tG 466 (by decide +kernel) (by decide +kernel)
set_option maxRecDepth 20000 in
theorem q467 : Cond.selects "InsideOut" yX7_roofFor yX7_roofFor ∈ lwg := tG 467 (by decide +kernel) (by decide +kernel)
set_option maxRecDepth 20000 in
theorem q468 : Cond.code yX7_roofFor prog_1_method_19_code 2 (some .int) ∈ lwg := tG 468 rfl rfl
set_option maxRecDepth 20000 in
theorem q469 : Cond.methodLink "InsideOutLaw" 89 yX7_waitFor ∈ lwg := tG 469 (by decide +kernel) (by decide +kernel)
set_option maxRecDepth 20000 in
theorem q470 : Cond.instanceMethod yX7_waitFor ∈ lwg := tG 470 (by decide +kernel) (by decide +kernel)
set_option maxRecDepth 20000 in
theorem q471 : Cond.selects "InsideOut" yX7_waitFor yX7_waitFor ∈ lwg := tG 471 (by decide +kernel) (by decide +kernel)
set_option maxRecDepth 20000 in
theorem q472 : Cond.code yX7_waitFor prog_1_method_20_code 2 (some .int) ∈ lwg := tG 472 rfl rfl
set_option maxRecDepth 20000 in
theorem q473 : Cond.methodLink "InsideOutLaw" 93 yX7_gustFor ∈ lwg := tG 473 (by decide +kernel) (by decide +kernel)
set_option maxRecDepth 20000 in
theorem q474 : Cond.instanceMethod yX7_gustFor ∈ lwg := tG 474 (by decide +kernel) (by decide +kernel)
set_option maxRecDepth 20000 in
theorem q475 : Cond.selects "InsideOut" yX7_gustFor yX7_gustFor ∈ lwg := tG 475 (by decide +kernel) (by decide +kernel)
set_option maxRecDepth 20000 in
theorem q476 : Cond.code yX7_gustFor prog_1_method_21_code 3 (some .int) ∈ lwg := tG 476 rfl rfl
set_option maxRecDepth 20000 in
theorem q477 : Cond.methodLink "InsideOut" 182 yX5_comesHomeUnturned ∈ lwg := tG 477 (by decide +kernel) (by decide +kernel)
set_option maxRecDepth 20000 in
theorem q478 : Cond.instanceMethod yX5_comesHomeUnturned ∈ lwg := tG 478 (by decide +kernel) (by decide +kernel)
set_option maxRecDepth 20000 in
theorem q479 : Cond.selects "InsideOut$Walk" yX5_comesHomeUnturned yX5_comesHomeUnturned ∈ lwg := tG 479 (by decide +kernel) (by decide +kernel)
set_option maxRecDepth 20000 in
theorem q480 : Cond.code yX5_comesHomeUnturned prog_7_method_7_code 3 (some .boolean) ∈ lwg := tG 480 rfl rfl
set_option maxRecDepth 20000 in
theorem q481 : Cond.methodLink "InsideOutLaw" 97 yX7_ribsFor ∈ lwg := tG 481 (by decide +kernel) (by decide +kernel)
set_option maxRecDepth 20000 in
theorem q482 : Cond.instanceMethod yX7_ribsFor ∈ lwg := tG 482 (by decide +kernel) (by decide +kernel)
set_option maxRecDepth 20000 in
theorem q483 : Cond.selects "InsideOut" yX7_ribsFor yX7_ribsFor ∈ lwg := tG 483 (by decide +kernel) (by decide +kernel)
set_option maxRecDepth 20000 in
theorem q484 : Cond.code yX7_ribsFor prog_1_method_22_code 3 (some .int) ∈ lwg := tG 484 rfl rfl
set_option maxRecDepth 20000 in
theorem q485 : Cond.methodLink "InsideOutLaw" 101 yX7_fits ∈ lwg := tG 485 (by decide +kernel) (by decide +kernel)
set_option maxRecDepth 20000 in
theorem q486 : Cond.instanceMethod yX7_fits ∈ lwg := tG 486 (by decide +kernel) (by decide +kernel)
set_option maxRecDepth 20000 in
theorem q487 : Cond.selects "InsideOut" yX7_fits yX7_fits ∈ lwg := tG 487 (by decide +kernel) (by decide +kernel)
set_option maxRecDepth 20000 in
theorem q488 : Cond.code yX7_fits prog_1_method_23_code 3 (some .int) ∈ lwg := tG 488 rfl rfl
set_option maxRecDepth 20000 in
theorem q489 : Cond.methodLink "InsideOut" 188 yX7_fitting ∈ lwg := tG 489 (by decide +kernel) (by decide +kernel)
set_option maxRecDepth 20000 in
theorem q491 : Cond.instanceMethod yX7_fitting ∈ lwg := tG 491 (by decide +kernel) (by decide +kernel)
set_option maxRecDepth 20000 in
theorem q492 : Cond.code yX7_fitting prog_1_method_53_code 7 (some .int) ∈ lwg := tG 492 rfl rfl
set_option maxRecDepth 20000 in
theorem q493 : Cond.methodLink "InsideOut" 229 yX7_isSheet ∈ lwg := tG 493 (by decide +kernel) (by decide +kernel)
set_option maxRecDepth 20000 in
theorem q494 : Cond.static yX7_isSheet ∈ lwg := tG 494 (by decide +kernel) (by decide +kernel)
set_option maxRecDepth 20000 in
theorem q495 : Cond.code yX7_isSheet prog_1_method_48_code 1 (some .boolean) ∈ lwg := tG 495 rfl rfl
set_option maxRecDepth 20000 in
theorem q496 : Cond.methodLink "InsideOut" 236 yX1_isMissing ∈ lwg := tG 496 (by decide +kernel) (by decide +kernel)
set_option maxRecDepth 20000 in
theorem q497 : Cond.instanceMethod yX1_isMissing ∈ lwg := tG 497 (by decide +kernel) (by decide +kernel)
set_option maxRecDepth 20000 in
theorem q498 : Cond.selects "InsideOut$Sheet" yX1_isMissing yX1_isMissing ∈ lwg := tG 498 (by decide +kernel) (by decide +kernel)
set_option maxRecDepth 20000 in
theorem q499 : Cond.code yX1_isMissing prog_3_method_2_code 1 (some .boolean) ∈ lwg := tG 499 rfl rfl
set_option maxRecDepth 20000 in
theorem q500 : Cond.methodLink "InsideOut" 274 yX5_follows ∈ lwg := tG 500 (by decide +kernel) (by decide +kernel)
set_option maxRecDepth 20000 in
theorem q501 : Cond.instanceMethod yX5_follows ∈ lwg := tG 501 (by decide +kernel) (by decide +kernel)
set_option maxRecDepth 20000 in
theorem q502 : Cond.selects "InsideOut$Walk" yX5_follows yX5_follows ∈ lwg := tG 502 (by decide +kernel) (by decide +kernel)
set_option maxRecDepth 20000 in
theorem q503 : Cond.code yX5_follows prog_7_method_8_code 3 (some .boolean) ∈ lwg := tG 503 rfl rfl
set_option maxRecDepth 20000 in
theorem q504 : Cond.methodLink "InsideOutLaw" 105 yX7_kinds ∈ lwg := tG 504 (by decide +kernel) (by decide +kernel)
set_option maxRecDepth 20000 in
theorem q505 : Cond.instanceMethod yX7_kinds ∈ lwg := tG 505 (by decide +kernel) (by decide +kernel)
set_option maxRecDepth 20000 in
theorem q506 : Cond.selects "InsideOut" yX7_kinds yX7_kinds ∈ lwg := tG 506 (by decide +kernel) (by decide +kernel)
set_option maxRecDepth 20000 in
theorem q507 : Cond.code yX7_kinds prog_1_method_24_code 3 (some .int) ∈ lwg := tG 507 rfl rfl
set_option maxRecDepth 20000 in
theorem q508 : Cond.methodLink "InsideOutLaw" 109 yX7_gusts ∈ lwg := tG 508 (by decide +kernel) (by decide +kernel)
set_option maxRecDepth 20000 in
theorem q509 : Cond.instanceMethod yX7_gusts ∈ lwg := tG 509 (by decide +kernel) (by decide +kernel)
set_option maxRecDepth 20000 in
theorem q510 : Cond.selects "InsideOut" yX7_gusts yX7_gusts ∈ lwg := tG 510 (by decide +kernel) (by decide +kernel)
set_option maxRecDepth 20000 in
theorem q511 : Cond.code yX7_gusts prog_1_method_25_code 6 (some .int) ∈ lwg := tG 511 rfl rfl
set_option maxRecDepth 20000 in
theorem q512 : Cond.methodLink "InsideOut" 192 yX6_draw ∈ lwg := tG 512 (by decide +kernel) (by decide +kernel)
set_option maxRecDepth 20000 in
theorem q513 : Cond.instanceMethod yX6_draw ∈ lwg := tG 513 (by decide +kernel) (by decide +kernel)
set_option maxRecDepth 20000 in
theorem q514 : Cond.selects "InsideOut$World" yX6_draw yX6_draw ∈ lwg := tG 514 (by decide +kernel) (by decide +kernel)
set_option maxRecDepth 20000 in
theorem q515 : Cond.code yX6_draw prog_8_method_6_code 1 (some .int) ∈ lwg := tG 515 rfl rfl
set_option maxRecDepth 20000 in
theorem q516 : Cond.constant "InsideOut$World" 66 (1103515245 : Int32) ∈ lwg := tG 516 (by decide +kernel) (by decide +kernel)
set_option maxRecDepth 20000 in
theorem q517 : Cond.methodLink "InsideOutLaw" 113 yX7_odds ∈ lwg := tG 517 (by decide +kernel) (by decide +kernel)
set_option maxRecDepth 20000 in
theorem q518 : Cond.instanceMethod yX7_odds ∈ lwg := tG 518 (by decide +kernel) (by decide +kernel)
set_option maxRecDepth 20000 in
theorem q519 : Cond.selects "InsideOut" yX7_odds yX7_odds ∈ lwg := tG 519 (by decide +kernel) (by decide +kernel)
set_option maxRecDepth 20000 in
theorem q520 : Cond.code yX7_odds prog_1_method_26_code 10 (some .long) ∈ lwg := tG 520 rfl rfl
set_option maxRecDepth 20000 in
theorem q521 : Cond.methodLink "InsideOut" 195 yJ6_bitCount_0f7a4 ∈ lwg := tG 521 (by decide +kernel) (by decide +kernel)
set_option maxRecDepth 20000 in
theorem q522 : Cond.static yJ6_bitCount_0f7a4 ∈ lwg := tG 522 (by decide +kernel) (by decide +kernel)
set_option maxRecDepth 20000 in
theorem q523 : Cond.code yJ6_bitCount_0f7a4 prog_11_method_49_code 1 (some .int) ∈ lwg := tG 523 rfl rfl
set_option maxRecDepth 20000 in
theorem q524 : Cond.constant "java/lang/Integer" 265 (1431655765 : Int32) ∈ lwg := tG 524 (by decide +kernel) (by decide +kernel)
set_option maxRecDepth 20000 in
theorem q525 : Cond.constant "java/lang/Integer" 266 (858993459 : Int32) ∈ lwg := tG 525 (by decide +kernel) (by decide +kernel)
set_option maxRecDepth 20000 in
theorem q526 : Cond.constant "java/lang/Integer" 267 (252645135 : Int32) ∈ lwg := tG 526 (by decide +kernel) (by decide +kernel)
set_option maxRecDepth 20000 in
theorem q527 : Cond.methodLink "InsideOutLaw" 118 yX7_seed ∈ lwg := tG 527 (by decide +kernel) (by decide +kernel)
set_option maxRecDepth 20000 in
theorem q528 : Cond.instanceMethod yX7_seed ∈ lwg := tG 528 (by decide +kernel) (by decide +kernel)
set_option maxRecDepth 20000 in
theorem q529 : Cond.selects "InsideOut" yX7_seed yX7_seed ∈ lwg := tG 529 (by decide +kernel) (by decide +kernel)
set_option maxRecDepth 20000 in
theorem q530 : Cond.code yX7_seed prog_1_method_27_code 3 (some .int) ∈ lwg := tG 530 rfl rfl
set_option maxRecDepth 20000 in
theorem q531 : Cond.methodLink "InsideOutLaw" 122 yX7_feed ∈ lwg := tG 531 (by decide +kernel) (by decide +kernel)
set_option maxRecDepth 20000 in
theorem q532 : Cond.instanceMethod yX7_feed ∈ lwg := tG 532 (by decide +kernel) (by decide +kernel)
set_option maxRecDepth 20000 in
theorem q533 : Cond.selects "InsideOut" yX7_feed yX7_feed ∈ lwg := tG 533 (by decide +kernel) (by decide +kernel)
set_option maxRecDepth 20000 in
theorem q534 : Cond.code yX7_feed prog_1_method_28_code 3 (some .int) ∈ lwg := tG 534 rfl rfl
set_option maxRecDepth 20000 in
theorem q535 : Cond.methodLink "InsideOut" 206 yX3_append ∈ lwg := tG 535 (by decide +kernel) (by decide +kernel)
set_option maxRecDepth 20000 in
theorem q536 : Cond.instanceMethod yX3_append ∈ lwg := tG 536 (by decide +kernel) (by decide +kernel)
set_option maxRecDepth 20000 in
theorem q537 : Cond.selects "InsideOut$Tape" yX3_append yX3_append ∈ lwg := tG 537 (by decide +kernel) (by decide +kernel)
set_option maxRecDepth 20000 in
theorem q538 : Cond.code yX3_append prog_5_method_2_code 4 (none : Option Jvm.ClassFile.FieldType) ∈ lwg := tG 538 rfl rfl
set_option maxRecDepth 20000 in
theorem q539 : Cond.methodLink "InsideOutLaw" 126 yX7_wipe ∈ lwg := tG 539 (by decide +kernel) (by decide +kernel)
set_option maxRecDepth 20000 in
theorem q540 : Cond.instanceMethod yX7_wipe ∈ lwg := tG 540 (by decide +kernel) (by decide +kernel)
set_option maxRecDepth 20000 in
theorem q541 : Cond.selects "InsideOut" yX7_wipe yX7_wipe ∈ lwg := tG 541 (by decide +kernel) (by decide +kernel)
set_option maxRecDepth 20000 in
theorem q542 : Cond.code yX7_wipe prog_1_method_29_code 2 (some .int) ∈ lwg := tG 542 rfl rfl
set_option maxRecDepth 20000 in
theorem q543 : Cond.methodLink "InsideOutLaw" 130 yX7_text ∈ lwg := tG 543 (by decide +kernel) (by decide +kernel)
set_option maxRecDepth 20000 in
theorem q544 : Cond.instanceMethod yX7_text ∈ lwg := tG 544 (by decide +kernel) (by decide +kernel)
set_option maxRecDepth 20000 in
theorem q545 : Cond.selects "InsideOut" yX7_text yX7_text ∈ lwg := tG 545 (by decide +kernel) (by decide +kernel)
set_option maxRecDepth 20000 in
theorem q546 : Cond.code yX7_text prog_1_method_30_code 2 (some .int) ∈ lwg := tG 546 rfl rfl
set_option maxRecDepth 20000 in
theorem q547 : Cond.methodLink "InsideOut" 209 yX6_become ∈ lwg := tG 547 (by decide +kernel) (by decide +kernel)
set_option maxRecDepth 20000 in
theorem q548 : Cond.instanceMethod yX6_become ∈ lwg := tG 548 (by decide +kernel) (by decide +kernel)
set_option maxRecDepth 20000 in
theorem q549 : Cond.selects "InsideOut$World" yX6_become yX6_become ∈ lwg := tG 549 (by decide +kernel) (by decide +kernel)
set_option maxRecDepth 20000 in
theorem q550 : Cond.code yX6_become prog_8_method_2_code 3 (none : Option Jvm.ClassFile.FieldType) ∈ lwg := tG 550 rfl rfl
set_option maxRecDepth 20000 in
theorem q551 : Cond.methodLink "InsideOut$World" 42 yX2_setTo ∈ lwg := tG 551 (by decide +kernel) (by decide +kernel)
set_option maxRecDepth 20000 in
theorem q552 : Cond.methodLink "InsideOut$World" 46 yX4_setTo ∈ lwg := tG 552 (by decide +kernel) (by decide +kernel)
set_option maxRecDepth 20000 in
theorem q553 : Cond.methodLink "InsideOut$World" 49 ⟨"java/lang/System", "arraycopy", "(Ljava/lang/Object;ILjava/lang/Object;II)V"⟩ ∈ lwg := tG 553 (by decide +kernel) (by decide +kernel)
set_option maxRecDepth 20000 in
theorem q554 : Cond.methodLink "InsideOut" 213 yX0_readInto ∈ lwg := tG 554 (by decide +kernel) (by decide +kernel)
set_option maxRecDepth 20000 in
theorem q555 : Cond.instanceMethod yX0_readInto ∈ lwg := tG 555 (by decide +kernel) (by decide +kernel)
set_option maxRecDepth 20000 in
theorem q556 : Cond.selects "InsideOut$Reader" yX0_readInto yX0_readInto ∈ lwg := tG 556 (by decide +kernel) (by decide +kernel)
set_option maxRecDepth 20000 in
theorem q557 : Cond.code yX0_readInto prog_2_method_2_code 3 (some .int) ∈ lwg := tG 557 rfl rfl
set_option maxRecDepth 20000 in
theorem q558 : Cond.methodLink "InsideOut$Reader" 28 yX0_readToken ∈ lwg := tG 558 (by decide +kernel) (by decide +kernel)
set_option maxRecDepth 20000 in
theorem q560 : Cond.instanceMethod yX0_readToken ∈ lwg := tG 560 (by decide +kernel) (by decide +kernel)
set_option maxRecDepth 20000 in
theorem q561 : Cond.code yX0_readToken prog_2_method_11_code 3 (none : Option Jvm.ClassFile.FieldType) ∈ lwg := tG 561 rfl rfl
set_option maxRecDepth 20000 in
theorem q562 : Cond.methodLink "InsideOut$Reader" 140 yX3_byteAt ∈ lwg := tG 562 (by decide +kernel) (by decide +kernel)
set_option maxRecDepth 20000 in
theorem q563 : Cond.instanceMethod yX3_byteAt ∈ lwg := tG 563 (by decide +kernel) (by decide +kernel)
set_option maxRecDepth 20000 in
theorem q564 : Cond.selects "InsideOut$Tape" yX3_byteAt yX3_byteAt ∈ lwg := tG 564 (by decide +kernel) (by decide +kernel)
set_option maxRecDepth 20000 in
theorem q565 : Cond.code yX3_byteAt prog_5_method_3_code 2 (some .int) ∈ lwg := tG 565 rfl rfl
set_option maxRecDepth 20000 in
theorem q566 : Cond.methodLink "InsideOut$Reader" 147 yX0_tokenOf ∈ lwg := tG 566 (by decide +kernel) (by decide +kernel)
set_option maxRecDepth 20000 in
theorem q567 : Cond.static yX0_tokenOf ∈ lwg := tG 567 (by decide +kernel) (by decide +kernel)
set_option maxRecDepth 20000 in
theorem q568 : Cond.code yX0_tokenOf prog_2_method_12_code 1 (some .int) ∈ lwg := tG 568 rfl rfl
set_option maxRecDepth 20000 in
theorem q569 : Cond.methodLink "InsideOut$Reader" 150 yJ9_min_7cf53 ∈ lwg := tG 569 (by decide +kernel) (by decide +kernel)
set_option maxRecDepth 20000 in
theorem q570 : Cond.methodLink "InsideOut$Reader" 31 yX0_readItem ∈ lwg := tG 570 (by decide +kernel) (by decide +kernel)
set_option maxRecDepth 20000 in
theorem q572 : Cond.instanceMethod yX0_readItem ∈ lwg := tG 572 (by decide +kernel) (by decide +kernel)
set_option maxRecDepth 20000 in
theorem q573 : Cond.code yX0_readItem prog_2_method_3_code 3 (some .boolean) ∈ lwg := tG 573 rfl rfl
set_option maxRecDepth 20000 in
theorem q574 : Cond.methodLink "InsideOut$Reader" 35 yX0_wordOfKind ∈ lwg := tG 574 (by decide +kernel) (by decide +kernel)
set_option maxRecDepth 20000 in
theorem q575 : Cond.static yX0_wordOfKind ∈ lwg := tG 575 (by decide +kernel) (by decide +kernel)
set_option maxRecDepth 20000 in
theorem q576 : Cond.code yX0_wordOfKind prog_2_method_13_code 1 (some (.object "java/lang/String")) ∈ lwg := tG 576 rfl rfl
set_option maxRecDepth 20000 in
theorem q584 : Cond.methodLink "InsideOut$Reader" 39 yX0_isWord ∈ lwg := tG 584 (by decide +kernel) (by decide +kernel)
set_option maxRecDepth 20000 in
theorem q586 : Cond.instanceMethod yX0_isWord ∈ lwg := tG 586 (by decide +kernel) (by decide +kernel)
set_option maxRecDepth 20000 in
theorem q587 : Cond.code yX0_isWord prog_2_method_10_code 3 (some .boolean) ∈ lwg := tG 587 rfl rfl
set_option maxRecDepth 20000 in
theorem q588 : Cond.methodLink "InsideOut$Reader" 130 yJ0_length_8abf5 ∈ lwg := tG 588 (by decide +kernel) (by decide +kernel)
set_option maxRecDepth 20000 in
theorem q589 : Cond.instanceMethod yJ0_length_8abf5 ∈ lwg := tG 589 (by decide +kernel) (by decide +kernel)
set_option maxRecDepth 20000 in
theorem q590 : Cond.selects "java/lang/String" yJ0_length_8abf5 yJ0_length_8abf5 ∈ lwg := tG 590 (by decide +kernel) (by decide +kernel)
set_option maxRecDepth 20000 in
theorem q591 : Cond.code yJ0_length_8abf5 prog_13_method_54_code 1 (some .int) ∈ lwg := tG 591 rfl rfl
set_option maxRecDepth 20000 in
theorem q592 : Cond.methodLink "java/lang/String" 335 yJ0_coder_7d493 ∈ lwg := tG 592 (by decide +kernel) (by decide +kernel)
set_option maxRecDepth 20000 in
theorem q593 : Cond.instanceMethod yJ0_coder_7d493 ∈ lwg := tG 593 (by decide +kernel) (by decide +kernel)
set_option maxRecDepth 20000 in
theorem q594 : Cond.selects "java/lang/String" yJ0_coder_7d493 yJ0_coder_7d493 ∈ lwg := tG 594 (by decide +kernel) (by decide +kernel)
set_option maxRecDepth 20000 in
theorem q595 : Cond.code yJ0_coder_7d493 prog_13_method_152_code 1 (some .byte) ∈ lwg := tG 595 rfl rfl
set_option maxRecDepth 20000 in
theorem q596 : Cond.fieldLink "java/lang/String" 38 "java/lang/String" "COMPACT_STRINGS" "Z" ∈ lwg := tG 596 (by decide +kernel) (by decide +kernel)
set_option maxRecDepth 20000 in
theorem q598 : Cond.methodLink "InsideOut$Reader" 136 yJ0_charAt_5068e ∈ lwg := tG 598 (by decide +kernel) (by decide +kernel)
set_option maxRecDepth 20000 in
theorem q599 : Cond.instanceMethod yJ0_charAt_5068e ∈ lwg := tG 599 (by decide +kernel) (by decide +kernel)
set_option maxRecDepth 20000 in
theorem q600 : Cond.selects "java/lang/String" yJ0_charAt_5068e yJ0_charAt_5068e ∈ lwg := tG 600 (by decide +kernel) (by decide +kernel)
set_option maxRecDepth 20000 in
theorem q601 : Cond.code yJ0_charAt_5068e prog_13_method_56_code 2 (some .char) ∈ lwg := tG 601 rfl rfl
set_option maxRecDepth 20000 in
theorem q602 : Cond.methodLink "java/lang/String" 492 yJ0_isLatin1_aae02 ∈ lwg := tG 602 (by decide +kernel) (by decide +kernel)
set_option maxRecDepth 20000 in
theorem q603 : Cond.instanceMethod yJ0_isLatin1_aae02 ∈ lwg := tG 603 (by decide +kernel) (by decide +kernel)
set_option maxRecDepth 20000 in
theorem q604 : Cond.selects "java/lang/String" yJ0_isLatin1_aae02 yJ0_isLatin1_aae02 ∈ lwg := tG 604 (by decide +kernel) (by decide +kernel)
set_option maxRecDepth 20000 in
theorem q605 : Cond.code yJ0_isLatin1_aae02 prog_13_method_154_code 1 (some .boolean) ∈ lwg := tG 605 rfl rfl
set_option maxRecDepth 20000 in
theorem q606 : Cond.methodLink "java/lang/String" 495 yJ1_charAt_3b067 ∈ lwg := tG 606 (by decide +kernel) (by decide +kernel)
set_option maxRecDepth 20000 in
theorem q607 : Cond.static yJ1_charAt_3b067 ∈ lwg := tG 607 (by decide +kernel) (by decide +kernel)
set_option maxRecDepth 20000 in
theorem q608 : Cond.code yJ1_charAt_3b067 prog_14_method_2_code 2 (some .char) ∈ lwg := tG 608 rfl rfl
set_option maxRecDepth 20000 in
theorem q609 : Cond.methodLink "java/lang/StringLatin1" 9 yJ0_checkIndex_df160 ∈ lwg := tG 609 (by decide +kernel) (by decide +kernel)
set_option maxRecDepth 20000 in
theorem q610 : Cond.static yJ0_checkIndex_df160 ∈ lwg := tG 610 (by decide +kernel) (by decide +kernel)
set_option maxRecDepth 20000 in
theorem q611 : Cond.code yJ0_checkIndex_df160 prog_13_method_155_code 2 (none : Option Jvm.ClassFile.FieldType) ∈ lwg := tG 611 rfl rfl
set_option maxRecDepth 20000 in
theorem q612 : Cond.fieldLink "java/lang/String" 1053 "jdk/internal/util/Preconditions" "SIOOBE_FORMATTER" "Ljava/util/function/BiFunction;" ∈ lwg := tG 612 (by decide +kernel) (by decide +kernel)
set_option maxRecDepth 20000 in
theorem q614 : Cond.methodLink "java/lang/String" 1059 yJ3_checkIndex_8e157 ∈ lwg := tG 614 (by decide +kernel) (by decide +kernel)
set_option maxRecDepth 20000 in
theorem q615 : Cond.static yJ3_checkIndex_8e157 ∈ lwg := tG 615 (by decide +kernel) (by decide +kernel)
set_option maxRecDepth 20000 in
theorem q616 : Cond.code yJ3_checkIndex_8e157 prog_18_method_11_code 3 (some .int) ∈ lwg := tG 616 rfl rfl
set_option maxRecDepth 20000 in
theorem q617 : Cond.methodLink "java/lang/String" 498 yJ2_charAt_3b067 ∈ lwg := tG 617 (by decide +kernel) (by decide +kernel)
set_option maxRecDepth 20000 in
theorem q618 : Cond.static yJ2_charAt_3b067 ∈ lwg := tG 618 (by decide +kernel) (by decide +kernel)
set_option maxRecDepth 20000 in
theorem q619 : Cond.code yJ2_charAt_3b067 prog_15_method_83_code 2 (some .char) ∈ lwg := tG 619 rfl rfl
set_option maxRecDepth 20000 in
theorem q620 : Cond.methodLink "java/lang/StringUTF16" 67 yJ2_checkIndex_2214a ∈ lwg := tG 620 (by decide +kernel) (by decide +kernel)
set_option maxRecDepth 20000 in
theorem q621 : Cond.static yJ2_checkIndex_2214a ∈ lwg := tG 621 (by decide +kernel) (by decide +kernel)
set_option maxRecDepth 20000 in
theorem q622 : Cond.code yJ2_checkIndex_2214a prog_15_method_91_code 2 (none : Option Jvm.ClassFile.FieldType) ∈ lwg := tG 622 rfl rfl
set_option maxRecDepth 20000 in
theorem q623 : Cond.methodLink "java/lang/StringUTF16" 48 yJ2_length_9d52b ∈ lwg := tG 623 (by decide +kernel) (by decide +kernel)
set_option maxRecDepth 20000 in
theorem q624 : Cond.static yJ2_length_9d52b ∈ lwg := tG 624 (by decide +kernel) (by decide +kernel)
set_option maxRecDepth 20000 in
theorem q625 : Cond.code yJ2_length_9d52b prog_15_method_6_code 1 (some .int) ∈ lwg := tG 625 rfl rfl
set_option maxRecDepth 20000 in
theorem q626 : Cond.methodLink "java/lang/StringUTF16" 414 yJ0_checkIndex_df160 ∈ lwg := tG 626 (by decide +kernel) (by decide +kernel)
set_option maxRecDepth 20000 in
theorem q627 : Cond.methodLink "java/lang/StringUTF16" 71 yJ2_getChar_3b067 ∈ lwg := tG 627 (by decide +kernel) (by decide +kernel)
set_option maxRecDepth 20000 in
theorem q628 : Cond.static yJ2_getChar_3b067 ∈ lwg := tG 628 (by decide +kernel) (by decide +kernel)
set_option maxRecDepth 20000 in
theorem q629 : Cond.code yJ2_getChar_3b067 prog_15_method_5_code 2 (some .char) ∈ lwg := tG 629 rfl rfl
set_option maxRecDepth 20000 in
theorem q630 : Cond.fieldLink "java/lang/StringUTF16" 44 "java/lang/StringUTF16" "$assertionsDisabled" "Z" ∈ lwg := tG 630 (by decide +kernel) (by decide +kernel)
set_option maxRecDepth 20000 in
theorem q632 : Cond.fieldLink "java/lang/StringUTF16" 59 "java/lang/StringUTF16" "HI_BYTE_SHIFT" "I" ∈ lwg := tG 632 (by decide +kernel) (by decide +kernel)
set_option maxRecDepth 20000 in
theorem q634 : Cond.fieldLink "java/lang/StringUTF16" 63 "java/lang/StringUTF16" "LO_BYTE_SHIFT" "I" ∈ lwg := tG 634 (by decide +kernel) (by decide +kernel)
set_option maxRecDepth 20000 in
theorem q636 : Cond.methodLink "InsideOut$Reader" 43 yX0_readUmbrella ∈ lwg := tG 636 (by decide +kernel) (by decide +kernel)
set_option maxRecDepth 20000 in
theorem q638 : Cond.instanceMethod yX0_readUmbrella ∈ lwg := tG 638 (by decide +kernel) (by decide +kernel)
set_option maxRecDepth 20000 in
theorem q639 : Cond.code yX0_readUmbrella prog_2_method_4_code 4 (some .boolean) ∈ lwg := tG 639 rfl rfl
set_option maxRecDepth 20000 in
theorem q640 : Cond.methodLink "InsideOut$Reader" 75 yX6_isFull ∈ lwg := tG 640 (by decide +kernel) (by decide +kernel)
set_option maxRecDepth 20000 in
theorem q641 : Cond.methodLink "InsideOut$Reader" 83 yX6_addUmbrella ∈ lwg := tG 641 (by decide +kernel) (by decide +kernel)
set_option maxRecDepth 20000 in
theorem q643 : Cond.methodLink "InsideOut$Reader" 89 yX0_readMark ∈ lwg := tG 643 (by decide +kernel) (by decide +kernel)
set_option maxRecDepth 20000 in
theorem q645 : Cond.instanceMethod yX0_readMark ∈ lwg := tG 645 (by decide +kernel) (by decide +kernel)
set_option maxRecDepth 20000 in
theorem q646 : Cond.code yX0_readMark prog_2_method_5_code 5 (some .boolean) ∈ lwg := tG 646 rfl rfl
set_option maxRecDepth 20000 in
theorem q648 : Cond.methodLink "InsideOut$Reader" 103 yX0_nextNumber ∈ lwg := tG 648 (by decide +kernel) (by decide +kernel)
set_option maxRecDepth 20000 in
theorem q650 : Cond.instanceMethod yX0_nextNumber ∈ lwg := tG 650 (by decide +kernel) (by decide +kernel)
set_option maxRecDepth 20000 in
theorem q651 : Cond.code yX0_nextNumber prog_2_method_9_code 2 (some .int) ∈ lwg := tG 651 rfl rfl
set_option maxRecDepth 20000 in
theorem q652 : Cond.methodLink "InsideOut$Reader" 106 yX4_setMark ∈ lwg := tG 652 (by decide +kernel) (by decide +kernel)
set_option maxRecDepth 20000 in
theorem q656 : Cond.methodLink "InsideOut$Reader" 47 yX0_wordOfFrom ∈ lwg := tG 656 (by decide +kernel) (by decide +kernel)
set_option maxRecDepth 20000 in
theorem q657 : Cond.static yX0_wordOfFrom ∈ lwg := tG 657 (by decide +kernel) (by decide +kernel)
set_option maxRecDepth 20000 in
theorem q658 : Cond.code yX0_wordOfFrom prog_2_method_14_code 1 (some (.object "java/lang/String")) ∈ lwg := tG 658 rfl rfl
set_option maxRecDepth 20000 in
theorem q662 : Cond.methodLink "InsideOut$Reader" 56 yX0_readWind ∈ lwg := tG 662 (by decide +kernel) (by decide +kernel)
set_option maxRecDepth 20000 in
theorem q664 : Cond.instanceMethod yX0_readWind ∈ lwg := tG 664 (by decide +kernel) (by decide +kernel)
set_option maxRecDepth 20000 in
theorem q665 : Cond.code yX0_readWind prog_2_method_6_code 5 (some .boolean) ∈ lwg := tG 665 rfl rfl
set_option maxRecDepth 20000 in
theorem q668 : Cond.methodLink "InsideOut$Reader" 62 yX0_readRoof ∈ lwg := tG 668 (by decide +kernel) (by decide +kernel)
set_option maxRecDepth 20000 in
theorem q670 : Cond.instanceMethod yX0_readRoof ∈ lwg := tG 670 (by decide +kernel) (by decide +kernel)
set_option maxRecDepth 20000 in
theorem q671 : Cond.code yX0_readRoof prog_2_method_7_code 4 (some .boolean) ∈ lwg := tG 671 rfl rfl
set_option maxRecDepth 20000 in
theorem q674 : Cond.methodLink "InsideOut$Reader" 69 yX0_readWeather ∈ lwg := tG 674 (by decide +kernel) (by decide +kernel)
set_option maxRecDepth 20000 in
theorem q676 : Cond.instanceMethod yX0_readWeather ∈ lwg := tG 676 (by decide +kernel) (by decide +kernel)
set_option maxRecDepth 20000 in
theorem q677 : Cond.code yX0_readWeather prog_2_method_8_code 4 (some .boolean) ∈ lwg := tG 677 rfl rfl
set_option maxRecDepth 20000 in
theorem q679 : Cond.arrayClass .byte ∈ lwg := tG 679 (by decide +kernel) (by decide +kernel)
set_option maxRecDepth 20000 in
theorem q680 : Cond.methodLink "InsideOutLaw" 134 yX7_hold ∈ lwg := tG 680 (by decide +kernel) (by decide +kernel)
set_option maxRecDepth 20000 in
theorem q681 : Cond.instanceMethod yX7_hold ∈ lwg := tG 681 (by decide +kernel) (by decide +kernel)
set_option maxRecDepth 20000 in
theorem q682 : Cond.selects "InsideOut" yX7_hold yX7_hold ∈ lwg := tG 682 (by decide +kernel) (by decide +kernel)
set_option maxRecDepth 20000 in
theorem q683 : Cond.code yX7_hold prog_1_method_31_code 3 (some .int) ∈ lwg := tG 683 rfl rfl
set_option maxRecDepth 20000 in
theorem q684 : Cond.methodLink "InsideOut" 217 yX7_isSpot ∈ lwg := tG 684 (by decide +kernel) (by decide +kernel)
set_option maxRecDepth 20000 in
theorem q685 : Cond.static yX7_isSpot ∈ lwg := tG 685 (by decide +kernel) (by decide +kernel)
set_option maxRecDepth 20000 in
theorem q686 : Cond.code yX7_isSpot prog_1_method_47_code 1 (some .boolean) ∈ lwg := tG 686 rfl rfl
set_option maxRecDepth 20000 in
theorem q687 : Cond.methodLink "InsideOutLaw" 138 yX7_as ∈ lwg := tG 687 (by decide +kernel) (by decide +kernel)
set_option maxRecDepth 20000 in
theorem q688 : Cond.instanceMethod yX7_as ∈ lwg := tG 688 (by decide +kernel) (by decide +kernel)
set_option maxRecDepth 20000 in
theorem q689 : Cond.selects "InsideOut" yX7_as yX7_as ∈ lwg := tG 689 (by decide +kernel) (by decide +kernel)
set_option maxRecDepth 20000 in
theorem q690 : Cond.code yX7_as prog_1_method_32_code 4 (some .int) ∈ lwg := tG 690 rfl rfl
set_option maxRecDepth 20000 in
theorem q691 : Cond.methodLink "InsideOut" 226 yX7_isUnder ∈ lwg := tG 691 (by decide +kernel) (by decide +kernel)
set_option maxRecDepth 20000 in
theorem q692 : Cond.static yX7_isUnder ∈ lwg := tG 692 (by decide +kernel) (by decide +kernel)
set_option maxRecDepth 20000 in
theorem q693 : Cond.code yX7_isUnder prog_1_method_50_code 4 (some .boolean) ∈ lwg := tG 693 rfl rfl
set_option maxRecDepth 20000 in
theorem q694 : Cond.fieldLink "InsideOut" 261 "InsideOut" "KIND_ABOVE" "[I" ∈ lwg := tG 694 (by decide +kernel) (by decide +kernel)
set_option maxRecDepth 20000 in
theorem q696 : Cond.methodLink "InsideOutLaw" 142 yX7_sheet ∈ lwg := tG 696 (by decide +kernel) (by decide +kernel)
set_option maxRecDepth 20000 in
theorem q697 : Cond.instanceMethod yX7_sheet ∈ lwg := tG 697 (by decide +kernel) (by decide +kernel)
set_option maxRecDepth 20000 in
theorem q698 : Cond.selects "InsideOut" yX7_sheet yX7_sheet ∈ lwg := tG 698 (by decide +kernel) (by decide +kernel)
set_option maxRecDepth 20000 in
theorem q699 : Cond.code yX7_sheet prog_1_method_33_code 4 (some .int) ∈ lwg := tG 699 rfl rfl
set_option maxRecDepth 20000 in
theorem q700 : Cond.methodLink "InsideOut" 232 yX1_clear ∈ lwg := tG 700 (by decide +kernel) (by decide +kernel)
set_option maxRecDepth 20000 in
theorem q701 : Cond.instanceMethod yX1_clear ∈ lwg := tG 701 (by decide +kernel) (by decide +kernel)
set_option maxRecDepth 20000 in
theorem q702 : Cond.selects "InsideOut$Sheet" yX1_clear yX1_clear ∈ lwg := tG 702 (by decide +kernel) (by decide +kernel)
set_option maxRecDepth 20000 in
theorem q703 : Cond.code yX1_clear prog_3_method_3_code 3 (none : Option Jvm.ClassFile.FieldType) ∈ lwg := tG 703 rfl rfl
set_option maxRecDepth 20000 in
theorem q704 : Cond.methodLink "InsideOut$Sheet" 22 yJ7_fill_53178 ∈ lwg := tG 704 (by decide +kernel) (by decide +kernel)
set_option maxRecDepth 20000 in
theorem q705 : Cond.methodLink "InsideOutLaw" 146 yX7_write ∈ lwg := tG 705 (by decide +kernel) (by decide +kernel)
set_option maxRecDepth 20000 in
theorem q706 : Cond.instanceMethod yX7_write ∈ lwg := tG 706 (by decide +kernel) (by decide +kernel)
set_option maxRecDepth 20000 in
theorem q707 : Cond.selects "InsideOut" yX7_write yX7_write ∈ lwg := tG 707 (by decide +kernel) (by decide +kernel)
set_option maxRecDepth 20000 in
theorem q708 : Cond.code yX7_write prog_1_method_34_code 5 (some .int) ∈ lwg := tG 708 rfl rfl
set_option maxRecDepth 20000 in
theorem q709 : Cond.methodLink "InsideOut" 239 yX1_put ∈ lwg := tG 709 (by decide +kernel) (by decide +kernel)
set_option maxRecDepth 20000 in
theorem q710 : Cond.instanceMethod yX1_put ∈ lwg := tG 710 (by decide +kernel) (by decide +kernel)
set_option maxRecDepth 20000 in
theorem q711 : Cond.selects "InsideOut$Sheet" yX1_put yX1_put ∈ lwg := tG 711 (by decide +kernel) (by decide +kernel)
set_option maxRecDepth 20000 in
theorem q712 : Cond.code yX1_put prog_3_method_5_code 3 (none : Option Jvm.ClassFile.FieldType) ∈ lwg := tG 712 rfl rfl
set_option maxRecDepth 20000 in
theorem q713 : Cond.methodLink "InsideOutLaw" 150 yX7_copy ∈ lwg := tG 713 (by decide +kernel) (by decide +kernel)
set_option maxRecDepth 20000 in
theorem q714 : Cond.instanceMethod yX7_copy ∈ lwg := tG 714 (by decide +kernel) (by decide +kernel)
set_option maxRecDepth 20000 in
theorem q715 : Cond.selects "InsideOut" yX7_copy yX7_copy ∈ lwg := tG 715 (by decide +kernel) (by decide +kernel)
set_option maxRecDepth 20000 in
theorem q716 : Cond.code yX7_copy prog_1_method_35_code 8 (some .int) ∈ lwg := tG 716 rfl rfl
set_option maxRecDepth 20000 in
theorem q717 : Cond.methodLink "InsideOut" 245 yX1_has ∈ lwg := tG 717 (by decide +kernel) (by decide +kernel)
set_option maxRecDepth 20000 in
theorem q718 : Cond.instanceMethod yX1_has ∈ lwg := tG 718 (by decide +kernel) (by decide +kernel)
set_option maxRecDepth 20000 in
theorem q719 : Cond.selects "InsideOut$Sheet" yX1_has yX1_has ∈ lwg := tG 719 (by decide +kernel) (by decide +kernel)
set_option maxRecDepth 20000 in
theorem q720 : Cond.code yX1_has prog_3_method_4_code 3 (some .boolean) ∈ lwg := tG 720 rfl rfl
set_option maxRecDepth 20000 in
theorem q721 : Cond.methodLink "InsideOut" 251 ⟨"java/lang/System", "arraycopy", "(Ljava/lang/Object;ILjava/lang/Object;II)V"⟩ ∈ lwg := tG 721 (by decide +kernel) (by decide +kernel)
set_option maxRecDepth 20000 in
theorem q722 : Cond.methodLink "InsideOutLaw" 155 yX7_load ∈ lwg := tG 722 (by decide +kernel) (by decide +kernel)
set_option maxRecDepth 20000 in
theorem q723 : Cond.instanceMethod yX7_load ∈ lwg := tG 723 (by decide +kernel) (by decide +kernel)
set_option maxRecDepth 20000 in
theorem q724 : Cond.selects "InsideOut" yX7_load yX7_load ∈ lwg := tG 724 (by decide +kernel) (by decide +kernel)
set_option maxRecDepth 20000 in
theorem q725 : Cond.code yX7_load prog_1_method_36_code 4 (some .int) ∈ lwg := tG 725 rfl rfl
set_option maxRecDepth 20000 in
theorem q726 : Cond.methodLink "InsideOutLaw" 159 yX7_judge ∈ lwg := tG 726 (by decide +kernel) (by decide +kernel)
set_option maxRecDepth 20000 in
theorem q727 : Cond.instanceMethod yX7_judge ∈ lwg := tG 727 (by decide +kernel) (by decide +kernel)
set_option maxRecDepth 20000 in
theorem q728 : Cond.selects "InsideOut" yX7_judge yX7_judge ∈ lwg := tG 728 (by decide +kernel) (by decide +kernel)
set_option maxRecDepth 20000 in
theorem q729 : Cond.code yX7_judge prog_1_method_37_code 4 (some .int) ∈ lwg := tG 729 rfl rfl
set_option maxRecDepth 20000 in
theorem q730 : Cond.methodLink "InsideOutLaw" 163 yX7_image ∈ lwg := tG 730 (by decide +kernel) (by decide +kernel)
set_option maxRecDepth 20000 in
theorem q731 : Cond.instanceMethod yX7_image ∈ lwg := tG 731 (by decide +kernel) (by decide +kernel)
set_option maxRecDepth 20000 in
theorem q732 : Cond.selects "InsideOut" yX7_image yX7_image ∈ lwg := tG 732 (by decide +kernel) (by decide +kernel)
set_option maxRecDepth 20000 in
theorem q733 : Cond.code yX7_image prog_1_method_38_code 1 (some .int) ∈ lwg := tG 733 rfl rfl
set_option maxRecDepth 20000 in
theorem q734 : Cond.methodLink "InsideOutLaw" 167 yX7_undo ∈ lwg := tG 734 (by decide +kernel) (by decide +kernel)
set_option maxRecDepth 20000 in
theorem q735 : Cond.instanceMethod yX7_undo ∈ lwg := tG 735 (by decide +kernel) (by decide +kernel)
set_option maxRecDepth 20000 in
theorem q736 : Cond.selects "InsideOut" yX7_undo yX7_undo ∈ lwg := tG 736 (by decide +kernel) (by decide +kernel)
set_option maxRecDepth 20000 in
theorem q737 : Cond.code yX7_undo prog_1_method_39_code 1 (some .int) ∈ lwg := tG 737 rfl rfl
set_option maxRecDepth 20000 in
theorem q738 : Cond.methodLink "InsideOutLaw" 171 yX7_tear ∈ lwg := tG 738 (by decide +kernel) (by decide +kernel)
set_option maxRecDepth 20000 in
theorem q739 : Cond.instanceMethod yX7_tear ∈ lwg := tG 739 (by decide +kernel) (by decide +kernel)
set_option maxRecDepth 20000 in
theorem q740 : Cond.selects "InsideOut" yX7_tear yX7_tear ∈ lwg := tG 740 (by decide +kernel) (by decide +kernel)
set_option maxRecDepth 20000 in
theorem q741 : Cond.code yX7_tear prog_1_method_40_code 2 (some .int) ∈ lwg := tG 741 rfl rfl
set_option maxRecDepth 20000 in
theorem q742 : Cond.methodLink "InsideOutLaw" 175 yX7_count ∈ lwg := tG 742 (by decide +kernel) (by decide +kernel)
set_option maxRecDepth 20000 in
theorem q743 : Cond.instanceMethod yX7_count ∈ lwg := tG 743 (by decide +kernel) (by decide +kernel)
set_option maxRecDepth 20000 in
theorem q744 : Cond.selects "InsideOut" yX7_count yX7_count ∈ lwg := tG 744 (by decide +kernel) (by decide +kernel)
set_option maxRecDepth 20000 in
theorem q745 : Cond.code yX7_count prog_1_method_41_code 2 (some .int) ∈ lwg := tG 745 rfl rfl
set_option maxRecDepth 20000 in
theorem q746 : Cond.methodLink "InsideOut" 257 yX6_spotsHolding ∈ lwg := tG 746 (by decide +kernel) (by decide +kernel)
set_option maxRecDepth 20000 in
theorem q747 : Cond.instanceMethod yX6_spotsHolding ∈ lwg := tG 747 (by decide +kernel) (by decide +kernel)
set_option maxRecDepth 20000 in
theorem q748 : Cond.selects "InsideOut$World" yX6_spotsHolding yX6_spotsHolding ∈ lwg := tG 748 (by decide +kernel) (by decide +kernel)
set_option maxRecDepth 20000 in
theorem q749 : Cond.code yX6_spotsHolding prog_8_method_9_code 3 (some .int) ∈ lwg := tG 749 rfl rfl
set_option maxRecDepth 20000 in
theorem q750 : Cond.methodLink "InsideOutLaw" 179 yX7_status ∈ lwg := tG 750 (by decide +kernel) (by decide +kernel)
set_option maxRecDepth 20000 in
theorem q751 : Cond.instanceMethod yX7_status ∈ lwg := tG 751 (by decide +kernel) (by decide +kernel)
set_option maxRecDepth 20000 in
theorem q752 : Cond.selects "InsideOut" yX7_status yX7_status ∈ lwg := tG 752 (by decide +kernel) (by decide +kernel)
set_option maxRecDepth 20000 in
theorem q753 : Cond.code yX7_status prog_1_method_42_code 4 (some .int) ∈ lwg := tG 753 rfl rfl
set_option maxRecDepth 20000 in
theorem q754 : Cond.classLink "InsideOutLaw" 10 "InsideOutModel" ∈ lwg := tG 754 (by decide +kernel) (by decide +kernel)
set_option maxRecDepth 20000 in
theorem q755 : Cond.instantiable "InsideOutModel" 21 ∈ lwg := tG 755 (by decide +kernel) (by decide +kernel)
set_option maxRecDepth 20000 in
theorem q756 : Cond.methodLink "InsideOutLaw" 12 yX8_init ∈ lwg := tG 756 (by decide +kernel) (by decide +kernel)
set_option maxRecDepth 20000 in
theorem q757 : Cond.instanceMethod yX8_init ∈ lwg := tG 757 (by decide +kernel) (by decide +kernel)
set_option maxRecDepth 20000 in
theorem q758 : Cond.code yX8_init prog_10_method_1_code 2 (none : Option Jvm.ClassFile.FieldType) ∈ lwg := tG 758 rfl rfl
set_option maxRecDepth 20000 in
theorem q759 : Cond.methodLink "InsideOutModel" 1 ⟨"java/lang/Object", "<init>", "()V"⟩ ∈ lwg := tG 759 (by decide +kernel) (by decide +kernel)
set_option maxRecDepth 20000 in
theorem q760 : Cond.fieldLink "InsideOutModel" 7 "InsideOutModel" "s" "[I" ∈ lwg := tG 760 (by decide +kernel) (by decide +kernel)
set_option maxRecDepth 20000 in
theorem q761 : Cond.fieldLink "InsideOutModel" 13 "InsideOutModel" "kept" "[I" ∈ lwg := tG 761 (by decide +kernel) (by decide +kernel)
set_option maxRecDepth 20000 in
theorem q762 : Cond.fieldLink "InsideOutModel" 16 "InsideOutModel" "before" "[I" ∈ lwg := tG 762 (by decide +kernel) (by decide +kernel)
set_option maxRecDepth 20000 in
theorem q763 : Cond.fieldLink "InsideOutModel" 19 "InsideOutModel" "aside" "[I" ∈ lwg := tG 763 (by decide +kernel) (by decide +kernel)
set_option maxRecDepth 20000 in
theorem q764 : Cond.fieldLink "InsideOutModel" 300 "InsideOutModel" "isKept" "Z" ∈ lwg := tG 764 (by decide +kernel) (by decide +kernel)
set_option maxRecDepth 20000 in
theorem q765 : Cond.fieldLink "InsideOutModel" 22 "InsideOutModel" "findings" "[I" ∈ lwg := tG 765 (by decide +kernel) (by decide +kernel)
set_option maxRecDepth 20000 in
theorem q766 : Cond.fieldLink "InsideOutModel" 25 "InsideOutModel" "tape" "[I" ∈ lwg := tG 766 (by decide +kernel) (by decide +kernel)
set_option maxRecDepth 20000 in
theorem q767 : Cond.fieldLink "InsideOutModel" 209 "InsideOutModel" "taped" "I" ∈ lwg := tG 767 (by decide +kernel) (by decide +kernel)
set_option maxRecDepth 20000 in
theorem q768 : Cond.fieldLink "InsideOutModel" 28 "InsideOutModel" "bitsOf" "[I" ∈ lwg := tG 768 (by decide +kernel) (by decide +kernel)
set_option maxRecDepth 20000 in
theorem q769 : Cond.fieldLink "InsideOutModel" 31 "InsideOutModel" "sizes" "[I" ∈ lwg := tG 769 (by decide +kernel) (by decide +kernel)
set_option maxRecDepth 20000 in
theorem q770 : Cond.fieldLink "InsideOutModel" 34 "InsideOutModel" "numbers" "[I" ∈ lwg := tG 770 (by decide +kernel) (by decide +kernel)
set_option maxRecDepth 20000 in
theorem q771 : Cond.fieldLink "InsideOutModel" 147 "InsideOutModel" "homeWet" "I" ∈ lwg := tG 771 (by decide +kernel) (by decide +kernel)
set_option maxRecDepth 20000 in
theorem q772 : Cond.fieldLink "InsideOutModel" 151 "InsideOutModel" "homeTurned" "I" ∈ lwg := tG 772 (by decide +kernel) (by decide +kernel)
set_option maxRecDepth 20000 in
theorem q773 : Cond.fieldLink "InsideOutModel" 154 "InsideOutModel" "homeRibs" "I" ∈ lwg := tG 773 (by decide +kernel) (by decide +kernel)
set_option maxRecDepth 20000 in
theorem q774 : Cond.fieldLink "InsideOutModel" 163 "InsideOutModel" "best" "I" ∈ lwg := tG 774 (by decide +kernel) (by decide +kernel)
set_option maxRecDepth 20000 in
theorem q775 : Cond.fieldLink "InsideOutModel" 167 "InsideOutModel" "driest" "I" ∈ lwg := tG 775 (by decide +kernel) (by decide +kernel)
set_option maxRecDepth 20000 in
theorem q776 : Cond.fieldLink "InsideOutModel" 227 "InsideOutModel" "token" "I" ∈ lwg := tG 776 (by decide +kernel) (by decide +kernel)
set_option maxRecDepth 20000 in
theorem q777 : Cond.fieldLink "InsideOutModel" 215 "InsideOutModel" "from" "I" ∈ lwg := tG 777 (by decide +kernel) (by decide +kernel)
set_option maxRecDepth 20000 in
theorem q778 : Cond.fieldLink "InsideOutModel" 212 "InsideOutModel" "to" "I" ∈ lwg := tG 778 (by decide +kernel) (by decide +kernel)
set_option maxRecDepth 20000 in
theorem q779 : Cond.fieldLink "InsideOutModel" 230 "InsideOutModel" "value" "I" ∈ lwg := tG 779 (by decide +kernel) (by decide +kernel)
set_option maxRecDepth 20000 in
theorem q780 : Cond.fieldLink "InsideOutModel" 233 "InsideOutModel" "faultAt" "I" ∈ lwg := tG 780 (by decide +kernel) (by decide +kernel)
set_option maxRecDepth 20000 in
theorem q781 : Cond.laysFinal "InsideOutModel" "InsideOutModel" "s" "[I" ∈ lwg := tG 781 (by decide +kernel) (by decide +kernel)
set_option maxRecDepth 20000 in
theorem q783 : Cond.laysFinal "InsideOutModel" "InsideOutModel" "kept" "[I" ∈ lwg := tG 783 (by decide +kernel) (by decide +kernel)
set_option maxRecDepth 20000 in
theorem q785 : Cond.laysFinal "InsideOutModel" "InsideOutModel" "before" "[I" ∈ lwg := tG 785 (by decide +kernel) (by decide +kernel)
set_option maxRecDepth 20000 in
theorem q787 : Cond.laysFinal "InsideOutModel" "InsideOutModel" "aside" "[I" ∈ lwg := tG 787 (by decide +kernel) (by decide +kernel)
set_option maxRecDepth 20000 in
theorem q789 : Cond.lays "InsideOutModel" "InsideOutModel" "isKept" "Z" ∈ lwg := tG 789 (by decide +kernel) (by decide +kernel)
set_option maxRecDepth 20000 in
theorem q791 : Cond.laysFinal "InsideOutModel" "InsideOutModel" "findings" "[I" ∈ lwg := tG 791 (by decide +kernel) (by decide +kernel)
set_option maxRecDepth 20000 in
theorem q793 : Cond.laysFinal "InsideOutModel" "InsideOutModel" "tape" "[I" ∈ lwg := tG 793 (by decide +kernel) (by decide +kernel)
set_option maxRecDepth 20000 in
theorem q795 : Cond.lays "InsideOutModel" "InsideOutModel" "taped" "I" ∈ lwg := tG 795 (by decide +kernel) (by decide +kernel)
set_option maxRecDepth 20000 in
theorem q797 : Cond.laysFinal "InsideOutModel" "InsideOutModel" "bitsOf" "[I" ∈ lwg := tG 797 (by decide +kernel) (by decide +kernel)
set_option maxRecDepth 20000 in
theorem q799 : Cond.laysFinal "InsideOutModel" "InsideOutModel" "sizes" "[I" ∈ lwg := tG 799 (by decide +kernel) (by decide +kernel)
set_option maxRecDepth 20000 in
theorem q801 : Cond.laysFinal "InsideOutModel" "InsideOutModel" "numbers" "[I" ∈ lwg := tG 801 (by decide +kernel) (by decide +kernel)
set_option maxRecDepth 20000 in
theorem q803 : Cond.lays "InsideOutModel" "InsideOutModel" "homeWet" "I" ∈ lwg := tG 803 (by decide +kernel) (by decide +kernel)
set_option maxRecDepth 20000 in
theorem q805 : Cond.lays "InsideOutModel" "InsideOutModel" "homeTurned" "I" ∈ lwg := tG 805 (by decide +kernel) (by decide +kernel)
set_option maxRecDepth 20000 in
theorem q807 : Cond.lays "InsideOutModel" "InsideOutModel" "homeRibs" "I" ∈ lwg := tG 807 (by decide +kernel) (by decide +kernel)
set_option maxRecDepth 20000 in
theorem q809 : Cond.lays "InsideOutModel" "InsideOutModel" "best" "I" ∈ lwg := tG 809 (by decide +kernel) (by decide +kernel)
set_option maxRecDepth 20000 in
theorem q811 : Cond.lays "InsideOutModel" "InsideOutModel" "driest" "I" ∈ lwg := tG 811 (by decide +kernel) (by decide +kernel)
set_option maxRecDepth 20000 in
theorem q813 : Cond.lays "InsideOutModel" "InsideOutModel" "token" "I" ∈ lwg := tG 813 (by decide +kernel) (by decide +kernel)
set_option maxRecDepth 20000 in
theorem q815 : Cond.lays "InsideOutModel" "InsideOutModel" "from" "I" ∈ lwg := tG 815 (by decide +kernel) (by decide +kernel)
set_option maxRecDepth 20000 in
theorem q817 : Cond.lays "InsideOutModel" "InsideOutModel" "to" "I" ∈ lwg := tG 817 (by decide +kernel) (by decide +kernel)
set_option maxRecDepth 20000 in
theorem q819 : Cond.lays "InsideOutModel" "InsideOutModel" "value" "I" ∈ lwg := tG 819 (by decide +kernel) (by decide +kernel)
set_option maxRecDepth 20000 in
theorem q821 : Cond.lays "InsideOutModel" "InsideOutModel" "faultAt" "I" ∈ lwg := tG 821 (by decide +kernel) (by decide +kernel)
set_option maxRecDepth 20000 in
theorem q824 : Cond.methodLink "InsideOutLaw" 17 yX8_step ∈ lwg := tG 824 (by decide +kernel) (by decide +kernel)
set_option maxRecDepth 20000 in
theorem q825 : Cond.instanceMethod yX8_step ∈ lwg := tG 825 (by decide +kernel) (by decide +kernel)
set_option maxRecDepth 20000 in
theorem q826 : Cond.selects "InsideOutModel" yX8_step yX8_step ∈ lwg := tG 826 (by decide +kernel) (by decide +kernel)
set_option maxRecDepth 20000 in
theorem q827 : Cond.code yX8_step prog_10_method_14_code 4 (some .int) ∈ lwg := tG 827 rfl rfl
set_option maxRecDepth 20000 in
theorem q828 : Cond.methodLink "InsideOutModel" 43 yX8_isStep ∈ lwg := tG 828 (by decide +kernel) (by decide +kernel)
set_option maxRecDepth 20000 in
theorem q829 : Cond.static yX8_isStep ∈ lwg := tG 829 (by decide +kernel) (by decide +kernel)
set_option maxRecDepth 20000 in
theorem q830 : Cond.code yX8_isStep prog_10_method_6_code 1 (some .boolean) ∈ lwg := tG 830 rfl rfl
set_option maxRecDepth 20000 in
theorem q831 : Cond.constantLong "InsideOutModel" 47 (2 : Int64) ∈ lwg := tG 831 (by decide +kernel) (by decide +kernel)
set_option maxRecDepth 20000 in
theorem q832 : Cond.methodLink "InsideOutModel" 49 yX8_isIn ∈ lwg := tG 832 (by decide +kernel) (by decide +kernel)
set_option maxRecDepth 20000 in
theorem q833 : Cond.static yX8_isIn ∈ lwg := tG 833 (by decide +kernel) (by decide +kernel)
set_option maxRecDepth 20000 in
theorem q834 : Cond.code yX8_isIn prog_10_method_2_code 6 (some .boolean) ∈ lwg := tG 834 rfl rfl
set_option maxRecDepth 20000 in
theorem q835 : Cond.constantLong "InsideOutModel" 53 (99 : Int64) ∈ lwg := tG 835 (by decide +kernel) (by decide +kernel)
set_option maxRecDepth 20000 in
theorem q836 : Cond.constant "InsideOutModel" 37 (-1000001 : Int32) ∈ lwg := tG 836 (by decide +kernel) (by decide +kernel)
set_option maxRecDepth 20000 in
theorem q837 : Cond.methodLink "InsideOutModel" 39 yX8_finds ∈ lwg := tG 837 (by decide +kernel) (by decide +kernel)
set_option maxRecDepth 20000 in
theorem q839 : Cond.instanceMethod yX8_finds ∈ lwg := tG 839 (by decide +kernel) (by decide +kernel)
set_option maxRecDepth 20000 in
theorem q840 : Cond.code yX8_finds prog_10_method_3_code 2 (some .int) ∈ lwg := tG 840 rfl rfl
set_option maxRecDepth 20000 in
theorem q841 : Cond.methodLink "InsideOutModel" 55 yX8_becomes ∈ lwg := tG 841 (by decide +kernel) (by decide +kernel)
set_option maxRecDepth 20000 in
theorem q843 : Cond.instanceMethod yX8_becomes ∈ lwg := tG 843 (by decide +kernel) (by decide +kernel)
set_option maxRecDepth 20000 in
theorem q844 : Cond.code yX8_becomes prog_10_method_4_code 4 (some .int) ∈ lwg := tG 844 rfl rfl
set_option maxRecDepth 20000 in
theorem q845 : Cond.methodLink "InsideOutLaw" 22 yX8_stepOf ∈ lwg := tG 845 (by decide +kernel) (by decide +kernel)
set_option maxRecDepth 20000 in
theorem q846 : Cond.instanceMethod yX8_stepOf ∈ lwg := tG 846 (by decide +kernel) (by decide +kernel)
set_option maxRecDepth 20000 in
theorem q847 : Cond.selects "InsideOutModel" yX8_stepOf yX8_stepOf ∈ lwg := tG 847 (by decide +kernel) (by decide +kernel)
set_option maxRecDepth 20000 in
theorem q848 : Cond.code yX8_stepOf prog_10_method_17_code 3 (some .int) ∈ lwg := tG 848 rfl rfl
set_option maxRecDepth 20000 in
theorem q849 : Cond.constantLong "InsideOutModel" 62 (4 : Int64) ∈ lwg := tG 849 (by decide +kernel) (by decide +kernel)
set_option maxRecDepth 20000 in
theorem q850 : Cond.methodLink "InsideOutModel" 64 yX8_wind ∈ lwg := tG 850 (by decide +kernel) (by decide +kernel)
set_option maxRecDepth 20000 in
theorem q852 : Cond.instanceMethod yX8_wind ∈ lwg := tG 852 (by decide +kernel) (by decide +kernel)
set_option maxRecDepth 20000 in
theorem q853 : Cond.code yX8_wind prog_10_method_15_code 3 (some .int) ∈ lwg := tG 853 rfl rfl
set_option maxRecDepth 20000 in
theorem q854 : Cond.methodLink "InsideOutModel" 67 yX8_there ∈ lwg := tG 854 (by decide +kernel) (by decide +kernel)
set_option maxRecDepth 20000 in
theorem q856 : Cond.instanceMethod yX8_there ∈ lwg := tG 856 (by decide +kernel) (by decide +kernel)
set_option maxRecDepth 20000 in
theorem q857 : Cond.code yX8_there prog_10_method_16_code 4 (some .int) ∈ lwg := tG 857 rfl rfl
set_option maxRecDepth 20000 in
theorem q858 : Cond.methodLink "InsideOutModel" 59 yX8_its ∈ lwg := tG 858 (by decide +kernel) (by decide +kernel)
set_option maxRecDepth 20000 in
theorem q860 : Cond.instanceMethod yX8_its ∈ lwg := tG 860 (by decide +kernel) (by decide +kernel)
set_option maxRecDepth 20000 in
theorem q861 : Cond.code yX8_its prog_10_method_9_code 3 (some .int) ∈ lwg := tG 861 rfl rfl
set_option maxRecDepth 20000 in
theorem q862 : Cond.methodLink "InsideOutLaw" 26 yX8_weather ∈ lwg := tG 862 (by decide +kernel) (by decide +kernel)
set_option maxRecDepth 20000 in
theorem q863 : Cond.instanceMethod yX8_weather ∈ lwg := tG 863 (by decide +kernel) (by decide +kernel)
set_option maxRecDepth 20000 in
theorem q864 : Cond.selects "InsideOutModel" yX8_weather yX8_weather ∈ lwg := tG 864 (by decide +kernel) (by decide +kernel)
set_option maxRecDepth 20000 in
theorem q865 : Cond.code yX8_weather prog_10_method_18_code 3 (some .int) ∈ lwg := tG 865 rfl rfl
set_option maxRecDepth 20000 in
theorem q866 : Cond.methodLink "InsideOutLaw" 31 yX8_umbrella ∈ lwg := tG 866 (by decide +kernel) (by decide +kernel)
set_option maxRecDepth 20000 in
theorem q867 : Cond.instanceMethod yX8_umbrella ∈ lwg := tG 867 (by decide +kernel) (by decide +kernel)
set_option maxRecDepth 20000 in
theorem q868 : Cond.selects "InsideOutModel" yX8_umbrella yX8_umbrella ∈ lwg := tG 868 (by decide +kernel) (by decide +kernel)
set_option maxRecDepth 20000 in
theorem q869 : Cond.code yX8_umbrella prog_10_method_20_code 2 (some .int) ∈ lwg := tG 869 rfl rfl
set_option maxRecDepth 20000 in
theorem q870 : Cond.constantLong "InsideOutModel" 73 (6 : Int64) ∈ lwg := tG 870 (by decide +kernel) (by decide +kernel)
set_option maxRecDepth 20000 in
theorem q871 : Cond.constant "InsideOutModel" 75 (-1000002 : Int32) ∈ lwg := tG 871 (by decide +kernel) (by decide +kernel)
set_option maxRecDepth 20000 in
theorem q872 : Cond.methodLink "InsideOutModel" 76 yX8_comes ∈ lwg := tG 872 (by decide +kernel) (by decide +kernel)
set_option maxRecDepth 20000 in
theorem q874 : Cond.instanceMethod yX8_comes ∈ lwg := tG 874 (by decide +kernel) (by decide +kernel)
set_option maxRecDepth 20000 in
theorem q875 : Cond.code yX8_comes prog_10_method_19_code 3 (none : Option Jvm.ClassFile.FieldType) ∈ lwg := tG 875 rfl rfl
set_option maxRecDepth 20000 in
theorem q876 : Cond.methodLink "InsideOutModel" 70 yX8_at ∈ lwg := tG 876 (by decide +kernel) (by decide +kernel)
set_option maxRecDepth 20000 in
theorem q877 : Cond.static yX8_at ∈ lwg := tG 877 (by decide +kernel) (by decide +kernel)
set_option maxRecDepth 20000 in
theorem q878 : Cond.code yX8_at prog_10_method_8_code 2 (some .int) ∈ lwg := tG 878 rfl rfl
set_option maxRecDepth 20000 in
theorem q879 : Cond.methodLink "InsideOutLaw" 35 yX8_of ∈ lwg := tG 879 (by decide +kernel) (by decide +kernel)
set_option maxRecDepth 20000 in
theorem q880 : Cond.instanceMethod yX8_of ∈ lwg := tG 880 (by decide +kernel) (by decide +kernel)
set_option maxRecDepth 20000 in
theorem q881 : Cond.selects "InsideOutModel" yX8_of yX8_of ∈ lwg := tG 881 (by decide +kernel) (by decide +kernel)
set_option maxRecDepth 20000 in
theorem q882 : Cond.code yX8_of prog_10_method_25_code 3 (some .int) ∈ lwg := tG 882 rfl rfl
set_option maxRecDepth 20000 in
theorem q883 : Cond.methodLink "InsideOutModel" 89 yX8_isUmbrella ∈ lwg := tG 883 (by decide +kernel) (by decide +kernel)
set_option maxRecDepth 20000 in
theorem q885 : Cond.instanceMethod yX8_isUmbrella ∈ lwg := tG 885 (by decide +kernel) (by decide +kernel)
set_option maxRecDepth 20000 in
theorem q886 : Cond.code yX8_isUmbrella prog_10_method_7_code 2 (some .boolean) ∈ lwg := tG 886 rfl rfl
set_option maxRecDepth 20000 in
theorem q887 : Cond.constantLong "InsideOutModel" 92 (10 : Int64) ∈ lwg := tG 887 (by decide +kernel) (by decide +kernel)
set_option maxRecDepth 20000 in
theorem q888 : Cond.methodLink "InsideOutModel" 83 yX8_stiff ∈ lwg := tG 888 (by decide +kernel) (by decide +kernel)
set_option maxRecDepth 20000 in
theorem q890 : Cond.instanceMethod yX8_stiff ∈ lwg := tG 890 (by decide +kernel) (by decide +kernel)
set_option maxRecDepth 20000 in
theorem q891 : Cond.code yX8_stiff prog_10_method_21_code 4 (some .int) ∈ lwg := tG 891 rfl rfl
set_option maxRecDepth 20000 in
theorem q892 : Cond.methodLink "InsideOutModel" 80 yX8_greatest ∈ lwg := tG 892 (by decide +kernel) (by decide +kernel)
set_option maxRecDepth 20000 in
theorem q893 : Cond.static yX8_greatest ∈ lwg := tG 893 (by decide +kernel) (by decide +kernel)
set_option maxRecDepth 20000 in
theorem q894 : Cond.code yX8_greatest prog_10_method_11_code 2 (some .int) ∈ lwg := tG 894 rfl rfl
set_option maxRecDepth 20000 in
theorem q895 : Cond.methodLink "InsideOutModel" 94 yX8_covers ∈ lwg := tG 895 (by decide +kernel) (by decide +kernel)
set_option maxRecDepth 20000 in
theorem q897 : Cond.instanceMethod yX8_covers ∈ lwg := tG 897 (by decide +kernel) (by decide +kernel)
set_option maxRecDepth 20000 in
theorem q898 : Cond.code yX8_covers prog_10_method_23_code 5 (some .int) ∈ lwg := tG 898 rfl rfl
set_option maxRecDepth 20000 in
theorem q899 : Cond.methodLink "InsideOutModel" 86 yX8_least ∈ lwg := tG 899 (by decide +kernel) (by decide +kernel)
set_option maxRecDepth 20000 in
theorem q900 : Cond.static yX8_least ∈ lwg := tG 900 (by decide +kernel) (by decide +kernel)
set_option maxRecDepth 20000 in
theorem q901 : Cond.code yX8_least prog_10_method_10_code 2 (some .int) ∈ lwg := tG 901 rfl rfl
set_option maxRecDepth 20000 in
theorem q902 : Cond.methodLink "InsideOutModel" 97 yX8_pace ∈ lwg := tG 902 (by decide +kernel) (by decide +kernel)
set_option maxRecDepth 20000 in
theorem q904 : Cond.instanceMethod yX8_pace ∈ lwg := tG 904 (by decide +kernel) (by decide +kernel)
set_option maxRecDepth 20000 in
theorem q905 : Cond.code yX8_pace prog_10_method_24_code 2 (some .int) ∈ lwg := tG 905 rfl rfl
set_option maxRecDepth 20000 in
theorem q906 : Cond.methodLink "InsideOutLaw" 39 yX8_change ∈ lwg := tG 906 (by decide +kernel) (by decide +kernel)
set_option maxRecDepth 20000 in
theorem q907 : Cond.instanceMethod yX8_change ∈ lwg := tG 907 (by decide +kernel) (by decide +kernel)
set_option maxRecDepth 20000 in
theorem q908 : Cond.selects "InsideOutModel" yX8_change yX8_change ∈ lwg := tG 908 (by decide +kernel) (by decide +kernel)
set_option maxRecDepth 20000 in
theorem q909 : Cond.code yX8_change prog_10_method_27_code 5 (some .int) ∈ lwg := tG 909 rfl rfl
set_option maxRecDepth 20000 in
theorem q910 : Cond.constantLong "InsideOutModel" 101 (7 : Int64) ∈ lwg := tG 910 (by decide +kernel) (by decide +kernel)
set_option maxRecDepth 20000 in
theorem q911 : Cond.methodLink "InsideOutModel" 103 yX8_greatestOf ∈ lwg := tG 911 (by decide +kernel) (by decide +kernel)
set_option maxRecDepth 20000 in
theorem q912 : Cond.static yX8_greatestOf ∈ lwg := tG 912 (by decide +kernel) (by decide +kernel)
set_option maxRecDepth 20000 in
theorem q913 : Cond.code yX8_greatestOf prog_10_method_26_code 1 (some .int) ∈ lwg := tG 913 rfl rfl
set_option maxRecDepth 20000 in
theorem q914 : Cond.constant "InsideOutModel" 100 (99999 : Int32) ∈ lwg := tG 914 (by decide +kernel) (by decide +kernel)
set_option maxRecDepth 20000 in
theorem q915 : Cond.methodLink "InsideOutLaw" 43 yX8_bears ∈ lwg := tG 915 (by decide +kernel) (by decide +kernel)
set_option maxRecDepth 20000 in
theorem q916 : Cond.instanceMethod yX8_bears ∈ lwg := tG 916 (by decide +kernel) (by decide +kernel)
set_option maxRecDepth 20000 in
theorem q917 : Cond.selects "InsideOutModel" yX8_bears yX8_bears ∈ lwg := tG 917 (by decide +kernel) (by decide +kernel)
set_option maxRecDepth 20000 in
theorem q918 : Cond.code yX8_bears prog_10_method_28_code 4 (some .int) ∈ lwg := tG 918 rfl rfl
set_option maxRecDepth 20000 in
theorem q919 : Cond.methodLink "InsideOutModel" 106 yX8_bearsOn ∈ lwg := tG 919 (by decide +kernel) (by decide +kernel)
set_option maxRecDepth 20000 in
theorem q921 : Cond.instanceMethod yX8_bearsOn ∈ lwg := tG 921 (by decide +kernel) (by decide +kernel)
set_option maxRecDepth 20000 in
theorem q922 : Cond.code yX8_bearsOn prog_10_method_22_code 6 (some .int) ∈ lwg := tG 922 rfl rfl
set_option maxRecDepth 20000 in
theorem q923 : Cond.methodLink "InsideOutLaw" 47 yX8_go ∈ lwg := tG 923 (by decide +kernel) (by decide +kernel)
set_option maxRecDepth 20000 in
theorem q924 : Cond.instanceMethod yX8_go ∈ lwg := tG 924 (by decide +kernel) (by decide +kernel)
set_option maxRecDepth 20000 in
theorem q925 : Cond.selects "InsideOutModel" yX8_go yX8_go ∈ lwg := tG 925 (by decide +kernel) (by decide +kernel)
set_option maxRecDepth 20000 in
theorem q926 : Cond.code yX8_go prog_10_method_34_code 4 (some .int) ∈ lwg := tG 926 rfl rfl
set_option maxRecDepth 20000 in
theorem q927 : Cond.constantLong "InsideOutModel" 119 (60 : Int64) ∈ lwg := tG 927 (by decide +kernel) (by decide +kernel)
set_option maxRecDepth 20000 in
theorem q928 : Cond.constant "InsideOutModel" 121 (-1000005 : Int32) ∈ lwg := tG 928 (by decide +kernel) (by decide +kernel)
set_option maxRecDepth 20000 in
theorem q929 : Cond.methodLink "InsideOutModel" 122 yX8_tick ∈ lwg := tG 929 (by decide +kernel) (by decide +kernel)
set_option maxRecDepth 20000 in
theorem q931 : Cond.instanceMethod yX8_tick ∈ lwg := tG 931 (by decide +kernel) (by decide +kernel)
set_option maxRecDepth 20000 in
theorem q932 : Cond.code yX8_tick prog_10_method_32_code 3 (some .int) ∈ lwg := tG 932 rfl rfl
set_option maxRecDepth 20000 in
theorem q933 : Cond.methodLink "InsideOutModel" 113 yX8_isHome ∈ lwg := tG 933 (by decide +kernel) (by decide +kernel)
set_option maxRecDepth 20000 in
theorem q935 : Cond.instanceMethod yX8_isHome ∈ lwg := tG 935 (by decide +kernel) (by decide +kernel)
set_option maxRecDepth 20000 in
theorem q936 : Cond.code yX8_isHome prog_10_method_29_code 2 (some .boolean) ∈ lwg := tG 936 rfl rfl
set_option maxRecDepth 20000 in
theorem q937 : Cond.methodLink "InsideOutModel" 116 yX8_goesOn ∈ lwg := tG 937 (by decide +kernel) (by decide +kernel)
set_option maxRecDepth 20000 in
theorem q939 : Cond.instanceMethod yX8_goesOn ∈ lwg := tG 939 (by decide +kernel) (by decide +kernel)
set_option maxRecDepth 20000 in
theorem q940 : Cond.code yX8_goesOn prog_10_method_31_code 8 (some .boolean) ∈ lwg := tG 940 rfl rfl
set_option maxRecDepth 20000 in
theorem q941 : Cond.methodLink "InsideOutModel" 110 yX8_heldBy ∈ lwg := tG 941 (by decide +kernel) (by decide +kernel)
set_option maxRecDepth 20000 in
theorem q943 : Cond.instanceMethod yX8_heldBy ∈ lwg := tG 943 (by decide +kernel) (by decide +kernel)
set_option maxRecDepth 20000 in
theorem q944 : Cond.code yX8_heldBy prog_10_method_30_code 3 (some .int) ∈ lwg := tG 944 rfl rfl
set_option maxRecDepth 20000 in
theorem q945 : Cond.methodLink "InsideOutModel" 126 yX8_homes ∈ lwg := tG 945 (by decide +kernel) (by decide +kernel)
set_option maxRecDepth 20000 in
theorem q947 : Cond.instanceMethod yX8_homes ∈ lwg := tG 947 (by decide +kernel) (by decide +kernel)
set_option maxRecDepth 20000 in
theorem q948 : Cond.code yX8_homes prog_10_method_33_code 3 (some .int) ∈ lwg := tG 948 rfl rfl
set_option maxRecDepth 20000 in
theorem q949 : Cond.methodLink "InsideOutLaw" 51 yX8_now ∈ lwg := tG 949 (by decide +kernel) (by decide +kernel)
set_option maxRecDepth 20000 in
theorem q950 : Cond.instanceMethod yX8_now ∈ lwg := tG 950 (by decide +kernel) (by decide +kernel)
set_option maxRecDepth 20000 in
theorem q951 : Cond.selects "InsideOutModel" yX8_now yX8_now ∈ lwg := tG 951 (by decide +kernel) (by decide +kernel)
set_option maxRecDepth 20000 in
theorem q952 : Cond.code yX8_now prog_10_method_38_code 2 (some .int) ∈ lwg := tG 952 rfl rfl
set_option maxRecDepth 20000 in
theorem q953 : Cond.methodLink "InsideOutModel" 129 yX8_sumOf ∈ lwg := tG 953 (by decide +kernel) (by decide +kernel)
set_option maxRecDepth 20000 in
theorem q955 : Cond.instanceMethod yX8_sumOf ∈ lwg := tG 955 (by decide +kernel) (by decide +kernel)
set_option maxRecDepth 20000 in
theorem q956 : Cond.code yX8_sumOf prog_10_method_35_code 4 (some .int) ∈ lwg := tG 956 rfl rfl
set_option maxRecDepth 20000 in
theorem q957 : Cond.methodLink "InsideOutModel" 132 yX8_outs ∈ lwg := tG 957 (by decide +kernel) (by decide +kernel)
set_option maxRecDepth 20000 in
theorem q959 : Cond.instanceMethod yX8_outs ∈ lwg := tG 959 (by decide +kernel) (by decide +kernel)
set_option maxRecDepth 20000 in
theorem q960 : Cond.code yX8_outs prog_10_method_36_code 3 (some .int) ∈ lwg := tG 960 rfl rfl
set_option maxRecDepth 20000 in
theorem q961 : Cond.methodLink "InsideOutModel" 135 yX8_roofs ∈ lwg := tG 961 (by decide +kernel) (by decide +kernel)
set_option maxRecDepth 20000 in
theorem q963 : Cond.instanceMethod yX8_roofs ∈ lwg := tG 963 (by decide +kernel) (by decide +kernel)
set_option maxRecDepth 20000 in
theorem q964 : Cond.code yX8_roofs prog_10_method_37_code 3 (some .int) ∈ lwg := tG 964 rfl rfl
set_option maxRecDepth 20000 in
theorem q965 : Cond.methodLink "InsideOutLaw" 55 yX8_ahead ∈ lwg := tG 965 (by decide +kernel) (by decide +kernel)
set_option maxRecDepth 20000 in
theorem q966 : Cond.instanceMethod yX8_ahead ∈ lwg := tG 966 (by decide +kernel) (by decide +kernel)
set_option maxRecDepth 20000 in
theorem q967 : Cond.selects "InsideOutModel" yX8_ahead yX8_ahead ∈ lwg := tG 967 (by decide +kernel) (by decide +kernel)
set_option maxRecDepth 20000 in
theorem q968 : Cond.code yX8_ahead prog_10_method_40_code 5 (some .int) ∈ lwg := tG 968 rfl rfl
set_option maxRecDepth 20000 in
theorem q969 : Cond.constantLong "InsideOutModel" 138 (100 : Int64) ∈ lwg := tG 969 (by decide +kernel) (by decide +kernel)
set_option maxRecDepth 20000 in
theorem q970 : Cond.methodLink "InsideOutModel" 140 yX8_copyRow ∈ lwg := tG 970 (by decide +kernel) (by decide +kernel)
set_option maxRecDepth 20000 in
theorem q971 : Cond.static yX8_copyRow ∈ lwg := tG 971 (by decide +kernel) (by decide +kernel)
set_option maxRecDepth 20000 in
theorem q972 : Cond.code yX8_copyRow prog_10_method_5_code 3 (none : Option Jvm.ClassFile.FieldType) ∈ lwg := tG 972 rfl rfl
set_option maxRecDepth 20000 in
theorem q973 : Cond.methodLink "InsideOutModel" 144 yX8_goesAlone ∈ lwg := tG 973 (by decide +kernel) (by decide +kernel)
set_option maxRecDepth 20000 in
theorem q975 : Cond.instanceMethod yX8_goesAlone ∈ lwg := tG 975 (by decide +kernel) (by decide +kernel)
set_option maxRecDepth 20000 in
theorem q976 : Cond.code yX8_goesAlone prog_10_method_39_code 3 (none : Option Jvm.ClassFile.FieldType) ∈ lwg := tG 976 rfl rfl
set_option maxRecDepth 20000 in
theorem q977 : Cond.methodLink "InsideOutLaw" 59 yX8_home ∈ lwg := tG 977 (by decide +kernel) (by decide +kernel)
set_option maxRecDepth 20000 in
theorem q978 : Cond.instanceMethod yX8_home ∈ lwg := tG 978 (by decide +kernel) (by decide +kernel)
set_option maxRecDepth 20000 in
theorem q979 : Cond.selects "InsideOutModel" yX8_home yX8_home ∈ lwg := tG 979 (by decide +kernel) (by decide +kernel)
set_option maxRecDepth 20000 in
theorem q980 : Cond.code yX8_home prog_10_method_42_code 2 (some .int) ∈ lwg := tG 980 rfl rfl
set_option maxRecDepth 20000 in
theorem q981 : Cond.methodLink "InsideOutModel" 157 yX8_follows ∈ lwg := tG 981 (by decide +kernel) (by decide +kernel)
set_option maxRecDepth 20000 in
theorem q983 : Cond.instanceMethod yX8_follows ∈ lwg := tG 983 (by decide +kernel) (by decide +kernel)
set_option maxRecDepth 20000 in
theorem q984 : Cond.code yX8_follows prog_10_method_41_code 4 (some .int) ∈ lwg := tG 984 rfl rfl
set_option maxRecDepth 20000 in
theorem q985 : Cond.methodLink "InsideOutModel" 160 yX8_orNone ∈ lwg := tG 985 (by decide +kernel) (by decide +kernel)
set_option maxRecDepth 20000 in
theorem q987 : Cond.instanceMethod yX8_orNone ∈ lwg := tG 987 (by decide +kernel) (by decide +kernel)
set_option maxRecDepth 20000 in
theorem q988 : Cond.code yX8_orNone prog_10_method_12_code 2 (some .int) ∈ lwg := tG 988 rfl rfl
set_option maxRecDepth 20000 in
theorem q989 : Cond.constant "InsideOutModel" 38 (-1000004 : Int32) ∈ lwg := tG 989 (by decide +kernel) (by decide +kernel)
set_option maxRecDepth 20000 in
theorem q990 : Cond.methodLink "InsideOutLaw" 63 yX8_homeWith ∈ lwg := tG 990 (by decide +kernel) (by decide +kernel)
set_option maxRecDepth 20000 in
theorem q991 : Cond.instanceMethod yX8_homeWith ∈ lwg := tG 991 (by decide +kernel) (by decide +kernel)
set_option maxRecDepth 20000 in
theorem q992 : Cond.selects "InsideOutModel" yX8_homeWith yX8_homeWith ∈ lwg := tG 992 (by decide +kernel) (by decide +kernel)
set_option maxRecDepth 20000 in
theorem q993 : Cond.code yX8_homeWith prog_10_method_43_code 3 (some .int) ∈ lwg := tG 993 rfl rfl
set_option maxRecDepth 20000 in
theorem q994 : Cond.methodLink "InsideOutLaw" 67 yX8_whup ∈ lwg := tG 994 (by decide +kernel) (by decide +kernel)
set_option maxRecDepth 20000 in
theorem q995 : Cond.instanceMethod yX8_whup ∈ lwg := tG 995 (by decide +kernel) (by decide +kernel)
set_option maxRecDepth 20000 in
theorem q996 : Cond.selects "InsideOutModel" yX8_whup yX8_whup ∈ lwg := tG 996 (by decide +kernel) (by decide +kernel)
set_option maxRecDepth 20000 in
theorem q997 : Cond.code yX8_whup prog_10_method_44_code 5 (some .int) ∈ lwg := tG 997 rfl rfl
set_option maxRecDepth 20000 in
theorem q998 : Cond.methodLink "InsideOutLaw" 72 yX8_first ∈ lwg := tG 998 (by decide +kernel) (by decide +kernel)
set_option maxRecDepth 20000 in
theorem q999 : Cond.instanceMethod yX8_first ∈ lwg := tG 999 (by decide +kernel) (by decide +kernel)
set_option maxRecDepth 20000 in
theorem q1000 : Cond.selects "InsideOutModel" yX8_first yX8_first ∈ lwg := tG 1000 (by decide +kernel) (by decide +kernel)
set_option maxRecDepth 20000 in
theorem q1001 : Cond.code yX8_first prog_10_method_45_code 6 (some .int) ∈ lwg := tG 1001 rfl rfl
set_option maxRecDepth 20000 in
theorem q1002 : Cond.methodLink "InsideOutLaw" 76 yX8_habitFor ∈ lwg := tG 1002 (by decide +kernel) (by decide +kernel)
set_option maxRecDepth 20000 in
theorem q1003 : Cond.instanceMethod yX8_habitFor ∈ lwg := tG 1003 (by decide +kernel) (by decide +kernel)
set_option maxRecDepth 20000 in
theorem q1004 : Cond.selects "InsideOutModel" yX8_habitFor yX8_habitFor ∈ lwg := tG 1004 (by decide +kernel) (by decide +kernel)
set_option maxRecDepth 20000 in
theorem q1005 : Cond.code yX8_habitFor prog_10_method_49_code 2 (some .int) ∈ lwg := tG 1005 rfl rfl
set_option maxRecDepth 20000 in
theorem q1006 : Cond.methodLink "InsideOutModel" 177 yX8_bestOf ∈ lwg := tG 1006 (by decide +kernel) (by decide +kernel)
set_option maxRecDepth 20000 in
theorem q1008 : Cond.instanceMethod yX8_bestOf ∈ lwg := tG 1008 (by decide +kernel) (by decide +kernel)
set_option maxRecDepth 20000 in
theorem q1009 : Cond.code yX8_bestOf prog_10_method_48_code 6 (some .int) ∈ lwg := tG 1009 rfl rfl
set_option maxRecDepth 20000 in
theorem q1010 : Cond.methodLink "InsideOutModel" 170 yX8_begins ∈ lwg := tG 1010 (by decide +kernel) (by decide +kernel)
set_option maxRecDepth 20000 in
theorem q1012 : Cond.instanceMethod yX8_begins ∈ lwg := tG 1012 (by decide +kernel) (by decide +kernel)
set_option maxRecDepth 20000 in
theorem q1013 : Cond.code yX8_begins prog_10_method_46_code 1 (none : Option Jvm.ClassFile.FieldType) ∈ lwg := tG 1013 rfl rfl
set_option maxRecDepth 20000 in
theorem q1014 : Cond.constant "InsideOutModel" 166 (100000 : Int32) ∈ lwg := tG 1014 (by decide +kernel) (by decide +kernel)
set_option maxRecDepth 20000 in
theorem q1015 : Cond.methodLink "InsideOutModel" 173 yX8_looksAt ∈ lwg := tG 1015 (by decide +kernel) (by decide +kernel)
set_option maxRecDepth 20000 in
theorem q1017 : Cond.instanceMethod yX8_looksAt ∈ lwg := tG 1017 (by decide +kernel) (by decide +kernel)
set_option maxRecDepth 20000 in
theorem q1018 : Cond.code yX8_looksAt prog_10_method_47_code 3 (none : Option Jvm.ClassFile.FieldType) ∈ lwg := tG 1018 rfl rfl
set_option maxRecDepth 20000 in
theorem q1019 : Cond.methodLink "InsideOutLaw" 80 yX8_heldFor ∈ lwg := tG 1019 (by decide +kernel) (by decide +kernel)
set_option maxRecDepth 20000 in
theorem q1020 : Cond.instanceMethod yX8_heldFor ∈ lwg := tG 1020 (by decide +kernel) (by decide +kernel)
set_option maxRecDepth 20000 in
theorem q1021 : Cond.selects "InsideOutModel" yX8_heldFor yX8_heldFor ∈ lwg := tG 1021 (by decide +kernel) (by decide +kernel)
set_option maxRecDepth 20000 in
theorem q1022 : Cond.code yX8_heldFor prog_10_method_50_code 2 (some .int) ∈ lwg := tG 1022 rfl rfl
set_option maxRecDepth 20000 in
theorem q1023 : Cond.methodLink "InsideOutLaw" 84 yX8_kindFor ∈ lwg := tG 1023 (by decide +kernel) (by decide +kernel)
set_option maxRecDepth 20000 in
theorem q1024 : Cond.instanceMethod yX8_kindFor ∈ lwg := tG 1024 (by decide +kernel) (by decide +kernel)
set_option maxRecDepth 20000 in
theorem q1025 : Cond.selects "InsideOutModel" yX8_kindFor yX8_kindFor ∈ lwg := tG 1025 (by decide +kernel) (by decide +kernel)
set_option maxRecDepth 20000 in
theorem q1026 : Cond.code yX8_kindFor prog_10_method_51_code 2 (some .int) ∈ lwg := tG 1026 rfl rfl
set_option maxRecDepth 20000 in
theorem q1027 : Cond.methodLink "InsideOutLaw" 88 yX8_roofFor ∈ lwg := tG 1027 (by decide +kernel) (by decide +kernel)
set_option maxRecDepth 20000 in
theorem q1028 : Cond.instanceMethod yX8_roofFor ∈ lwg := tG 1028 (by decide +kernel) (by decide +kernel)
set_option maxRecDepth 20000 in
theorem q1029 : Cond.selects "InsideOutModel" yX8_roofFor yX8_roofFor ∈ lwg := tG 1029 (by decide +kernel) (by decide +kernel)
set_option maxRecDepth 20000 in
theorem q1030 : Cond.code yX8_roofFor prog_10_method_52_code 3 (some .int) ∈ lwg := tG 1030 rfl rfl
set_option maxRecDepth 20000 in
theorem q1031 : Cond.methodLink "InsideOutLaw" 92 yX8_waitFor ∈ lwg := tG 1031 (by decide +kernel) (by decide +kernel)
set_option maxRecDepth 20000 in
theorem q1032 : Cond.instanceMethod yX8_waitFor ∈ lwg := tG 1032 (by decide +kernel) (by decide +kernel)
set_option maxRecDepth 20000 in
theorem q1033 : Cond.selects "InsideOutModel" yX8_waitFor yX8_waitFor ∈ lwg := tG 1033 (by decide +kernel) (by decide +kernel)
set_option maxRecDepth 20000 in
theorem q1034 : Cond.code yX8_waitFor prog_10_method_53_code 4 (some .int) ∈ lwg := tG 1034 rfl rfl
set_option maxRecDepth 20000 in
theorem q1035 : Cond.methodLink "InsideOutLaw" 96 yX8_gustFor ∈ lwg := tG 1035 (by decide +kernel) (by decide +kernel)
set_option maxRecDepth 20000 in
theorem q1036 : Cond.instanceMethod yX8_gustFor ∈ lwg := tG 1036 (by decide +kernel) (by decide +kernel)
set_option maxRecDepth 20000 in
theorem q1037 : Cond.selects "InsideOutModel" yX8_gustFor yX8_gustFor ∈ lwg := tG 1037 (by decide +kernel) (by decide +kernel)
set_option maxRecDepth 20000 in
theorem q1038 : Cond.code yX8_gustFor prog_10_method_55_code 4 (some .int) ∈ lwg := tG 1038 rfl rfl
set_option maxRecDepth 20000 in
theorem q1039 : Cond.methodLink "InsideOutModel" 180 yX8_isWhole ∈ lwg := tG 1039 (by decide +kernel) (by decide +kernel)
set_option maxRecDepth 20000 in
theorem q1041 : Cond.instanceMethod yX8_isWhole ∈ lwg := tG 1041 (by decide +kernel) (by decide +kernel)
set_option maxRecDepth 20000 in
theorem q1042 : Cond.code yX8_isWhole prog_10_method_54_code 2 (some .boolean) ∈ lwg := tG 1042 rfl rfl
set_option maxRecDepth 20000 in
theorem q1043 : Cond.methodLink "InsideOutLaw" 100 yX8_ribsFor ∈ lwg := tG 1043 (by decide +kernel) (by decide +kernel)
set_option maxRecDepth 20000 in
theorem q1044 : Cond.instanceMethod yX8_ribsFor ∈ lwg := tG 1044 (by decide +kernel) (by decide +kernel)
set_option maxRecDepth 20000 in
theorem q1045 : Cond.selects "InsideOutModel" yX8_ribsFor yX8_ribsFor ∈ lwg := tG 1045 (by decide +kernel) (by decide +kernel)
set_option maxRecDepth 20000 in
theorem q1046 : Cond.code yX8_ribsFor prog_10_method_56_code 5 (some .int) ∈ lwg := tG 1046 rfl rfl
set_option maxRecDepth 20000 in
theorem q1047 : Cond.methodLink "InsideOutLaw" 104 yX8_fits ∈ lwg := tG 1047 (by decide +kernel) (by decide +kernel)
set_option maxRecDepth 20000 in
theorem q1048 : Cond.instanceMethod yX8_fits ∈ lwg := tG 1048 (by decide +kernel) (by decide +kernel)
set_option maxRecDepth 20000 in
theorem q1049 : Cond.selects "InsideOutModel" yX8_fits yX8_fits ∈ lwg := tG 1049 (by decide +kernel) (by decide +kernel)
set_option maxRecDepth 20000 in
theorem q1050 : Cond.code yX8_fits prog_10_method_60_code 4 (some .int) ∈ lwg := tG 1050 rfl rfl
set_option maxRecDepth 20000 in
theorem q1051 : Cond.methodLink "InsideOutModel" 190 yX8_wantsFor ∈ lwg := tG 1051 (by decide +kernel) (by decide +kernel)
set_option maxRecDepth 20000 in
theorem q1053 : Cond.instanceMethod yX8_wantsFor ∈ lwg := tG 1053 (by decide +kernel) (by decide +kernel)
set_option maxRecDepth 20000 in
theorem q1054 : Cond.code yX8_wantsFor prog_10_method_59_code 3 (some .int) ∈ lwg := tG 1054 rfl rfl
set_option maxRecDepth 20000 in
theorem q1055 : Cond.methodLink "InsideOutModel" 187 yX8_wants ∈ lwg := tG 1055 (by decide +kernel) (by decide +kernel)
set_option maxRecDepth 20000 in
theorem q1057 : Cond.instanceMethod yX8_wants ∈ lwg := tG 1057 (by decide +kernel) (by decide +kernel)
set_option maxRecDepth 20000 in
theorem q1058 : Cond.code yX8_wants prog_10_method_95_code 2 (some .int) ∈ lwg := tG 1058 rfl rfl
set_option maxRecDepth 20000 in
theorem q1059 : Cond.methodLink "InsideOutModel" 296 yX8_isSheet ∈ lwg := tG 1059 (by decide +kernel) (by decide +kernel)
set_option maxRecDepth 20000 in
theorem q1060 : Cond.static yX8_isSheet ∈ lwg := tG 1060 (by decide +kernel) (by decide +kernel)
set_option maxRecDepth 20000 in
theorem q1061 : Cond.code yX8_isSheet prog_10_method_91_code 1 (some .boolean) ∈ lwg := tG 1061 rfl rfl
set_option maxRecDepth 20000 in
theorem q1062 : Cond.constant "InsideOutModel" 291 (-1000006 : Int32) ∈ lwg := tG 1062 (by decide +kernel) (by decide +kernel)
set_option maxRecDepth 20000 in
theorem q1063 : Cond.methodLink "InsideOutModel" 193 yX8_couldBe ∈ lwg := tG 1063 (by decide +kernel) (by decide +kernel)
set_option maxRecDepth 20000 in
theorem q1065 : Cond.instanceMethod yX8_couldBe ∈ lwg := tG 1065 (by decide +kernel) (by decide +kernel)
set_option maxRecDepth 20000 in
theorem q1066 : Cond.code yX8_couldBe prog_10_method_58_code 7 (some .int) ∈ lwg := tG 1066 rfl rfl
set_option maxRecDepth 20000 in
theorem q1067 : Cond.methodLink "InsideOutModel" 183 yX8_isTold ∈ lwg := tG 1067 (by decide +kernel) (by decide +kernel)
set_option maxRecDepth 20000 in
theorem q1069 : Cond.instanceMethod yX8_isTold ∈ lwg := tG 1069 (by decide +kernel) (by decide +kernel)
set_option maxRecDepth 20000 in
theorem q1070 : Cond.code yX8_isTold prog_10_method_57_code 6 (some .boolean) ∈ lwg := tG 1070 rfl rfl
set_option maxRecDepth 20000 in
theorem q1071 : Cond.methodLink "InsideOutLaw" 108 yX8_kinds ∈ lwg := tG 1071 (by decide +kernel) (by decide +kernel)
set_option maxRecDepth 20000 in
theorem q1072 : Cond.instanceMethod yX8_kinds ∈ lwg := tG 1072 (by decide +kernel) (by decide +kernel)
set_option maxRecDepth 20000 in
theorem q1073 : Cond.selects "InsideOutModel" yX8_kinds yX8_kinds ∈ lwg := tG 1073 (by decide +kernel) (by decide +kernel)
set_option maxRecDepth 20000 in
theorem q1074 : Cond.code yX8_kinds prog_10_method_61_code 4 (some .int) ∈ lwg := tG 1074 rfl rfl
set_option maxRecDepth 20000 in
theorem q1075 : Cond.methodLink "InsideOutLaw" 112 yX8_gusts ∈ lwg := tG 1075 (by decide +kernel) (by decide +kernel)
set_option maxRecDepth 20000 in
theorem q1076 : Cond.instanceMethod yX8_gusts ∈ lwg := tG 1076 (by decide +kernel) (by decide +kernel)
set_option maxRecDepth 20000 in
theorem q1077 : Cond.selects "InsideOutModel" yX8_gusts yX8_gusts ∈ lwg := tG 1077 (by decide +kernel) (by decide +kernel)
set_option maxRecDepth 20000 in
theorem q1078 : Cond.code yX8_gusts prog_10_method_63_code 5 (some .int) ∈ lwg := tG 1078 rfl rfl
set_option maxRecDepth 20000 in
theorem q1079 : Cond.constantLong "InsideOutModel" 197 (20 : Int64) ∈ lwg := tG 1079 (by decide +kernel) (by decide +kernel)
set_option maxRecDepth 20000 in
theorem q1080 : Cond.methodLink "InsideOutModel" 199 yX8_draw ∈ lwg := tG 1080 (by decide +kernel) (by decide +kernel)
set_option maxRecDepth 20000 in
theorem q1082 : Cond.instanceMethod yX8_draw ∈ lwg := tG 1082 (by decide +kernel) (by decide +kernel)
set_option maxRecDepth 20000 in
theorem q1083 : Cond.code yX8_draw prog_10_method_62_code 1 (some .int) ∈ lwg := tG 1083 rfl rfl
set_option maxRecDepth 20000 in
theorem q1084 : Cond.constant "InsideOutModel" 196 (1103515245 : Int32) ∈ lwg := tG 1084 (by decide +kernel) (by decide +kernel)
set_option maxRecDepth 20000 in
theorem q1085 : Cond.methodLink "InsideOutLaw" 117 yX8_odds ∈ lwg := tG 1085 (by decide +kernel) (by decide +kernel)
set_option maxRecDepth 20000 in
theorem q1086 : Cond.instanceMethod yX8_odds ∈ lwg := tG 1086 (by decide +kernel) (by decide +kernel)
set_option maxRecDepth 20000 in
theorem q1087 : Cond.selects "InsideOutModel" yX8_odds yX8_odds ∈ lwg := tG 1087 (by decide +kernel) (by decide +kernel)
set_option maxRecDepth 20000 in
theorem q1088 : Cond.code yX8_odds prog_10_method_64_code 9 (some .long) ∈ lwg := tG 1088 rfl rfl
set_option maxRecDepth 20000 in
theorem q1089 : Cond.constantLong "InsideOutModel" 202 (15 : Int64) ∈ lwg := tG 1089 (by decide +kernel) (by decide +kernel)
set_option maxRecDepth 20000 in
theorem q1090 : Cond.methodLink "InsideOutModel" 204 yX8_many ∈ lwg := tG 1090 (by decide +kernel) (by decide +kernel)
set_option maxRecDepth 20000 in
theorem q1091 : Cond.static yX8_many ∈ lwg := tG 1091 (by decide +kernel) (by decide +kernel)
set_option maxRecDepth 20000 in
theorem q1092 : Cond.code yX8_many prog_10_method_13_code 3 (some .int) ∈ lwg := tG 1092 rfl rfl
set_option maxRecDepth 20000 in
theorem q1093 : Cond.constantLong "InsideOutModel" 207 (16 : Int64) ∈ lwg := tG 1093 (by decide +kernel) (by decide +kernel)
set_option maxRecDepth 20000 in
theorem q1094 : Cond.methodLink "InsideOutLaw" 121 yX8_seed ∈ lwg := tG 1094 (by decide +kernel) (by decide +kernel)
set_option maxRecDepth 20000 in
theorem q1095 : Cond.instanceMethod yX8_seed ∈ lwg := tG 1095 (by decide +kernel) (by decide +kernel)
set_option maxRecDepth 20000 in
theorem q1096 : Cond.selects "InsideOutModel" yX8_seed yX8_seed ∈ lwg := tG 1096 (by decide +kernel) (by decide +kernel)
set_option maxRecDepth 20000 in
theorem q1097 : Cond.code yX8_seed prog_10_method_65_code 2 (some .int) ∈ lwg := tG 1097 rfl rfl
set_option maxRecDepth 20000 in
theorem q1098 : Cond.methodLink "InsideOutLaw" 125 yX8_feed ∈ lwg := tG 1098 (by decide +kernel) (by decide +kernel)
set_option maxRecDepth 20000 in
theorem q1099 : Cond.instanceMethod yX8_feed ∈ lwg := tG 1099 (by decide +kernel) (by decide +kernel)
set_option maxRecDepth 20000 in
theorem q1100 : Cond.selects "InsideOutModel" yX8_feed yX8_feed ∈ lwg := tG 1100 (by decide +kernel) (by decide +kernel)
set_option maxRecDepth 20000 in
theorem q1101 : Cond.code yX8_feed prog_10_method_66_code 4 (some .int) ∈ lwg := tG 1101 rfl rfl
set_option maxRecDepth 20000 in
theorem q1102 : Cond.methodLink "InsideOutLaw" 129 yX8_wipe ∈ lwg := tG 1102 (by decide +kernel) (by decide +kernel)
set_option maxRecDepth 20000 in
theorem q1103 : Cond.instanceMethod yX8_wipe ∈ lwg := tG 1103 (by decide +kernel) (by decide +kernel)
set_option maxRecDepth 20000 in
theorem q1104 : Cond.selects "InsideOutModel" yX8_wipe yX8_wipe ∈ lwg := tG 1104 (by decide +kernel) (by decide +kernel)
set_option maxRecDepth 20000 in
theorem q1105 : Cond.code yX8_wipe prog_10_method_67_code 2 (some .int) ∈ lwg := tG 1105 rfl rfl
set_option maxRecDepth 20000 in
theorem q1106 : Cond.methodLink "InsideOutLaw" 133 yX8_text ∈ lwg := tG 1106 (by decide +kernel) (by decide +kernel)
set_option maxRecDepth 20000 in
theorem q1107 : Cond.instanceMethod yX8_text ∈ lwg := tG 1107 (by decide +kernel) (by decide +kernel)
set_option maxRecDepth 20000 in
theorem q1108 : Cond.selects "InsideOutModel" yX8_text yX8_text ∈ lwg := tG 1108 (by decide +kernel) (by decide +kernel)
set_option maxRecDepth 20000 in
theorem q1109 : Cond.code yX8_text prog_10_method_87_code 5 (some .int) ∈ lwg := tG 1109 rfl rfl
set_option maxRecDepth 20000 in
theorem q1110 : Cond.methodLink "InsideOutModel" 258 yX8_nextToken ∈ lwg := tG 1110 (by decide +kernel) (by decide +kernel)
set_option maxRecDepth 20000 in
theorem q1112 : Cond.instanceMethod yX8_nextToken ∈ lwg := tG 1112 (by decide +kernel) (by decide +kernel)
set_option maxRecDepth 20000 in
theorem q1113 : Cond.code yX8_nextToken prog_10_method_71_code 2 (none : Option Jvm.ClassFile.FieldType) ∈ lwg := tG 1113 rfl rfl
set_option maxRecDepth 20000 in
theorem q1114 : Cond.methodLink "InsideOutModel" 218 yX8_byteAt ∈ lwg := tG 1114 (by decide +kernel) (by decide +kernel)
set_option maxRecDepth 20000 in
theorem q1116 : Cond.instanceMethod yX8_byteAt ∈ lwg := tG 1116 (by decide +kernel) (by decide +kernel)
set_option maxRecDepth 20000 in
theorem q1117 : Cond.code yX8_byteAt prog_10_method_70_code 2 (some .int) ∈ lwg := tG 1117 rfl rfl
set_option maxRecDepth 20000 in
theorem q1118 : Cond.methodLink "InsideOutModel" 221 yX8_isLetter ∈ lwg := tG 1118 (by decide +kernel) (by decide +kernel)
set_option maxRecDepth 20000 in
theorem q1119 : Cond.static yX8_isLetter ∈ lwg := tG 1119 (by decide +kernel) (by decide +kernel)
set_option maxRecDepth 20000 in
theorem q1120 : Cond.code yX8_isLetter prog_10_method_68_code 1 (some .boolean) ∈ lwg := tG 1120 rfl rfl
set_option maxRecDepth 20000 in
theorem q1121 : Cond.methodLink "InsideOutModel" 224 yX8_isDigit ∈ lwg := tG 1121 (by decide +kernel) (by decide +kernel)
set_option maxRecDepth 20000 in
theorem q1122 : Cond.static yX8_isDigit ∈ lwg := tG 1122 (by decide +kernel) (by decide +kernel)
set_option maxRecDepth 20000 in
theorem q1123 : Cond.code yX8_isDigit prog_10_method_69_code 1 (some .boolean) ∈ lwg := tG 1123 rfl rfl
set_option maxRecDepth 20000 in
theorem q1124 : Cond.methodLink "InsideOutModel" 280 yX8_kindHere ∈ lwg := tG 1124 (by decide +kernel) (by decide +kernel)
set_option maxRecDepth 20000 in
theorem q1126 : Cond.instanceMethod yX8_kindHere ∈ lwg := tG 1126 (by decide +kernel) (by decide +kernel)
set_option maxRecDepth 20000 in
theorem q1127 : Cond.code yX8_kindHere prog_10_method_79_code 1 (some .int) ∈ lwg := tG 1127 rfl rfl
set_option maxRecDepth 20000 in
theorem q1128 : Cond.methodLink "InsideOutModel" 236 yX8_isWord ∈ lwg := tG 1128 (by decide +kernel) (by decide +kernel)
set_option maxRecDepth 20000 in
theorem q1130 : Cond.instanceMethod yX8_isWord ∈ lwg := tG 1130 (by decide +kernel) (by decide +kernel)
set_option maxRecDepth 20000 in
theorem q1131 : Cond.code yX8_isWord prog_10_method_73_code 2 (some .boolean) ∈ lwg := tG 1131 rfl rfl
set_option maxRecDepth 20000 in
theorem q1132 : Cond.methodLink "InsideOutModel" 239 yX8_has3 ∈ lwg := tG 1132 (by decide +kernel) (by decide +kernel)
set_option maxRecDepth 20000 in
theorem q1134 : Cond.instanceMethod yX8_has3 ∈ lwg := tG 1134 (by decide +kernel) (by decide +kernel)
set_option maxRecDepth 20000 in
theorem q1135 : Cond.code yX8_has3 prog_10_method_72_code 5 (some .boolean) ∈ lwg := tG 1135 rfl rfl
set_option maxRecDepth 20000 in
theorem q1136 : Cond.methodLink "InsideOutModel" 247 yX8_isFive ∈ lwg := tG 1136 (by decide +kernel) (by decide +kernel)
set_option maxRecDepth 20000 in
theorem q1138 : Cond.instanceMethod yX8_isFive ∈ lwg := tG 1138 (by decide +kernel) (by decide +kernel)
set_option maxRecDepth 20000 in
theorem q1139 : Cond.code yX8_isFive prog_10_method_76_code 6 (some .boolean) ∈ lwg := tG 1139 rfl rfl
set_option maxRecDepth 20000 in
theorem q1140 : Cond.methodLink "InsideOutModel" 251 yX8_isFour ∈ lwg := tG 1140 (by decide +kernel) (by decide +kernel)
set_option maxRecDepth 20000 in
theorem q1142 : Cond.instanceMethod yX8_isFour ∈ lwg := tG 1142 (by decide +kernel) (by decide +kernel)
set_option maxRecDepth 20000 in
theorem q1143 : Cond.code yX8_isFour prog_10_method_75_code 5 (some .boolean) ∈ lwg := tG 1143 rfl rfl
set_option maxRecDepth 20000 in
theorem q1144 : Cond.methodLink "InsideOutModel" 254 yX8_isSix ∈ lwg := tG 1144 (by decide +kernel) (by decide +kernel)
set_option maxRecDepth 20000 in
theorem q1146 : Cond.instanceMethod yX8_isSix ∈ lwg := tG 1146 (by decide +kernel) (by decide +kernel)
set_option maxRecDepth 20000 in
theorem q1147 : Cond.code yX8_isSix prog_10_method_77_code 7 (some .boolean) ∈ lwg := tG 1147 rfl rfl
set_option maxRecDepth 20000 in
theorem q1148 : Cond.methodLink "InsideOutModel" 283 yX8_umbrellaHere ∈ lwg := tG 1148 (by decide +kernel) (by decide +kernel)
set_option maxRecDepth 20000 in
theorem q1150 : Cond.instanceMethod yX8_umbrellaHere ∈ lwg := tG 1150 (by decide +kernel) (by decide +kernel)
set_option maxRecDepth 20000 in
theorem q1151 : Cond.code yX8_umbrellaHere prog_10_method_82_code 2 (some .boolean) ∈ lwg := tG 1151 rfl rfl
set_option maxRecDepth 20000 in
theorem q1152 : Cond.methodLink "InsideOutModel" 243 yX8_fails ∈ lwg := tG 1152 (by decide +kernel) (by decide +kernel)
set_option maxRecDepth 20000 in
theorem q1154 : Cond.instanceMethod yX8_fails ∈ lwg := tG 1154 (by decide +kernel) (by decide +kernel)
set_option maxRecDepth 20000 in
theorem q1155 : Cond.code yX8_fails prog_10_method_74_code 1 (some .boolean) ∈ lwg := tG 1155 rfl rfl
set_option maxRecDepth 20000 in
theorem q1156 : Cond.methodLink "InsideOutModel" 264 yX8_isTwo ∈ lwg := tG 1156 (by decide +kernel) (by decide +kernel)
set_option maxRecDepth 20000 in
theorem q1158 : Cond.instanceMethod yX8_isTwo ∈ lwg := tG 1158 (by decide +kernel) (by decide +kernel)
set_option maxRecDepth 20000 in
theorem q1159 : Cond.code yX8_isTwo prog_10_method_80_code 3 (some .boolean) ∈ lwg := tG 1159 rfl rfl
set_option maxRecDepth 20000 in
theorem q1160 : Cond.methodLink "InsideOutModel" 267 yX8_perhaps ∈ lwg := tG 1160 (by decide +kernel) (by decide +kernel)
set_option maxRecDepth 20000 in
theorem q1162 : Cond.instanceMethod yX8_perhaps ∈ lwg := tG 1162 (by decide +kernel) (by decide +kernel)
set_option maxRecDepth 20000 in
theorem q1163 : Cond.code yX8_perhaps prog_10_method_81_code 3 (some .boolean) ∈ lwg := tG 1163 rfl rfl
set_option maxRecDepth 20000 in
theorem q1164 : Cond.methodLink "InsideOutModel" 261 yX8_isNumber ∈ lwg := tG 1164 (by decide +kernel) (by decide +kernel)
set_option maxRecDepth 20000 in
theorem q1166 : Cond.instanceMethod yX8_isNumber ∈ lwg := tG 1166 (by decide +kernel) (by decide +kernel)
set_option maxRecDepth 20000 in
theorem q1167 : Cond.code yX8_isNumber prog_10_method_78_code 3 (some .boolean) ∈ lwg := tG 1167 rfl rfl
set_option maxRecDepth 20000 in
theorem q1168 : Cond.methodLink "InsideOutModel" 286 yX8_streetHere ∈ lwg := tG 1168 (by decide +kernel) (by decide +kernel)
set_option maxRecDepth 20000 in
theorem q1170 : Cond.instanceMethod yX8_streetHere ∈ lwg := tG 1170 (by decide +kernel) (by decide +kernel)
set_option maxRecDepth 20000 in
theorem q1171 : Cond.code yX8_streetHere prog_10_method_86_code 1 (some .boolean) ∈ lwg := tG 1171 rfl rfl
set_option maxRecDepth 20000 in
theorem q1172 : Cond.methodLink "InsideOutModel" 271 yX8_stepHere ∈ lwg := tG 1172 (by decide +kernel) (by decide +kernel)
set_option maxRecDepth 20000 in
theorem q1174 : Cond.instanceMethod yX8_stepHere ∈ lwg := tG 1174 (by decide +kernel) (by decide +kernel)
set_option maxRecDepth 20000 in
theorem q1175 : Cond.code yX8_stepHere prog_10_method_83_code 3 (some .boolean) ∈ lwg := tG 1175 rfl rfl
set_option maxRecDepth 20000 in
theorem q1176 : Cond.methodLink "InsideOutModel" 274 yX8_roofHere ∈ lwg := tG 1176 (by decide +kernel) (by decide +kernel)
set_option maxRecDepth 20000 in
theorem q1178 : Cond.instanceMethod yX8_roofHere ∈ lwg := tG 1178 (by decide +kernel) (by decide +kernel)
set_option maxRecDepth 20000 in
theorem q1179 : Cond.code yX8_roofHere prog_10_method_84_code 2 (some .boolean) ∈ lwg := tG 1179 rfl rfl
set_option maxRecDepth 20000 in
theorem q1180 : Cond.methodLink "InsideOutModel" 277 yX8_weatherHere ∈ lwg := tG 1180 (by decide +kernel) (by decide +kernel)
set_option maxRecDepth 20000 in
theorem q1182 : Cond.instanceMethod yX8_weatherHere ∈ lwg := tG 1182 (by decide +kernel) (by decide +kernel)
set_option maxRecDepth 20000 in
theorem q1183 : Cond.code yX8_weatherHere prog_10_method_85_code 2 (some .boolean) ∈ lwg := tG 1183 rfl rfl
set_option maxRecDepth 20000 in
theorem q1184 : Cond.methodLink "InsideOutLaw" 137 yX8_hold ∈ lwg := tG 1184 (by decide +kernel) (by decide +kernel)
set_option maxRecDepth 20000 in
theorem q1185 : Cond.instanceMethod yX8_hold ∈ lwg := tG 1185 (by decide +kernel) (by decide +kernel)
set_option maxRecDepth 20000 in
theorem q1186 : Cond.selects "InsideOutModel" yX8_hold yX8_hold ∈ lwg := tG 1186 (by decide +kernel) (by decide +kernel)
set_option maxRecDepth 20000 in
theorem q1187 : Cond.code yX8_hold prog_10_method_88_code 3 (some .int) ∈ lwg := tG 1187 rfl rfl
set_option maxRecDepth 20000 in
theorem q1188 : Cond.constantLong "InsideOutModel" 289 (9 : Int64) ∈ lwg := tG 1188 (by decide +kernel) (by decide +kernel)
set_option maxRecDepth 20000 in
theorem q1189 : Cond.methodLink "InsideOutLaw" 141 yX8_as ∈ lwg := tG 1189 (by decide +kernel) (by decide +kernel)
set_option maxRecDepth 20000 in
theorem q1190 : Cond.instanceMethod yX8_as ∈ lwg := tG 1190 (by decide +kernel) (by decide +kernel)
set_option maxRecDepth 20000 in
theorem q1191 : Cond.selects "InsideOutModel" yX8_as yX8_as ∈ lwg := tG 1191 (by decide +kernel) (by decide +kernel)
set_option maxRecDepth 20000 in
theorem q1192 : Cond.code yX8_as prog_10_method_90_code 4 (some .int) ∈ lwg := tG 1192 rfl rfl
set_option maxRecDepth 20000 in
theorem q1193 : Cond.methodLink "InsideOutModel" 292 yX8_isUnder ∈ lwg := tG 1193 (by decide +kernel) (by decide +kernel)
set_option maxRecDepth 20000 in
theorem q1194 : Cond.static yX8_isUnder ∈ lwg := tG 1194 (by decide +kernel) (by decide +kernel)
set_option maxRecDepth 20000 in
theorem q1195 : Cond.code yX8_isUnder prog_10_method_89_code 2 (some .boolean) ∈ lwg := tG 1195 rfl rfl
set_option maxRecDepth 20000 in
theorem q1196 : Cond.constant "InsideOutModel" 295 (-1000003 : Int32) ∈ lwg := tG 1196 (by decide +kernel) (by decide +kernel)
set_option maxRecDepth 20000 in
theorem q1197 : Cond.methodLink "InsideOutLaw" 145 yX8_sheet ∈ lwg := tG 1197 (by decide +kernel) (by decide +kernel)
set_option maxRecDepth 20000 in
theorem q1198 : Cond.instanceMethod yX8_sheet ∈ lwg := tG 1198 (by decide +kernel) (by decide +kernel)
set_option maxRecDepth 20000 in
theorem q1199 : Cond.selects "InsideOutModel" yX8_sheet yX8_sheet ∈ lwg := tG 1199 (by decide +kernel) (by decide +kernel)
set_option maxRecDepth 20000 in
theorem q1200 : Cond.code yX8_sheet prog_10_method_92_code 5 (some .int) ∈ lwg := tG 1200 rfl rfl
set_option maxRecDepth 20000 in
theorem q1201 : Cond.constant "InsideOutModel" 299 (-1000007 : Int32) ∈ lwg := tG 1201 (by decide +kernel) (by decide +kernel)
set_option maxRecDepth 20000 in
theorem q1202 : Cond.methodLink "InsideOutLaw" 149 yX8_write ∈ lwg := tG 1202 (by decide +kernel) (by decide +kernel)
set_option maxRecDepth 20000 in
theorem q1203 : Cond.instanceMethod yX8_write ∈ lwg := tG 1203 (by decide +kernel) (by decide +kernel)
set_option maxRecDepth 20000 in
theorem q1204 : Cond.selects "InsideOutModel" yX8_write yX8_write ∈ lwg := tG 1204 (by decide +kernel) (by decide +kernel)
set_option maxRecDepth 20000 in
theorem q1205 : Cond.code yX8_write prog_10_method_93_code 4 (some .int) ∈ lwg := tG 1205 rfl rfl
set_option maxRecDepth 20000 in
theorem q1206 : Cond.methodLink "InsideOutLaw" 154 yX8_copy ∈ lwg := tG 1206 (by decide +kernel) (by decide +kernel)
set_option maxRecDepth 20000 in
theorem q1207 : Cond.instanceMethod yX8_copy ∈ lwg := tG 1207 (by decide +kernel) (by decide +kernel)
set_option maxRecDepth 20000 in
theorem q1208 : Cond.selects "InsideOutModel" yX8_copy yX8_copy ∈ lwg := tG 1208 (by decide +kernel) (by decide +kernel)
set_option maxRecDepth 20000 in
theorem q1209 : Cond.code yX8_copy prog_10_method_94_code 10 (some .int) ∈ lwg := tG 1209 rfl rfl
set_option maxRecDepth 20000 in
theorem q1210 : Cond.methodLink "InsideOutLaw" 158 yX8_load ∈ lwg := tG 1210 (by decide +kernel) (by decide +kernel)
set_option maxRecDepth 20000 in
theorem q1211 : Cond.instanceMethod yX8_load ∈ lwg := tG 1211 (by decide +kernel) (by decide +kernel)
set_option maxRecDepth 20000 in
theorem q1212 : Cond.selects "InsideOutModel" yX8_load yX8_load ∈ lwg := tG 1212 (by decide +kernel) (by decide +kernel)
set_option maxRecDepth 20000 in
theorem q1213 : Cond.code yX8_load prog_10_method_96_code 3 (some .int) ∈ lwg := tG 1213 rfl rfl
set_option maxRecDepth 20000 in
theorem q1214 : Cond.methodLink "InsideOutLaw" 162 yX8_judge ∈ lwg := tG 1214 (by decide +kernel) (by decide +kernel)
set_option maxRecDepth 20000 in
theorem q1215 : Cond.instanceMethod yX8_judge ∈ lwg := tG 1215 (by decide +kernel) (by decide +kernel)
set_option maxRecDepth 20000 in
theorem q1216 : Cond.selects "InsideOutModel" yX8_judge yX8_judge ∈ lwg := tG 1216 (by decide +kernel) (by decide +kernel)
set_option maxRecDepth 20000 in
theorem q1217 : Cond.code yX8_judge prog_10_method_97_code 3 (some .int) ∈ lwg := tG 1217 rfl rfl
set_option maxRecDepth 20000 in
theorem q1218 : Cond.methodLink "InsideOutLaw" 166 yX8_image ∈ lwg := tG 1218 (by decide +kernel) (by decide +kernel)
set_option maxRecDepth 20000 in
theorem q1219 : Cond.instanceMethod yX8_image ∈ lwg := tG 1219 (by decide +kernel) (by decide +kernel)
set_option maxRecDepth 20000 in
theorem q1220 : Cond.selects "InsideOutModel" yX8_image yX8_image ∈ lwg := tG 1220 (by decide +kernel) (by decide +kernel)
set_option maxRecDepth 20000 in
theorem q1221 : Cond.code yX8_image prog_10_method_98_code 1 (some .int) ∈ lwg := tG 1221 rfl rfl
set_option maxRecDepth 20000 in
theorem q1222 : Cond.methodLink "InsideOutLaw" 170 yX8_undo ∈ lwg := tG 1222 (by decide +kernel) (by decide +kernel)
set_option maxRecDepth 20000 in
theorem q1223 : Cond.instanceMethod yX8_undo ∈ lwg := tG 1223 (by decide +kernel) (by decide +kernel)
set_option maxRecDepth 20000 in
theorem q1224 : Cond.selects "InsideOutModel" yX8_undo yX8_undo ∈ lwg := tG 1224 (by decide +kernel) (by decide +kernel)
set_option maxRecDepth 20000 in
theorem q1225 : Cond.code yX8_undo prog_10_method_99_code 1 (some .int) ∈ lwg := tG 1225 rfl rfl
set_option maxRecDepth 20000 in
theorem q1226 : Cond.methodLink "InsideOutLaw" 174 yX8_tear ∈ lwg := tG 1226 (by decide +kernel) (by decide +kernel)
set_option maxRecDepth 20000 in
theorem q1227 : Cond.instanceMethod yX8_tear ∈ lwg := tG 1227 (by decide +kernel) (by decide +kernel)
set_option maxRecDepth 20000 in
theorem q1228 : Cond.selects "InsideOutModel" yX8_tear yX8_tear ∈ lwg := tG 1228 (by decide +kernel) (by decide +kernel)
set_option maxRecDepth 20000 in
theorem q1229 : Cond.code yX8_tear prog_10_method_100_code 2 (some .int) ∈ lwg := tG 1229 rfl rfl
set_option maxRecDepth 20000 in
theorem q1230 : Cond.methodLink "InsideOutLaw" 178 yX8_count ∈ lwg := tG 1230 (by decide +kernel) (by decide +kernel)
set_option maxRecDepth 20000 in
theorem q1231 : Cond.instanceMethod yX8_count ∈ lwg := tG 1231 (by decide +kernel) (by decide +kernel)
set_option maxRecDepth 20000 in
theorem q1232 : Cond.selects "InsideOutModel" yX8_count yX8_count ∈ lwg := tG 1232 (by decide +kernel) (by decide +kernel)
set_option maxRecDepth 20000 in
theorem q1233 : Cond.code yX8_count prog_10_method_101_code 4 (some .int) ∈ lwg := tG 1233 rfl rfl
set_option maxRecDepth 20000 in
theorem q1234 : Cond.methodLink "InsideOutLaw" 182 yX8_status ∈ lwg := tG 1234 (by decide +kernel) (by decide +kernel)
set_option maxRecDepth 20000 in
theorem q1235 : Cond.instanceMethod yX8_status ∈ lwg := tG 1235 (by decide +kernel) (by decide +kernel)
set_option maxRecDepth 20000 in
theorem q1236 : Cond.selects "InsideOutModel" yX8_status yX8_status ∈ lwg := tG 1236 (by decide +kernel) (by decide +kernel)
set_option maxRecDepth 20000 in
theorem q1237 : Cond.code yX8_status prog_10_method_102_code 2 (some .int) ∈ lwg := tG 1237 rfl rfl
set_option maxRecDepth 20000 in
theorem q1238 : Cond.constantLong "InsideOutModel" 304 (-1 : Int64) ∈ lwg := tG 1238 (by decide +kernel) (by decide +kernel)
set_option maxRecDepth 20000 in
theorem q1239 : Cond.fieldLink "java/lang/String" 9 "java/lang/String" "value" "[B" ∈ lwg := tG 1239 (by decide +kernel) (by decide +kernel)
set_option maxRecDepth 20000 in
theorem q1240 : Cond.fieldLink "java/lang/String" 15 "java/lang/String" "coder" "B" ∈ lwg := tG 1240 (by decide +kernel) (by decide +kernel)
theorem qs0 : Cond.selects yX7_finding.cls yX7_finding yX7_finding ∈ lwg := tP 0 (by decide +kernel) (by decide +kernel)
theorem qs1 : Cond.selects yX7_isUmbrella.cls yX7_isUmbrella yX7_isUmbrella ∈ lwg := tP 1 (by decide +kernel) (by decide +kernel)
theorem qs2 : Cond.selects yX4_holdByHabit.cls yX4_holdByHabit yX4_holdByHabit ∈ lwg := tP 2 (by decide +kernel) (by decide +kernel)
theorem qs3 : Cond.selects yX4_turn.cls yX4_turn yX4_turn ∈ lwg := tP 3 (by decide +kernel) (by decide +kernel)
theorem qs4 : Cond.selects yX7_startWalk.cls yX7_startWalk yX7_startWalk ∈ lwg := tP 4 (by decide +kernel) (by decide +kernel)
theorem qs5 : Cond.selects yX7_driest.cls yX7_driest yX7_driest ∈ lwg := tP 5 (by decide +kernel) (by decide +kernel)
theorem qs6 : Cond.selects yX7_fitting.cls yX7_fitting yX7_fitting ∈ lwg := tP 6 (by decide +kernel) (by decide +kernel)
theorem qs7 : Cond.selects yX0_readToken.cls yX0_readToken yX0_readToken ∈ lwg := tP 7 (by decide +kernel) (by decide +kernel)
theorem qs8 : Cond.selects yX0_readItem.cls yX0_readItem yX0_readItem ∈ lwg := tP 8 (by decide +kernel) (by decide +kernel)
theorem qs9 : Cond.selects yX0_isWord.cls yX0_isWord yX0_isWord ∈ lwg := tP 9 (by decide +kernel) (by decide +kernel)
theorem qs10 : Cond.selects yX0_readUmbrella.cls yX0_readUmbrella yX0_readUmbrella ∈ lwg := tP 10 (by decide +kernel) (by decide +kernel)
theorem qs11 : Cond.selects yX0_readMark.cls yX0_readMark yX0_readMark ∈ lwg := tP 11 (by decide +kernel) (by decide +kernel)
theorem qs12 : Cond.selects yX0_nextNumber.cls yX0_nextNumber yX0_nextNumber ∈ lwg := tP 12 (by decide +kernel) (by decide +kernel)
theorem qs13 : Cond.selects yX0_readWind.cls yX0_readWind yX0_readWind ∈ lwg := tP 13 (by decide +kernel) (by decide +kernel)
theorem qs14 : Cond.selects yX0_readRoof.cls yX0_readRoof yX0_readRoof ∈ lwg := tP 14 (by decide +kernel) (by decide +kernel)
theorem qs15 : Cond.selects yX0_readWeather.cls yX0_readWeather yX0_readWeather ∈ lwg := tP 15 (by decide +kernel) (by decide +kernel)
theorem qs16 : Cond.selects yX8_finds.cls yX8_finds yX8_finds ∈ lwg := tP 16 (by decide +kernel) (by decide +kernel)
theorem qs17 : Cond.selects yX8_becomes.cls yX8_becomes yX8_becomes ∈ lwg := tP 17 (by decide +kernel) (by decide +kernel)
theorem qs18 : Cond.selects yX8_wind.cls yX8_wind yX8_wind ∈ lwg := tP 18 (by decide +kernel) (by decide +kernel)
theorem qs19 : Cond.selects yX8_there.cls yX8_there yX8_there ∈ lwg := tP 19 (by decide +kernel) (by decide +kernel)
theorem qs20 : Cond.selects yX8_its.cls yX8_its yX8_its ∈ lwg := tP 20 (by decide +kernel) (by decide +kernel)
theorem qs21 : Cond.selects yX8_comes.cls yX8_comes yX8_comes ∈ lwg := tP 21 (by decide +kernel) (by decide +kernel)
theorem qs22 : Cond.selects yX8_isUmbrella.cls yX8_isUmbrella yX8_isUmbrella ∈ lwg := tP 22 (by decide +kernel) (by decide +kernel)
theorem qs23 : Cond.selects yX8_stiff.cls yX8_stiff yX8_stiff ∈ lwg := tP 23 (by decide +kernel) (by decide +kernel)
theorem qs24 : Cond.selects yX8_covers.cls yX8_covers yX8_covers ∈ lwg := tP 24 (by decide +kernel) (by decide +kernel)
theorem qs25 : Cond.selects yX8_pace.cls yX8_pace yX8_pace ∈ lwg := tP 25 (by decide +kernel) (by decide +kernel)
theorem qs26 : Cond.selects yX8_bearsOn.cls yX8_bearsOn yX8_bearsOn ∈ lwg := tP 26 (by decide +kernel) (by decide +kernel)
theorem qs27 : Cond.selects yX8_tick.cls yX8_tick yX8_tick ∈ lwg := tP 27 (by decide +kernel) (by decide +kernel)
theorem qs28 : Cond.selects yX8_isHome.cls yX8_isHome yX8_isHome ∈ lwg := tP 28 (by decide +kernel) (by decide +kernel)
theorem qs29 : Cond.selects yX8_goesOn.cls yX8_goesOn yX8_goesOn ∈ lwg := tP 29 (by decide +kernel) (by decide +kernel)
theorem qs30 : Cond.selects yX8_heldBy.cls yX8_heldBy yX8_heldBy ∈ lwg := tP 30 (by decide +kernel) (by decide +kernel)
theorem qs31 : Cond.selects yX8_homes.cls yX8_homes yX8_homes ∈ lwg := tP 31 (by decide +kernel) (by decide +kernel)
theorem qs32 : Cond.selects yX8_sumOf.cls yX8_sumOf yX8_sumOf ∈ lwg := tP 32 (by decide +kernel) (by decide +kernel)
theorem qs33 : Cond.selects yX8_outs.cls yX8_outs yX8_outs ∈ lwg := tP 33 (by decide +kernel) (by decide +kernel)
theorem qs34 : Cond.selects yX8_roofs.cls yX8_roofs yX8_roofs ∈ lwg := tP 34 (by decide +kernel) (by decide +kernel)
theorem qs35 : Cond.selects yX8_goesAlone.cls yX8_goesAlone yX8_goesAlone ∈ lwg := tP 35 (by decide +kernel) (by decide +kernel)
theorem qs36 : Cond.selects yX8_follows.cls yX8_follows yX8_follows ∈ lwg := tP 36 (by decide +kernel) (by decide +kernel)
theorem qs37 : Cond.selects yX8_orNone.cls yX8_orNone yX8_orNone ∈ lwg := tP 37 (by decide +kernel) (by decide +kernel)
theorem qs38 : Cond.selects yX8_bestOf.cls yX8_bestOf yX8_bestOf ∈ lwg := tP 38 (by decide +kernel) (by decide +kernel)
theorem qs39 : Cond.selects yX8_begins.cls yX8_begins yX8_begins ∈ lwg := tP 39 (by decide +kernel) (by decide +kernel)
theorem qs40 : Cond.selects yX8_looksAt.cls yX8_looksAt yX8_looksAt ∈ lwg := tP 40 (by decide +kernel) (by decide +kernel)
theorem qs41 : Cond.selects yX8_isWhole.cls yX8_isWhole yX8_isWhole ∈ lwg := tP 41 (by decide +kernel) (by decide +kernel)
theorem qs42 : Cond.selects yX8_wantsFor.cls yX8_wantsFor yX8_wantsFor ∈ lwg := tP 42 (by decide +kernel) (by decide +kernel)
theorem qs43 : Cond.selects yX8_wants.cls yX8_wants yX8_wants ∈ lwg := tP 43 (by decide +kernel) (by decide +kernel)
theorem qs44 : Cond.selects yX8_couldBe.cls yX8_couldBe yX8_couldBe ∈ lwg := tP 44 (by decide +kernel) (by decide +kernel)
theorem qs45 : Cond.selects yX8_isTold.cls yX8_isTold yX8_isTold ∈ lwg := tP 45 (by decide +kernel) (by decide +kernel)
theorem qs46 : Cond.selects yX8_draw.cls yX8_draw yX8_draw ∈ lwg := tP 46 (by decide +kernel) (by decide +kernel)
theorem qs47 : Cond.selects yX8_nextToken.cls yX8_nextToken yX8_nextToken ∈ lwg := tP 47 (by decide +kernel) (by decide +kernel)
theorem qs48 : Cond.selects yX8_byteAt.cls yX8_byteAt yX8_byteAt ∈ lwg := tP 48 (by decide +kernel) (by decide +kernel)
theorem qs49 : Cond.selects yX8_kindHere.cls yX8_kindHere yX8_kindHere ∈ lwg := tP 49 (by decide +kernel) (by decide +kernel)
theorem qs50 : Cond.selects yX8_isWord.cls yX8_isWord yX8_isWord ∈ lwg := tP 50 (by decide +kernel) (by decide +kernel)
theorem qs51 : Cond.selects yX8_has3.cls yX8_has3 yX8_has3 ∈ lwg := tP 51 (by decide +kernel) (by decide +kernel)
theorem qs52 : Cond.selects yX8_isFive.cls yX8_isFive yX8_isFive ∈ lwg := tP 52 (by decide +kernel) (by decide +kernel)
theorem qs53 : Cond.selects yX8_isFour.cls yX8_isFour yX8_isFour ∈ lwg := tP 53 (by decide +kernel) (by decide +kernel)
theorem qs54 : Cond.selects yX8_isSix.cls yX8_isSix yX8_isSix ∈ lwg := tP 54 (by decide +kernel) (by decide +kernel)
theorem qs55 : Cond.selects yX8_umbrellaHere.cls yX8_umbrellaHere yX8_umbrellaHere ∈ lwg := tP 55 (by decide +kernel) (by decide +kernel)
theorem qs56 : Cond.selects yX8_fails.cls yX8_fails yX8_fails ∈ lwg := tP 56 (by decide +kernel) (by decide +kernel)
theorem qs57 : Cond.selects yX8_isTwo.cls yX8_isTwo yX8_isTwo ∈ lwg := tP 57 (by decide +kernel) (by decide +kernel)
theorem qs58 : Cond.selects yX8_perhaps.cls yX8_perhaps yX8_perhaps ∈ lwg := tP 58 (by decide +kernel) (by decide +kernel)
theorem qs59 : Cond.selects yX8_isNumber.cls yX8_isNumber yX8_isNumber ∈ lwg := tP 59 (by decide +kernel) (by decide +kernel)
theorem qs60 : Cond.selects yX8_streetHere.cls yX8_streetHere yX8_streetHere ∈ lwg := tP 60 (by decide +kernel) (by decide +kernel)
theorem qs61 : Cond.selects yX8_stepHere.cls yX8_stepHere yX8_stepHere ∈ lwg := tP 61 (by decide +kernel) (by decide +kernel)
theorem qs62 : Cond.selects yX8_roofHere.cls yX8_roofHere yX8_roofHere ∈ lwg := tP 62 (by decide +kernel) (by decide +kernel)
theorem qs63 : Cond.selects yX8_weatherHere.cls yX8_weatherHere yX8_weatherHere ∈ lwg := tP 63 (by decide +kernel) (by decide +kernel)
theorem inG0 : ∀ w ∈ u_ws RX0 TX0 5, w ∈ lwg := (fcons q183 (fcons q185 (fcons q187 (fcons q189 (fcons q191 (fun _ h => absurd h List.not_mem_nil))))))
theorem inG1 : ∀ w ∈ u_ws RX1 TX1 3, w ∈ lwg := (fcons q209 (fcons q211 (fcons q213 (fun _ h => absurd h List.not_mem_nil))))
theorem inG2 : ∀ w ∈ u_ws RX2 TX2 6, w ∈ lwg := (fcons q63 (fcons q65 (fcons q67 (fcons q69 (fcons q71 (fcons q73 (fun _ h => absurd h List.not_mem_nil)))))))
theorem inG3 : ∀ w ∈ u_ws RX3 TX3 2, w ∈ lwg := (fcons q167 (fcons q169 (fun _ h => absurd h List.not_mem_nil)))
theorem inG4 : ∀ w ∈ u_ws RX4 TX4 8, w ∈ lwg := (fcons q97 (fcons q99 (fcons q101 (fcons q103 (fcons q105 (fcons q107 (fcons q109 (fcons q111 (fun _ h => absurd h List.not_mem_nil)))))))))
theorem inG5 : ∀ w ∈ u_ws RX5 TX5 2, w ∈ lwg := (fcons q152 (fcons q154 (fun _ h => absurd h List.not_mem_nil)))
theorem inG6 : ∀ w ∈ u_ws RX6 TX6 5, w ∈ lwg := (fcons q127 (fcons q129 (fcons q131 (fcons q133 (fcons q135 (fun _ h => absurd h List.not_mem_nil))))))
theorem inG7 : ∀ w ∈ u_ws RX7 TX7 9, w ∈ lwg := (fcons q225 (fcons q227 (fcons q229 (fcons q231 (fcons q233 (fcons q235 (fcons q237 (fcons q239 (fcons q241 (fun _ h => absurd h List.not_mem_nil))))))))))
theorem inG8 : ∀ w ∈ u_ws RX8 TX8 21, w ∈ lwg := (fcons q781 (fcons q783 (fcons q785 (fcons q787 (fcons q789 (fcons q791 (fcons q793 (fcons q795 (fcons q797 (fcons q799 (fcons q801 (fcons q803 (fcons q805 (fcons q807 (fcons q809 (fcons q811 (fcons q813 (fcons q815 (fcons q817 (fcons q819 (fcons q821 (fun _ h => absurd h List.not_mem_nil))))))))))))))))))))))
end
section
theorem FX2_9 : FF RX2 9 2 0 := ⟨RX2, TX2, 6, tyX2, rfl, by decide, q41, inG2, tyX2_ok, nmX2⟩
theorem FX7_72 : FF RX7 72 2 0 := ⟨RX2, TX2, 6, tyX2, rfl, by decide, q42, inG2, tyX2_ok, nmX2⟩
theorem FX0_116 : FF RX0 116 2 0 := ⟨RX2, TX2, 6, tyX2, rfl, by decide, q43, inG2, tyX2_ok, nmX2⟩
theorem FX4_57 : FF RX4 57 2 0 := ⟨RX2, TX2, 6, tyX2, rfl, by decide, q44, inG2, tyX2_ok, nmX2⟩
theorem FX2_15 : FF RX2 15 2 1 := ⟨RX2, TX2, 6, tyX2, rfl, by decide, q45, inG2, tyX2_ok, nmX2⟩
theorem FX7_77 : FF RX7 77 2 1 := ⟨RX2, TX2, 6, tyX2, rfl, by decide, q46, inG2, tyX2_ok, nmX2⟩
theorem FX0_121 : FF RX0 121 2 1 := ⟨RX2, TX2, 6, tyX2, rfl, by decide, q47, inG2, tyX2_ok, nmX2⟩
theorem FX2_18 : FF RX2 18 2 2 := ⟨RX2, TX2, 6, tyX2, rfl, by decide, q48, inG2, tyX2_ok, nmX2⟩
theorem FX7_80 : FF RX7 80 2 2 := ⟨RX2, TX2, 6, tyX2, rfl, by decide, q49, inG2, tyX2_ok, nmX2⟩
theorem FX5_36 : FF RX5 36 2 2 := ⟨RX2, TX2, 6, tyX2, rfl, by decide, q50, inG2, tyX2_ok, nmX2⟩
theorem FX0_124 : FF RX0 124 2 2 := ⟨RX2, TX2, 6, tyX2, rfl, by decide, q51, inG2, tyX2_ok, nmX2⟩
theorem FX4_81 : FF RX4 81 2 2 := ⟨RX2, TX2, 6, tyX2, rfl, by decide, q52, inG2, tyX2_ok, nmX2⟩
theorem FX2_21 : FF RX2 21 2 3 := ⟨RX2, TX2, 6, tyX2, rfl, by decide, q53, inG2, tyX2_ok, nmX2⟩
theorem PX2_21 : FP RX2 21 2 3 "I" := ⟨RX2, TX2, 6, tyX2, ⟨rfl, by decide, q53, inG2, tyX2_ok, nmX2⟩, rfl, rfl⟩
theorem FX7_94 : FF RX7 94 2 3 := ⟨RX2, TX2, 6, tyX2, rfl, by decide, q54, inG2, tyX2_ok, nmX2⟩
theorem PX7_94 : FP RX7 94 2 3 "I" := ⟨RX2, TX2, 6, tyX2, ⟨rfl, by decide, q54, inG2, tyX2_ok, nmX2⟩, rfl, rfl⟩
theorem FX4_42 : FF RX4 42 2 3 := ⟨RX2, TX2, 6, tyX2, rfl, by decide, q55, inG2, tyX2_ok, nmX2⟩
theorem PX4_42 : FP RX4 42 2 3 "I" := ⟨RX2, TX2, 6, tyX2, ⟨rfl, by decide, q55, inG2, tyX2_ok, nmX2⟩, rfl, rfl⟩
theorem FX0_126 : FF RX0 126 2 3 := ⟨RX2, TX2, 6, tyX2, rfl, by decide, q56, inG2, tyX2_ok, nmX2⟩
theorem PX0_126 : FP RX0 126 2 3 "I" := ⟨RX2, TX2, 6, tyX2, ⟨rfl, by decide, q56, inG2, tyX2_ok, nmX2⟩, rfl, rfl⟩
theorem FX2_25 : FF RX2 25 2 4 := ⟨RX2, TX2, 6, tyX2, rfl, by decide, q57, inG2, tyX2_ok, nmX2⟩
theorem PX2_25 : FP RX2 25 2 4 "I" := ⟨RX2, TX2, 6, tyX2, ⟨rfl, by decide, q57, inG2, tyX2_ok, nmX2⟩, rfl, rfl⟩
theorem FX7_98 : FF RX7 98 2 4 := ⟨RX2, TX2, 6, tyX2, rfl, by decide, q58, inG2, tyX2_ok, nmX2⟩
theorem PX7_98 : FP RX7 98 2 4 "I" := ⟨RX2, TX2, 6, tyX2, ⟨rfl, by decide, q58, inG2, tyX2_ok, nmX2⟩, rfl, rfl⟩
theorem FX0_128 : FF RX0 128 2 4 := ⟨RX2, TX2, 6, tyX2, rfl, by decide, q59, inG2, tyX2_ok, nmX2⟩
theorem PX0_128 : FP RX0 128 2 4 "I" := ⟨RX2, TX2, 6, tyX2, ⟨rfl, by decide, q59, inG2, tyX2_ok, nmX2⟩, rfl, rfl⟩
theorem FX2_28 : FF RX2 28 2 5 := ⟨RX2, TX2, 6, tyX2, rfl, by decide, q60, inG2, tyX2_ok, nmX2⟩
theorem PX2_28 : FP RX2 28 2 5 "I" := ⟨RX2, TX2, 6, tyX2, ⟨rfl, by decide, q60, inG2, tyX2_ok, nmX2⟩, rfl, rfl⟩
theorem FX7_128 : FF RX7 128 2 5 := ⟨RX2, TX2, 6, tyX2, rfl, by decide, q61, inG2, tyX2_ok, nmX2⟩
theorem PX7_128 : FP RX7 128 2 5 "I" := ⟨RX2, TX2, 6, tyX2, ⟨rfl, by decide, q61, inG2, tyX2_ok, nmX2⟩, rfl, rfl⟩
theorem FX4_50 : FF RX4 50 2 5 := ⟨RX2, TX2, 6, tyX2, rfl, by decide, q62, inG2, tyX2_ok, nmX2⟩
theorem PX4_50 : FP RX4 50 2 5 "I" := ⟨RX2, TX2, 6, tyX2, ⟨rfl, by decide, q62, inG2, tyX2_ok, nmX2⟩, rfl, rfl⟩
theorem FX4_9 : FF RX4 9 4 0 := ⟨RX4, TX4, 8, tyX4, rfl, by decide, q84, inG4, tyX4_ok, nmX4⟩
theorem PX4_9 : FP RX4 9 4 0 "I" := ⟨RX4, TX4, 8, tyX4, ⟨rfl, by decide, q84, inG4, tyX4_ok, nmX4⟩, rfl, rfl⟩
theorem FX7_223 : FF RX7 223 4 0 := ⟨RX4, TX4, 8, tyX4, rfl, by decide, q85, inG4, tyX4_ok, nmX4⟩
theorem PX7_223 : FP RX7 223 4 0 "I" := ⟨RX4, TX4, 8, tyX4, ⟨rfl, by decide, q85, inG4, tyX4_ok, nmX4⟩, rfl, rfl⟩
theorem FX4_15 : FF RX4 15 4 1 := ⟨RX4, TX4, 8, tyX4, rfl, by decide, q86, inG4, tyX4_ok, nmX4⟩
theorem PX4_15 : FP RX4 15 4 1 "I" := ⟨RX4, TX4, 8, tyX4, ⟨rfl, by decide, q86, inG4, tyX4_ok, nmX4⟩, rfl, rfl⟩
theorem FX5_52 : FF RX5 52 4 1 := ⟨RX4, TX4, 8, tyX4, rfl, by decide, q87, inG4, tyX4_ok, nmX4⟩
theorem PX5_52 : FP RX5 52 4 1 "I" := ⟨RX4, TX4, 8, tyX4, ⟨rfl, by decide, q87, inG4, tyX4_ok, nmX4⟩, rfl, rfl⟩
theorem FX4_18 : FF RX4 18 4 2 := ⟨RX4, TX4, 8, tyX4, rfl, by decide, q88, inG4, tyX4_ok, nmX4⟩
theorem PX4_18 : FP RX4 18 4 2 "I" := ⟨RX4, TX4, 8, tyX4, ⟨rfl, by decide, q88, inG4, tyX4_ok, nmX4⟩, rfl, rfl⟩
theorem FX4_21 : FF RX4 21 4 3 := ⟨RX4, TX4, 8, tyX4, rfl, by decide, q89, inG4, tyX4_ok, nmX4⟩
theorem PX4_21 : FP RX4 21 4 3 "I" := ⟨RX4, TX4, 8, tyX4, ⟨rfl, by decide, q89, inG4, tyX4_ok, nmX4⟩, rfl, rfl⟩
theorem FX4_24 : FF RX4 24 4 4 := ⟨RX4, TX4, 8, tyX4, rfl, by decide, q90, inG4, tyX4_ok, nmX4⟩
theorem PX4_24 : FP RX4 24 4 4 "I" := ⟨RX4, TX4, 8, tyX4, ⟨rfl, by decide, q90, inG4, tyX4_ok, nmX4⟩, rfl, rfl⟩
theorem FX7_185 : FF RX7 185 4 4 := ⟨RX4, TX4, 8, tyX4, rfl, by decide, q91, inG4, tyX4_ok, nmX4⟩
theorem PX7_185 : FP RX7 185 4 4 "I" := ⟨RX4, TX4, 8, tyX4, ⟨rfl, by decide, q91, inG4, tyX4_ok, nmX4⟩, rfl, rfl⟩
theorem FX4_27 : FF RX4 27 4 5 := ⟨RX4, TX4, 8, tyX4, rfl, by decide, q92, inG4, tyX4_ok, nmX4⟩
theorem PX4_27 : FP RX4 27 4 5 "I" := ⟨RX4, TX4, 8, tyX4, ⟨rfl, by decide, q92, inG4, tyX4_ok, nmX4⟩, rfl, rfl⟩
theorem FX4_30 : FF RX4 30 4 6 := ⟨RX4, TX4, 8, tyX4, rfl, by decide, q93, inG4, tyX4_ok, nmX4⟩
theorem PX4_30 : FP RX4 30 4 6 "I" := ⟨RX4, TX4, 8, tyX4, ⟨rfl, by decide, q93, inG4, tyX4_ok, nmX4⟩, rfl, rfl⟩
theorem FX5_59 : FF RX5 59 4 6 := ⟨RX4, TX4, 8, tyX4, rfl, by decide, q94, inG4, tyX4_ok, nmX4⟩
theorem PX5_59 : FP RX5 59 4 6 "I" := ⟨RX4, TX4, 8, tyX4, ⟨rfl, by decide, q94, inG4, tyX4_ok, nmX4⟩, rfl, rfl⟩
theorem FX4_33 : FF RX4 33 4 7 := ⟨RX4, TX4, 8, tyX4, rfl, by decide, q95, inG4, tyX4_ok, nmX4⟩
theorem PX4_33 : FP RX4 33 4 7 "I" := ⟨RX4, TX4, 8, tyX4, ⟨rfl, by decide, q95, inG4, tyX4_ok, nmX4⟩, rfl, rfl⟩
theorem FX7_271 : FF RX7 271 4 7 := ⟨RX4, TX4, 8, tyX4, rfl, by decide, q96, inG4, tyX4_ok, nmX4⟩
theorem PX7_271 : FP RX7 271 4 7 "I" := ⟨RX4, TX4, 8, tyX4, ⟨rfl, by decide, q96, inG4, tyX4_ok, nmX4⟩, rfl, rfl⟩
theorem FX6_12 : FF RX6 12 6 0 := ⟨RX6, TX6, 5, tyX6, rfl, by decide, q115, inG6, tyX6_ok, nmX6⟩
theorem FX7_68 : FF RX7 68 6 0 := ⟨RX6, TX6, 5, tyX6, rfl, by decide, q116, inG6, tyX6_ok, nmX6⟩
theorem FX0_50 : FF RX0 50 6 0 := ⟨RX6, TX6, 5, tyX6, rfl, by decide, q117, inG6, tyX6_ok, nmX6⟩
theorem FX6_20 : FF RX6 20 6 1 := ⟨RX6, TX6, 5, tyX6, rfl, by decide, q118, inG6, tyX6_ok, nmX6⟩
theorem FX0_79 : FF RX0 79 6 1 := ⟨RX6, TX6, 5, tyX6, rfl, by decide, q119, inG6, tyX6_ok, nmX6⟩
theorem FX7_114 : FF RX7 114 6 1 := ⟨RX6, TX6, 5, tyX6, rfl, by decide, q120, inG6, tyX6_ok, nmX6⟩
theorem FX6_24 : FF RX6 24 6 2 := ⟨RX6, TX6, 5, tyX6, rfl, by decide, q121, inG6, tyX6_ok, nmX6⟩
theorem PX6_24 : FP RX6 24 6 2 "I" := ⟨RX6, TX6, 5, tyX6, ⟨rfl, by decide, q121, inG6, tyX6_ok, nmX6⟩, rfl, rfl⟩
theorem FX7_175 : FF RX7 175 6 2 := ⟨RX6, TX6, 5, tyX6, rfl, by decide, q122, inG6, tyX6_ok, nmX6⟩
theorem PX7_175 : FP RX7 175 6 2 "I" := ⟨RX6, TX6, 5, tyX6, ⟨rfl, by decide, q122, inG6, tyX6_ok, nmX6⟩, rfl, rfl⟩
theorem FX6_28 : FF RX6 28 6 3 := ⟨RX6, TX6, 5, tyX6, rfl, by decide, q123, inG6, tyX6_ok, nmX6⟩
theorem FX7_220 : FF RX7 220 6 3 := ⟨RX6, TX6, 5, tyX6, rfl, by decide, q124, inG6, tyX6_ok, nmX6⟩
theorem FX6_32 : FF RX6 32 6 4 := ⟨RX6, TX6, 5, tyX6, rfl, by decide, q125, inG6, tyX6_ok, nmX6⟩
theorem PX6_32 : FP RX6 32 6 4 "I" := ⟨RX6, TX6, 5, tyX6, ⟨rfl, by decide, q125, inG6, tyX6_ok, nmX6⟩, rfl, rfl⟩
theorem FX7_200 : FF RX7 200 6 4 := ⟨RX6, TX6, 5, tyX6, rfl, by decide, q126, inG6, tyX6_ok, nmX6⟩
theorem PX7_200 : FP RX7 200 6 4 "I" := ⟨RX6, TX6, 5, tyX6, ⟨rfl, by decide, q126, inG6, tyX6_ok, nmX6⟩, rfl, rfl⟩
theorem FX5_12 : FF RX5 12 5 0 := ⟨RX5, TX5, 2, tyX5, rfl, by decide, q148, inG5, tyX5_ok, nmX5⟩
theorem FX7_181 : FF RX7 181 5 0 := ⟨RX5, TX5, 2, tyX5, rfl, by decide, q149, inG5, tyX5_ok, nmX5⟩
theorem FX5_21 : FF RX5 21 5 1 := ⟨RX5, TX5, 2, tyX5, rfl, by decide, q150, inG5, tyX5_ok, nmX5⟩
theorem FX7_165 : FF RX7 165 5 1 := ⟨RX5, TX5, 2, tyX5, rfl, by decide, q151, inG5, tyX5_ok, nmX5⟩
theorem FX3_9 : FF RX3 9 3 0 := ⟨RX3, TX3, 2, tyX3, rfl, by decide, q163, inG3, tyX3_ok, nmX3⟩
theorem FX3_15 : FF RX3 15 3 1 := ⟨RX3, TX3, 2, tyX3, rfl, by decide, q164, inG3, tyX3_ok, nmX3⟩
theorem PX3_15 : FP RX3 15 3 1 "I" := ⟨RX3, TX3, 2, tyX3, ⟨rfl, by decide, q164, inG3, tyX3_ok, nmX3⟩, rfl, rfl⟩
theorem FX0_145 : FF RX0 145 3 1 := ⟨RX3, TX3, 2, tyX3, rfl, by decide, q165, inG3, tyX3_ok, nmX3⟩
theorem PX0_145 : FP RX0 145 3 1 "I" := ⟨RX3, TX3, 2, tyX3, ⟨rfl, by decide, q165, inG3, tyX3_ok, nmX3⟩, rfl, rfl⟩
theorem FX7_203 : FF RX7 203 3 1 := ⟨RX3, TX3, 2, tyX3, rfl, by decide, q166, inG3, tyX3_ok, nmX3⟩
theorem PX7_203 : FP RX7 203 3 1 "I" := ⟨RX3, TX3, 2, tyX3, ⟨rfl, by decide, q166, inG3, tyX3_ok, nmX3⟩, rfl, rfl⟩
theorem FX0_24 : FF RX0 24 0 0 := ⟨RX0, TX0, 5, tyX0, rfl, by decide, q178, inG0, tyX0_ok, nmX0⟩
theorem FX0_9 : FF RX0 9 0 1 := ⟨RX0, TX0, 5, tyX0, rfl, by decide, q179, inG0, tyX0_ok, nmX0⟩
theorem PX0_9 : FP RX0 9 0 1 "I" := ⟨RX0, TX0, 5, tyX0, ⟨rfl, by decide, q179, inG0, tyX0_ok, nmX0⟩, rfl, rfl⟩
theorem FX0_15 : FF RX0 15 0 2 := ⟨RX0, TX0, 5, tyX0, rfl, by decide, q180, inG0, tyX0_ok, nmX0⟩
theorem PX0_15 : FP RX0 15 0 2 "I" := ⟨RX0, TX0, 5, tyX0, ⟨rfl, by decide, q180, inG0, tyX0_ok, nmX0⟩, rfl, rfl⟩
theorem FX0_18 : FF RX0 18 0 3 := ⟨RX0, TX0, 5, tyX0, rfl, by decide, q181, inG0, tyX0_ok, nmX0⟩
theorem PX0_18 : FP RX0 18 0 3 "I" := ⟨RX0, TX0, 5, tyX0, ⟨rfl, by decide, q181, inG0, tyX0_ok, nmX0⟩, rfl, rfl⟩
theorem FX0_21 : FF RX0 21 0 4 := ⟨RX0, TX0, 5, tyX0, rfl, by decide, q182, inG0, tyX0_ok, nmX0⟩
theorem PX0_21 : FP RX0 21 0 4 "I" := ⟨RX0, TX0, 5, tyX0, ⟨rfl, by decide, q182, inG0, tyX0_ok, nmX0⟩, rfl, rfl⟩
theorem FX1_9 : FF RX1 9 1 0 := ⟨RX1, TX1, 3, tyX1, rfl, by decide, q201, inG1, tyX1_ok, nmX1⟩
theorem FX5_67 : FF RX5 67 1 0 := ⟨RX1, TX1, 3, tyX1, rfl, by decide, q202, inG1, tyX1_ok, nmX1⟩
theorem FX7_248 : FF RX7 248 1 0 := ⟨RX1, TX1, 3, tyX1, rfl, by decide, q203, inG1, tyX1_ok, nmX1⟩
theorem FX1_15 : FF RX1 15 1 1 := ⟨RX1, TX1, 3, tyX1, rfl, by decide, q204, inG1, tyX1_ok, nmX1⟩
theorem PX1_15 : FP RX1 15 1 1 "I" := ⟨RX1, TX1, 3, tyX1, ⟨rfl, by decide, q204, inG1, tyX1_ok, nmX1⟩, rfl, rfl⟩
theorem FX7_242 : FF RX7 242 1 1 := ⟨RX1, TX1, 3, tyX1, rfl, by decide, q205, inG1, tyX1_ok, nmX1⟩
theorem PX7_242 : FP RX7 242 1 1 "I" := ⟨RX1, TX1, 3, tyX1, ⟨rfl, by decide, q205, inG1, tyX1_ok, nmX1⟩, rfl, rfl⟩
theorem FX1_19 : FF RX1 19 1 2 := ⟨RX1, TX1, 3, tyX1, rfl, by decide, q206, inG1, tyX1_ok, nmX1⟩
theorem PX1_19 : FP RX1 19 1 2 "I" := ⟨RX1, TX1, 3, tyX1, ⟨rfl, by decide, q206, inG1, tyX1_ok, nmX1⟩, rfl, rfl⟩
theorem FX5_62 : FF RX5 62 1 2 := ⟨RX1, TX1, 3, tyX1, rfl, by decide, q207, inG1, tyX1_ok, nmX1⟩
theorem PX5_62 : FP RX5 62 1 2 "I" := ⟨RX1, TX1, 3, tyX1, ⟨rfl, by decide, q207, inG1, tyX1_ok, nmX1⟩, rfl, rfl⟩
theorem FX7_235 : FF RX7 235 1 2 := ⟨RX1, TX1, 3, tyX1, rfl, by decide, q208, inG1, tyX1_ok, nmX1⟩
theorem PX7_235 : FP RX7 235 1 2 "I" := ⟨RX1, TX1, 3, tyX1, ⟨rfl, by decide, q208, inG1, tyX1_ok, nmX1⟩, rfl, rfl⟩
theorem FX7_10 : FF RX7 10 7 0 := ⟨RX7, TX7, 9, tyX7, rfl, by decide, q216, inG7, tyX7_ok, nmX7⟩
theorem FX7_16 : FF RX7 16 7 1 := ⟨RX7, TX7, 9, tyX7, rfl, by decide, q217, inG7, tyX7_ok, nmX7⟩
theorem FX7_19 : FF RX7 19 7 2 := ⟨RX7, TX7, 9, tyX7, rfl, by decide, q218, inG7, tyX7_ok, nmX7⟩
theorem FX7_22 : FF RX7 22 7 3 := ⟨RX7, TX7, 9, tyX7, rfl, by decide, q219, inG7, tyX7_ok, nmX7⟩
theorem PX7_22 : FP RX7 22 7 3 "Z" := ⟨RX7, TX7, 9, tyX7, ⟨rfl, by decide, q219, inG7, tyX7_ok, nmX7⟩, rfl, rfl⟩
theorem FX7_29 : FF RX7 29 7 4 := ⟨RX7, TX7, 9, tyX7, rfl, by decide, q220, inG7, tyX7_ok, nmX7⟩
theorem FX7_36 : FF RX7 36 7 5 := ⟨RX7, TX7, 9, tyX7, rfl, by decide, q221, inG7, tyX7_ok, nmX7⟩
theorem FX7_45 : FF RX7 45 7 6 := ⟨RX7, TX7, 9, tyX7, rfl, by decide, q222, inG7, tyX7_ok, nmX7⟩
theorem FX7_51 : FF RX7 51 7 7 := ⟨RX7, TX7, 9, tyX7, rfl, by decide, q223, inG7, tyX7_ok, nmX7⟩
theorem FX7_55 : FF RX7 55 7 8 := ⟨RX7, TX7, 9, tyX7, rfl, by decide, q224, inG7, tyX7_ok, nmX7⟩
theorem FX8_7 : FF RX8 7 8 0 := ⟨RX8, TX8, 21, tyX8, rfl, by decide, q760, inG8, tyX8_ok, nmX8⟩
theorem FX8_13 : FF RX8 13 8 1 := ⟨RX8, TX8, 21, tyX8, rfl, by decide, q761, inG8, tyX8_ok, nmX8⟩
theorem FX8_16 : FF RX8 16 8 2 := ⟨RX8, TX8, 21, tyX8, rfl, by decide, q762, inG8, tyX8_ok, nmX8⟩
theorem FX8_19 : FF RX8 19 8 3 := ⟨RX8, TX8, 21, tyX8, rfl, by decide, q763, inG8, tyX8_ok, nmX8⟩
theorem FX8_300 : FF RX8 300 8 4 := ⟨RX8, TX8, 21, tyX8, rfl, by decide, q764, inG8, tyX8_ok, nmX8⟩
theorem PX8_300 : FP RX8 300 8 4 "Z" := ⟨RX8, TX8, 21, tyX8, ⟨rfl, by decide, q764, inG8, tyX8_ok, nmX8⟩, rfl, rfl⟩
theorem FX8_22 : FF RX8 22 8 5 := ⟨RX8, TX8, 21, tyX8, rfl, by decide, q765, inG8, tyX8_ok, nmX8⟩
theorem FX8_25 : FF RX8 25 8 6 := ⟨RX8, TX8, 21, tyX8, rfl, by decide, q766, inG8, tyX8_ok, nmX8⟩
theorem FX8_209 : FF RX8 209 8 7 := ⟨RX8, TX8, 21, tyX8, rfl, by decide, q767, inG8, tyX8_ok, nmX8⟩
theorem PX8_209 : FP RX8 209 8 7 "I" := ⟨RX8, TX8, 21, tyX8, ⟨rfl, by decide, q767, inG8, tyX8_ok, nmX8⟩, rfl, rfl⟩
theorem FX8_28 : FF RX8 28 8 8 := ⟨RX8, TX8, 21, tyX8, rfl, by decide, q768, inG8, tyX8_ok, nmX8⟩
theorem FX8_31 : FF RX8 31 8 9 := ⟨RX8, TX8, 21, tyX8, rfl, by decide, q769, inG8, tyX8_ok, nmX8⟩
theorem FX8_34 : FF RX8 34 8 10 := ⟨RX8, TX8, 21, tyX8, rfl, by decide, q770, inG8, tyX8_ok, nmX8⟩
theorem FX8_147 : FF RX8 147 8 11 := ⟨RX8, TX8, 21, tyX8, rfl, by decide, q771, inG8, tyX8_ok, nmX8⟩
theorem PX8_147 : FP RX8 147 8 11 "I" := ⟨RX8, TX8, 21, tyX8, ⟨rfl, by decide, q771, inG8, tyX8_ok, nmX8⟩, rfl, rfl⟩
theorem FX8_151 : FF RX8 151 8 12 := ⟨RX8, TX8, 21, tyX8, rfl, by decide, q772, inG8, tyX8_ok, nmX8⟩
theorem PX8_151 : FP RX8 151 8 12 "I" := ⟨RX8, TX8, 21, tyX8, ⟨rfl, by decide, q772, inG8, tyX8_ok, nmX8⟩, rfl, rfl⟩
theorem FX8_154 : FF RX8 154 8 13 := ⟨RX8, TX8, 21, tyX8, rfl, by decide, q773, inG8, tyX8_ok, nmX8⟩
theorem PX8_154 : FP RX8 154 8 13 "I" := ⟨RX8, TX8, 21, tyX8, ⟨rfl, by decide, q773, inG8, tyX8_ok, nmX8⟩, rfl, rfl⟩
theorem FX8_163 : FF RX8 163 8 14 := ⟨RX8, TX8, 21, tyX8, rfl, by decide, q774, inG8, tyX8_ok, nmX8⟩
theorem PX8_163 : FP RX8 163 8 14 "I" := ⟨RX8, TX8, 21, tyX8, ⟨rfl, by decide, q774, inG8, tyX8_ok, nmX8⟩, rfl, rfl⟩
theorem FX8_167 : FF RX8 167 8 15 := ⟨RX8, TX8, 21, tyX8, rfl, by decide, q775, inG8, tyX8_ok, nmX8⟩
theorem PX8_167 : FP RX8 167 8 15 "I" := ⟨RX8, TX8, 21, tyX8, ⟨rfl, by decide, q775, inG8, tyX8_ok, nmX8⟩, rfl, rfl⟩
theorem FX8_227 : FF RX8 227 8 16 := ⟨RX8, TX8, 21, tyX8, rfl, by decide, q776, inG8, tyX8_ok, nmX8⟩
theorem PX8_227 : FP RX8 227 8 16 "I" := ⟨RX8, TX8, 21, tyX8, ⟨rfl, by decide, q776, inG8, tyX8_ok, nmX8⟩, rfl, rfl⟩
theorem FX8_215 : FF RX8 215 8 17 := ⟨RX8, TX8, 21, tyX8, rfl, by decide, q777, inG8, tyX8_ok, nmX8⟩
theorem PX8_215 : FP RX8 215 8 17 "I" := ⟨RX8, TX8, 21, tyX8, ⟨rfl, by decide, q777, inG8, tyX8_ok, nmX8⟩, rfl, rfl⟩
theorem FX8_212 : FF RX8 212 8 18 := ⟨RX8, TX8, 21, tyX8, rfl, by decide, q778, inG8, tyX8_ok, nmX8⟩
theorem PX8_212 : FP RX8 212 8 18 "I" := ⟨RX8, TX8, 21, tyX8, ⟨rfl, by decide, q778, inG8, tyX8_ok, nmX8⟩, rfl, rfl⟩
theorem FX8_230 : FF RX8 230 8 19 := ⟨RX8, TX8, 21, tyX8, rfl, by decide, q779, inG8, tyX8_ok, nmX8⟩
theorem PX8_230 : FP RX8 230 8 19 "I" := ⟨RX8, TX8, 21, tyX8, ⟨rfl, by decide, q779, inG8, tyX8_ok, nmX8⟩, rfl, rfl⟩
theorem FX8_233 : FF RX8 233 8 20 := ⟨RX8, TX8, 21, tyX8, rfl, by decide, q780, inG8, tyX8_ok, nmX8⟩
theorem PX8_233 : FP RX8 233 8 20 "I" := ⟨RX8, TX8, 21, tyX8, ⟨rfl, by decide, q780, inG8, tyX8_ok, nmX8⟩, rfl, rfl⟩
theorem KX2_31 : KS RX2 31 mJ7_fill_53178 2 := ⟨⟨q38, q39, q4, q40⟩, ⟨by decide +kernel, by decide +kernel, by decide +kernel⟩, Nat.le_of_ble_eq_true rfl⟩
theorem KX6_36 : KS RX6 36 mJ7_fill_53178 2 := ⟨⟨q114, q39, q4, q40⟩, ⟨by decide +kernel, by decide +kernel, by decide +kernel⟩, Nat.le_of_ble_eq_true rfl⟩
theorem KL_13 : KV RL 13 mX7_step 3 := ⟨⟨q244, q245, q246, q1, q247⟩, ⟨by decide +kernel, by decide +kernel, by decide +kernel⟩, Nat.le_of_ble_eq_true rfl⟩
theorem KX7_60 : KS RX7 60 mX7_isStep 1 := ⟨⟨q248, q249, q1, q250⟩, ⟨by decide +kernel, by decide +kernel, by decide +kernel⟩, Nat.le_of_ble_eq_true rfl⟩
theorem KX7_64 : KV RX7 64 mX7_finding 1 := ⟨⟨q251, q253, qs0, q1, q254⟩, ⟨by decide +kernel, by decide +kernel, by decide +kernel⟩, Nat.le_of_ble_eq_true rfl⟩
theorem KX7_83 : KS RX7 83 mX7_isWithin 2 := ⟨⟨q256, q257, q1, q258⟩, ⟨by decide +kernel, by decide +kernel, by decide +kernel⟩, Nat.le_of_ble_eq_true rfl⟩
theorem KL_18 : KV RL 18 mX7_stepOf 2 := ⟨⟨q259, q260, q261, q1, q262⟩, ⟨by decide +kernel, by decide +kernel, by decide +kernel⟩, Nat.le_of_ble_eq_true rfl⟩
theorem KX7_87 : KV RX7 87 mX2_windOn 1 := ⟨⟨q263, q264, q265, q3, q266⟩, ⟨by decide +kernel, by decide +kernel, by decide +kernel⟩, Nat.le_of_ble_eq_true rfl⟩
theorem KX2_43 : KN RX2 43 mX7_isStep 1 := ⟨⟨by decide +kernel, q249, q1, q250⟩, ⟨by decide +kernel, by decide +kernel, by decide +kernel⟩, Nat.le_of_ble_eq_true rfl⟩
theorem KX7_90 : KV RX7 90 mX6_setOf 2 := ⟨⟨q268, q269, q270, q2, q271⟩, ⟨by decide +kernel, by decide +kernel, by decide +kernel⟩, Nat.le_of_ble_eq_true rfl⟩
theorem KX6_67 : KV RX6 67 mX4_mark 1 := ⟨⟨q272, q273, q274, q5, q275⟩, ⟨by decide +kernel, by decide +kernel, by decide +kernel⟩, Nat.le_of_ble_eq_true rfl⟩
theorem KL_23 : KV RL 23 mX7_weather 2 := ⟨⟨q276, q277, q278, q1, q279⟩, ⟨by decide +kernel, by decide +kernel, by decide +kernel⟩, Nat.le_of_ble_eq_true rfl⟩
theorem KL_27 : KV RL 27 mX7_umbrella 1 := ⟨⟨q280, q281, q282, q1, q283⟩, ⟨by decide +kernel, by decide +kernel, by decide +kernel⟩, Nat.le_of_ble_eq_true rfl⟩
theorem KX7_101 : KS RX7 101 mX7_isKind 1 := ⟨⟨q284, q285, q1, q286⟩, ⟨by decide +kernel, by decide +kernel, by decide +kernel⟩, Nat.le_of_ble_eq_true rfl⟩
theorem KX7_104 : KV RX7 104 mX6_isFull 0 := ⟨⟨q287, q288, q289, q2, q290⟩, ⟨by decide +kernel, by decide +kernel, by decide +kernel⟩, Nat.le_of_ble_eq_true rfl⟩
theorem KX7_108 : KV RX7 108 mX6_addUmbrella 1 := ⟨⟨q291, q292, q293, q2, q294⟩, ⟨by decide +kernel, by decide +kernel, by decide +kernel⟩, Nat.le_of_ble_eq_true rfl⟩
theorem KX6_55 : KV RX6 55 mX4_beNew 1 := ⟨⟨q295, q296, q297, q5, q298⟩, ⟨by decide +kernel, by decide +kernel, by decide +kernel⟩, Nat.le_of_ble_eq_true rfl⟩
theorem KL_32 : KV RL 32 mX7_of 2 := ⟨⟨q299, q300, q301, q1, q302⟩, ⟨by decide +kernel, by decide +kernel, by decide +kernel⟩, Nat.le_of_ble_eq_true rfl⟩
theorem KX7_111 : KV RX7 111 mX7_isUmbrella 1 := ⟨⟨q303, q305, qs1, q1, q306⟩, ⟨by decide +kernel, by decide +kernel, by decide +kernel⟩, Nat.le_of_ble_eq_true rfl⟩
theorem KX7_118 : KV RX7 118 mX4_stiff 0 := ⟨⟨q307, q308, q309, q5, q310⟩, ⟨by decide +kernel, by decide +kernel, by decide +kernel⟩, Nat.le_of_ble_eq_true rfl⟩
theorem KX4_36 : KS RX4 36 mJ9_max_7cf53 2 := ⟨⟨q311, q312, q11, q313⟩, ⟨by decide +kernel, by decide +kernel, by decide +kernel⟩, Nat.le_of_ble_eq_true rfl⟩
theorem KX7_124 : KV RX7 124 mX4_covers 1 := ⟨⟨q314, q315, q316, q5, q317⟩, ⟨by decide +kernel, by decide +kernel, by decide +kernel⟩, Nat.le_of_ble_eq_true rfl⟩
theorem KX4_47 : KS RX4 47 mJ9_min_7cf53 2 := ⟨⟨q318, q319, q11, q320⟩, ⟨by decide +kernel, by decide +kernel, by decide +kernel⟩, Nat.le_of_ble_eq_true rfl⟩
theorem KX7_131 : KV RX7 131 mX4_pace 1 := ⟨⟨q321, q322, q323, q5, q324⟩, ⟨by decide +kernel, by decide +kernel, by decide +kernel⟩, Nat.le_of_ble_eq_true rfl⟩
theorem KX7_134 : KV RX7 134 mX4_mark 1 := ⟨⟨q325, q273, q274, q5, q275⟩, ⟨by decide +kernel, by decide +kernel, by decide +kernel⟩, Nat.le_of_ble_eq_true rfl⟩
theorem KL_36 : KV RL 36 mX7_change 3 := ⟨⟨q326, q327, q328, q1, q329⟩, ⟨by decide +kernel, by decide +kernel, by decide +kernel⟩, Nat.le_of_ble_eq_true rfl⟩
theorem KX7_140 : KV RX7 140 mX4_setMark 2 := ⟨⟨q332, q333, q334, q5, q335⟩, ⟨by decide +kernel, by decide +kernel, by decide +kernel⟩, Nat.le_of_ble_eq_true rfl⟩
theorem KL_40 : KV RL 40 mX7_bears 3 := ⟨⟨q336, q337, q338, q1, q339⟩, ⟨by decide +kernel, by decide +kernel, by decide +kernel⟩, Nat.le_of_ble_eq_true rfl⟩
theorem KX7_144 : KS RX7 144 mX4_bearable 3 := ⟨⟨q340, q341, q5, q342⟩, ⟨by decide +kernel, by decide +kernel, by decide +kernel⟩, Nat.le_of_ble_eq_true rfl⟩
theorem KL_44 : KV RL 44 mX7_go 1 := ⟨⟨q343, q344, q345, q1, q346⟩, ⟨by decide +kernel, by decide +kernel, by decide +kernel⟩, Nat.le_of_ble_eq_true rfl⟩
theorem KX7_149 : KV RX7 149 mX6_passTick 0 := ⟨⟨q348, q349, q350, q2, q351⟩, ⟨by decide +kernel, by decide +kernel, by decide +kernel⟩, Nat.le_of_ble_eq_true rfl⟩
theorem KX6_59 : KV RX6 59 mX4_walkOn 1 := ⟨⟨q352, q353, q354, q5, q355⟩, ⟨by decide +kernel, by decide +kernel, by decide +kernel⟩, Nat.le_of_ble_eq_true rfl⟩
theorem KX4_53 : KN RX4 53 mX7_isStep 1 := ⟨⟨by decide +kernel, q249, q1, q250⟩, ⟨by decide +kernel, by decide +kernel, by decide +kernel⟩, Nat.le_of_ble_eq_true rfl⟩
theorem KX4_61 : KV RX4 61 mX2_windOn 1 := ⟨⟨q357, q264, q265, q3, q266⟩, ⟨by decide +kernel, by decide +kernel, by decide +kernel⟩, Nat.le_of_ble_eq_true rfl⟩
theorem KX4_65 : KV RX4 65 mX4_stiff 0 := ⟨⟨q358, q308, q309, q5, q310⟩, ⟨by decide +kernel, by decide +kernel, by decide +kernel⟩, Nat.le_of_ble_eq_true rfl⟩
theorem KX4_69 : KS RX4 69 mX4_bearable 3 := ⟨⟨q359, q341, q5, q342⟩, ⟨by decide +kernel, by decide +kernel, by decide +kernel⟩, Nat.le_of_ble_eq_true rfl⟩
theorem KX4_73 : KV RX4 73 mX4_holdByHabit 3 := ⟨⟨q360, q362, qs2, q5, q363⟩, ⟨by decide +kernel, by decide +kernel, by decide +kernel⟩, Nat.le_of_ble_eq_true rfl⟩
theorem KX4_77 : KV RX4 77 mX4_turn 2 := ⟨⟨q364, q366, qs3, q5, q367⟩, ⟨by decide +kernel, by decide +kernel, by decide +kernel⟩, Nat.le_of_ble_eq_true rfl⟩
theorem KX4_84 : KV RX4 84 mX4_covers 1 := ⟨⟨q369, q315, q316, q5, q317⟩, ⟨by decide +kernel, by decide +kernel, by decide +kernel⟩, Nat.le_of_ble_eq_true rfl⟩
theorem KX4_91 : KV RX4 91 mX4_pace 1 := ⟨⟨q370, q322, q323, q5, q324⟩, ⟨by decide +kernel, by decide +kernel, by decide +kernel⟩, Nat.le_of_ble_eq_true rfl⟩
theorem KX6_63 : KV RX6 63 mX2_nextTick 1 := ⟨⟨q371, q372, q373, q3, q374⟩, ⟨by decide +kernel, by decide +kernel, by decide +kernel⟩, Nat.le_of_ble_eq_true rfl⟩
theorem KX2_48 : KS RX2 48 mJ9_min_7cf53 2 := ⟨⟨q376, q319, q11, q320⟩, ⟨by decide +kernel, by decide +kernel, by decide +kernel⟩, Nat.le_of_ble_eq_true rfl⟩
theorem KL_48 : KV RL 48 mX7_now 1 := ⟨⟨q377, q378, q379, q1, q380⟩, ⟨by decide +kernel, by decide +kernel, by decide +kernel⟩, Nat.le_of_ble_eq_true rfl⟩
theorem KX7_152 : KV RX7 152 mX6_sumOf 1 := ⟨⟨q381, q382, q383, q2, q384⟩, ⟨by decide +kernel, by decide +kernel, by decide +kernel⟩, Nat.le_of_ble_eq_true rfl⟩
theorem KX7_155 : KV RX7 155 mX2_roofs 0 := ⟨⟨q385, q386, q387, q3, q388⟩, ⟨by decide +kernel, by decide +kernel, by decide +kernel⟩, Nat.le_of_ble_eq_true rfl⟩
theorem KL_52 : KV RL 52 mX7_ahead 3 := ⟨⟨q389, q390, q391, q1, q392⟩, ⟨by decide +kernel, by decide +kernel, by decide +kernel⟩, Nat.le_of_ble_eq_true rfl⟩
theorem KX7_158 : KV RX7 158 mX7_startWalk 1 := ⟨⟨q393, q395, qs4, q1, q396⟩, ⟨by decide +kernel, by decide +kernel, by decide +kernel⟩, Nat.le_of_ble_eq_true rfl⟩
theorem KX7_264 : KV RX7 264 mX5_start 2 := ⟨⟨q397, q398, q399, q6, q400⟩, ⟨by decide +kernel, by decide +kernel, by decide +kernel⟩, Nat.le_of_ble_eq_true rfl⟩
theorem KX5_25 : KV RX5 25 mX2_setTo 1 := ⟨⟨q401, q402, q403, q3, q404⟩, ⟨by decide +kernel, by decide +kernel, by decide +kernel⟩, Nat.le_of_ble_eq_true rfl⟩
theorem KX5_29 : KV RX5 29 mX4_setTo 1 := ⟨⟨q408, q409, q410, q5, q411⟩, ⟨by decide +kernel, by decide +kernel, by decide +kernel⟩, Nat.le_of_ble_eq_true rfl⟩
theorem KX7_162 : KV RX7 162 mX5_goOn 0 := ⟨⟨q412, q413, q414, q6, q415⟩, ⟨by decide +kernel, by decide +kernel, by decide +kernel⟩, Nat.le_of_ble_eq_true rfl⟩
theorem KX5_48 : KV RX5 48 mX4_walkOn 1 := ⟨⟨q416, q353, q354, q5, q355⟩, ⟨by decide +kernel, by decide +kernel, by decide +kernel⟩, Nat.le_of_ble_eq_true rfl⟩
theorem KX5_40 : KV RX5 40 mX2_nextTick 1 := ⟨⟨q417, q372, q373, q3, q374⟩, ⟨by decide +kernel, by decide +kernel, by decide +kernel⟩, Nat.le_of_ble_eq_true rfl⟩
theorem KL_56 : KV RL 56 mX7_home 1 := ⟨⟨q418, q419, q420, q1, q421⟩, ⟨by decide +kernel, by decide +kernel, by decide +kernel⟩, Nat.le_of_ble_eq_true rfl⟩
theorem KX7_169 : KV RX7 169 mX5_ticksHome 0 := ⟨⟨q422, q423, q424, q6, q425⟩, ⟨by decide +kernel, by decide +kernel, by decide +kernel⟩, Nat.le_of_ble_eq_true rfl⟩
theorem KX5_56 : KV RX5 56 mX5_goOn 0 := ⟨⟨q426, q413, q414, q6, q415⟩, ⟨by decide +kernel, by decide +kernel, by decide +kernel⟩, Nat.le_of_ble_eq_true rfl⟩
theorem KL_60 : KV RL 60 mX7_homeWith 2 := ⟨⟨q427, q428, q429, q1, q430⟩, ⟨by decide +kernel, by decide +kernel, by decide +kernel⟩, Nat.le_of_ble_eq_true rfl⟩
theorem KL_64 : KV RL 64 mX7_whup 1 := ⟨⟨q431, q432, q433, q1, q434⟩, ⟨by decide +kernel, by decide +kernel, by decide +kernel⟩, Nat.le_of_ble_eq_true rfl⟩
theorem KX7_172 : KV RX7 172 mX5_ticksTillTurned 0 := ⟨⟨q435, q436, q437, q6, q438⟩, ⟨by decide +kernel, by decide +kernel, by decide +kernel⟩, Nat.le_of_ble_eq_true rfl⟩
theorem KL_68 : KV RL 68 mX7_first 0 := ⟨⟨q439, q440, q441, q1, q442⟩, ⟨by decide +kernel, by decide +kernel, by decide +kernel⟩, Nat.le_of_ble_eq_true rfl⟩
theorem KL_73 : KV RL 73 mX7_habitFor 1 := ⟨⟨q443, q444, q445, q1, q446⟩, ⟨by decide +kernel, by decide +kernel, by decide +kernel⟩, Nat.le_of_ble_eq_true rfl⟩
theorem KX7_178 : KV RX7 178 mX7_driest 3 := ⟨⟨q447, q449, qs5, q1, q450⟩, ⟨by decide +kernel, by decide +kernel, by decide +kernel⟩, Nat.le_of_ble_eq_true rfl⟩
theorem KX7_268 : KV RX7 268 mX5_choose 2 := ⟨⟨q451, q452, q453, q6, q454⟩, ⟨by decide +kernel, by decide +kernel, by decide +kernel⟩, Nat.le_of_ble_eq_true rfl⟩
theorem KX5_32 : KN RX5 32 mX7_isStep 1 := ⟨⟨by decide +kernel, q249, q1, q250⟩, ⟨by decide +kernel, by decide +kernel, by decide +kernel⟩, Nat.le_of_ble_eq_true rfl⟩
theorem KX5_44 : KV RX5 44 mX4_setMark 2 := ⟨⟨q456, q333, q334, q5, q335⟩, ⟨by decide +kernel, by decide +kernel, by decide +kernel⟩, Nat.le_of_ble_eq_true rfl⟩
theorem KL_77 : KV RL 77 mX7_heldFor 1 := ⟨⟨q457, q458, q459, q1, q460⟩, ⟨by decide +kernel, by decide +kernel, by decide +kernel⟩, Nat.le_of_ble_eq_true rfl⟩
theorem KL_81 : KV RL 81 mX7_kindFor 1 := ⟨⟨q461, q462, q463, q1, q464⟩, ⟨by decide +kernel, by decide +kernel, by decide +kernel⟩, Nat.le_of_ble_eq_true rfl⟩
theorem KL_85 : KV RL 85 mX7_roofFor 1 := ⟨⟨q465, q466, q467, q1, q468⟩, ⟨by decide +kernel, by decide +kernel, by decide +kernel⟩, Nat.le_of_ble_eq_true rfl⟩
theorem KL_89 : KV RL 89 mX7_waitFor 1 := ⟨⟨q469, q470, q471, q1, q472⟩, ⟨by decide +kernel, by decide +kernel, by decide +kernel⟩, Nat.le_of_ble_eq_true rfl⟩
theorem KL_93 : KV RL 93 mX7_gustFor 1 := ⟨⟨q473, q474, q475, q1, q476⟩, ⟨by decide +kernel, by decide +kernel, by decide +kernel⟩, Nat.le_of_ble_eq_true rfl⟩
theorem KX7_182 : KV RX7 182 mX5_comesHomeUnturned 0 := ⟨⟨q477, q478, q479, q6, q480⟩, ⟨by decide +kernel, by decide +kernel, by decide +kernel⟩, Nat.le_of_ble_eq_true rfl⟩
theorem KL_97 : KV RL 97 mX7_ribsFor 1 := ⟨⟨q481, q482, q483, q1, q484⟩, ⟨by decide +kernel, by decide +kernel, by decide +kernel⟩, Nat.le_of_ble_eq_true rfl⟩
theorem KL_101 : KV RL 101 mX7_fits 2 := ⟨⟨q485, q486, q487, q1, q488⟩, ⟨by decide +kernel, by decide +kernel, by decide +kernel⟩, Nat.le_of_ble_eq_true rfl⟩
theorem KX7_188 : KV RX7 188 mX7_fitting 4 := ⟨⟨q489, q491, qs6, q1, q492⟩, ⟨by decide +kernel, by decide +kernel, by decide +kernel⟩, Nat.le_of_ble_eq_true rfl⟩
theorem KX7_229 : KS RX7 229 mX7_isSheet 1 := ⟨⟨q493, q494, q1, q495⟩, ⟨by decide +kernel, by decide +kernel, by decide +kernel⟩, Nat.le_of_ble_eq_true rfl⟩
theorem KX7_236 : KV RX7 236 mX1_isMissing 0 := ⟨⟨q496, q497, q498, q9, q499⟩, ⟨by decide +kernel, by decide +kernel, by decide +kernel⟩, Nat.le_of_ble_eq_true rfl⟩
theorem KX7_274 : KV RX7 274 mX5_follows 1 := ⟨⟨q500, q501, q502, q6, q503⟩, ⟨by decide +kernel, by decide +kernel, by decide +kernel⟩, Nat.le_of_ble_eq_true rfl⟩
theorem KL_105 : KV RL 105 mX7_kinds 2 := ⟨⟨q504, q505, q506, q1, q507⟩, ⟨by decide +kernel, by decide +kernel, by decide +kernel⟩, Nat.le_of_ble_eq_true rfl⟩
theorem KL_109 : KV RL 109 mX7_gusts 1 := ⟨⟨q508, q509, q510, q1, q511⟩, ⟨by decide +kernel, by decide +kernel, by decide +kernel⟩, Nat.le_of_ble_eq_true rfl⟩
theorem KX7_192 : KV RX7 192 mX6_draw 0 := ⟨⟨q512, q513, q514, q2, q515⟩, ⟨by decide +kernel, by decide +kernel, by decide +kernel⟩, Nat.le_of_ble_eq_true rfl⟩
theorem KL_113 : KV RL 113 mX7_odds 2 := ⟨⟨q517, q518, q519, q1, q520⟩, ⟨by decide +kernel, by decide +kernel, by decide +kernel⟩, Nat.le_of_ble_eq_true rfl⟩
theorem KX7_195 : KS RX7 195 mJ6_bitCount_0f7a4 1 := ⟨⟨q521, q522, q13, q523⟩, ⟨by decide +kernel, by decide +kernel, by decide +kernel⟩, Nat.le_of_ble_eq_true rfl⟩
theorem KL_118 : KV RL 118 mX7_seed 1 := ⟨⟨q527, q528, q529, q1, q530⟩, ⟨by decide +kernel, by decide +kernel, by decide +kernel⟩, Nat.le_of_ble_eq_true rfl⟩
theorem KL_122 : KV RL 122 mX7_feed 2 := ⟨⟨q531, q532, q533, q1, q534⟩, ⟨by decide +kernel, by decide +kernel, by decide +kernel⟩, Nat.le_of_ble_eq_true rfl⟩
theorem KX7_206 : KV RX7 206 mX3_append 2 := ⟨⟨q535, q536, q537, q7, q538⟩, ⟨by decide +kernel, by decide +kernel, by decide +kernel⟩, Nat.le_of_ble_eq_true rfl⟩
theorem KL_126 : KV RL 126 mX7_wipe 0 := ⟨⟨q539, q540, q541, q1, q542⟩, ⟨by decide +kernel, by decide +kernel, by decide +kernel⟩, Nat.le_of_ble_eq_true rfl⟩
theorem KL_130 : KV RL 130 mX7_text 0 := ⟨⟨q543, q544, q545, q1, q546⟩, ⟨by decide +kernel, by decide +kernel, by decide +kernel⟩, Nat.le_of_ble_eq_true rfl⟩
theorem KX7_209 : KV RX7 209 mX6_become 1 := ⟨⟨q547, q548, q549, q2, q550⟩, ⟨by decide +kernel, by decide +kernel, by decide +kernel⟩, Nat.le_of_ble_eq_true rfl⟩
theorem KX6_42 : KV RX6 42 mX2_setTo 1 := ⟨⟨q551, q402, q403, q3, q404⟩, ⟨by decide +kernel, by decide +kernel, by decide +kernel⟩, Nat.le_of_ble_eq_true rfl⟩
theorem KX6_46 : KV RX6 46 mX4_setTo 1 := ⟨⟨q552, q409, q410, q5, q411⟩, ⟨by decide +kernel, by decide +kernel, by decide +kernel⟩, Nat.le_of_ble_eq_true rfl⟩
theorem KX7_213 : KV RX7 213 mX0_readInto 1 := ⟨⟨q554, q555, q556, q8, q557⟩, ⟨by decide +kernel, by decide +kernel, by decide +kernel⟩, Nat.le_of_ble_eq_true rfl⟩
theorem KX0_28 : KV RX0 28 mX0_readToken 0 := ⟨⟨q558, q560, qs7, q8, q561⟩, ⟨by decide +kernel, by decide +kernel, by decide +kernel⟩, Nat.le_of_ble_eq_true rfl⟩
theorem KX0_140 : KV RX0 140 mX3_byteAt 1 := ⟨⟨q562, q563, q564, q7, q565⟩, ⟨by decide +kernel, by decide +kernel, by decide +kernel⟩, Nat.le_of_ble_eq_true rfl⟩
theorem KX0_147 : KS RX0 147 mX0_tokenOf 1 := ⟨⟨q566, q567, q8, q568⟩, ⟨by decide +kernel, by decide +kernel, by decide +kernel⟩, Nat.le_of_ble_eq_true rfl⟩
theorem KX0_150 : KS RX0 150 mJ9_min_7cf53 2 := ⟨⟨q569, q319, q11, q320⟩, ⟨by decide +kernel, by decide +kernel, by decide +kernel⟩, Nat.le_of_ble_eq_true rfl⟩
theorem KX0_31 : KV RX0 31 mX0_readItem 1 := ⟨⟨q570, q572, qs8, q8, q573⟩, ⟨by decide +kernel, by decide +kernel, by decide +kernel⟩, Nat.le_of_ble_eq_true rfl⟩
theorem KX0_35 : KS RX0 35 mX0_wordOfKind 1 := ⟨⟨q574, q575, q8, q576⟩, ⟨by decide +kernel, by decide +kernel, by decide +kernel⟩, Nat.le_of_ble_eq_true rfl⟩
theorem KX0_39 : KV RX0 39 mX0_isWord 1 := ⟨⟨q584, q586, qs9, q8, q587⟩, ⟨by decide +kernel, by decide +kernel, by decide +kernel⟩, Nat.le_of_ble_eq_true rfl⟩
theorem KX0_130 : KV RX0 130 mJ0_length_8abf5 0 := ⟨⟨q588, q589, q590, q14, q591⟩, ⟨by decide +kernel, by decide +kernel, by decide +kernel⟩, Nat.le_of_ble_eq_true rfl⟩
theorem KJ0_335 : KV RJ0 335 mJ0_coder_7d493 0 := ⟨⟨q592, q593, q594, q14, q595⟩, ⟨by decide +kernel, by decide +kernel, by decide +kernel⟩, Nat.le_of_ble_eq_true rfl⟩
theorem KX0_136 : KV RX0 136 mJ0_charAt_5068e 1 := ⟨⟨q598, q599, q600, q14, q601⟩, ⟨by decide +kernel, by decide +kernel, by decide +kernel⟩, Nat.le_of_ble_eq_true rfl⟩
theorem KJ0_492 : KV RJ0 492 mJ0_isLatin1_aae02 0 := ⟨⟨q602, q603, q604, q14, q605⟩, ⟨by decide +kernel, by decide +kernel, by decide +kernel⟩, Nat.le_of_ble_eq_true rfl⟩
theorem KJ0_495 : KS RJ0 495 mJ1_charAt_3b067 2 := ⟨⟨q606, q607, q15, q608⟩, ⟨by decide +kernel, by decide +kernel, by decide +kernel⟩, Nat.le_of_ble_eq_true rfl⟩
theorem KJ1_9 : KS RJ1 9 mJ0_checkIndex_df160 2 := ⟨⟨q609, q610, q14, q611⟩, ⟨by decide +kernel, by decide +kernel, by decide +kernel⟩, Nat.le_of_ble_eq_true rfl⟩
theorem KJ0_1059 : KS RJ0 1059 mJ3_checkIndex_8e157 3 := ⟨⟨q614, q615, q16, q616⟩, ⟨by decide +kernel, by decide +kernel, by decide +kernel⟩, Nat.le_of_ble_eq_true rfl⟩
theorem KJ0_498 : KS RJ0 498 mJ2_charAt_3b067 2 := ⟨⟨q617, q618, q17, q619⟩, ⟨by decide +kernel, by decide +kernel, by decide +kernel⟩, Nat.le_of_ble_eq_true rfl⟩
theorem KJ2_67 : KS RJ2 67 mJ2_checkIndex_2214a 2 := ⟨⟨q620, q621, q17, q622⟩, ⟨by decide +kernel, by decide +kernel, by decide +kernel⟩, Nat.le_of_ble_eq_true rfl⟩
theorem KJ2_48 : KS RJ2 48 mJ2_length_9d52b 1 := ⟨⟨q623, q624, q17, q625⟩, ⟨by decide +kernel, by decide +kernel, by decide +kernel⟩, Nat.le_of_ble_eq_true rfl⟩
theorem KJ2_414 : KS RJ2 414 mJ0_checkIndex_df160 2 := ⟨⟨q626, q610, q14, q611⟩, ⟨by decide +kernel, by decide +kernel, by decide +kernel⟩, Nat.le_of_ble_eq_true rfl⟩
theorem KJ2_71 : KS RJ2 71 mJ2_getChar_3b067 2 := ⟨⟨q627, q628, q17, q629⟩, ⟨by decide +kernel, by decide +kernel, by decide +kernel⟩, Nat.le_of_ble_eq_true rfl⟩
theorem KX0_43 : KV RX0 43 mX0_readUmbrella 2 := ⟨⟨q636, q638, qs10, q8, q639⟩, ⟨by decide +kernel, by decide +kernel, by decide +kernel⟩, Nat.le_of_ble_eq_true rfl⟩
theorem KX0_75 : KV RX0 75 mX6_isFull 0 := ⟨⟨q640, q288, q289, q2, q290⟩, ⟨by decide +kernel, by decide +kernel, by decide +kernel⟩, Nat.le_of_ble_eq_true rfl⟩
theorem KX0_83 : KV RX0 83 mX6_addUmbrella 1 := ⟨⟨q641, q292, q293, q2, q294⟩, ⟨by decide +kernel, by decide +kernel, by decide +kernel⟩, Nat.le_of_ble_eq_true rfl⟩
theorem KX0_89 : KV RX0 89 mX0_readMark 3 := ⟨⟨q643, q645, qs11, q8, q646⟩, ⟨by decide +kernel, by decide +kernel, by decide +kernel⟩, Nat.le_of_ble_eq_true rfl⟩
theorem KX0_103 : KV RX0 103 mX0_nextNumber 1 := ⟨⟨q648, q650, qs12, q8, q651⟩, ⟨by decide +kernel, by decide +kernel, by decide +kernel⟩, Nat.le_of_ble_eq_true rfl⟩
theorem KX0_106 : KV RX0 106 mX4_setMark 2 := ⟨⟨q652, q333, q334, q5, q335⟩, ⟨by decide +kernel, by decide +kernel, by decide +kernel⟩, Nat.le_of_ble_eq_true rfl⟩
theorem KX0_47 : KS RX0 47 mX0_wordOfFrom 1 := ⟨⟨q656, q657, q8, q658⟩, ⟨by decide +kernel, by decide +kernel, by decide +kernel⟩, Nat.le_of_ble_eq_true rfl⟩
theorem KX0_56 : KV RX0 56 mX0_readWind 2 := ⟨⟨q662, q664, qs13, q8, q665⟩, ⟨by decide +kernel, by decide +kernel, by decide +kernel⟩, Nat.le_of_ble_eq_true rfl⟩
theorem KX0_112 : KN RX0 112 mX7_isStep 1 := ⟨⟨by decide +kernel, q249, q1, q250⟩, ⟨by decide +kernel, by decide +kernel, by decide +kernel⟩, Nat.le_of_ble_eq_true rfl⟩
theorem KX0_62 : KV RX0 62 mX0_readRoof 2 := ⟨⟨q668, q670, qs14, q8, q671⟩, ⟨by decide +kernel, by decide +kernel, by decide +kernel⟩, Nat.le_of_ble_eq_true rfl⟩
theorem KX0_69 : KV RX0 69 mX0_readWeather 2 := ⟨⟨q674, q676, qs15, q8, q677⟩, ⟨by decide +kernel, by decide +kernel, by decide +kernel⟩, Nat.le_of_ble_eq_true rfl⟩
theorem KL_134 : KV RL 134 mX7_hold 2 := ⟨⟨q680, q681, q682, q1, q683⟩, ⟨by decide +kernel, by decide +kernel, by decide +kernel⟩, Nat.le_of_ble_eq_true rfl⟩
theorem KX7_217 : KS RX7 217 mX7_isSpot 1 := ⟨⟨q684, q685, q1, q686⟩, ⟨by decide +kernel, by decide +kernel, by decide +kernel⟩, Nat.le_of_ble_eq_true rfl⟩
theorem KL_138 : KV RL 138 mX7_as 2 := ⟨⟨q687, q688, q689, q1, q690⟩, ⟨by decide +kernel, by decide +kernel, by decide +kernel⟩, Nat.le_of_ble_eq_true rfl⟩
theorem KX7_226 : KS RX7 226 mX7_isUnder 2 := ⟨⟨q691, q692, q1, q693⟩, ⟨by decide +kernel, by decide +kernel, by decide +kernel⟩, Nat.le_of_ble_eq_true rfl⟩
theorem KL_142 : KV RL 142 mX7_sheet 3 := ⟨⟨q696, q697, q698, q1, q699⟩, ⟨by decide +kernel, by decide +kernel, by decide +kernel⟩, Nat.le_of_ble_eq_true rfl⟩
theorem KX7_232 : KV RX7 232 mX1_clear 2 := ⟨⟨q700, q701, q702, q9, q703⟩, ⟨by decide +kernel, by decide +kernel, by decide +kernel⟩, Nat.le_of_ble_eq_true rfl⟩
theorem KX1_22 : KS RX1 22 mJ7_fill_53178 2 := ⟨⟨q704, q39, q4, q40⟩, ⟨by decide +kernel, by decide +kernel, by decide +kernel⟩, Nat.le_of_ble_eq_true rfl⟩
theorem KL_146 : KV RL 146 mX7_write 3 := ⟨⟨q705, q706, q707, q1, q708⟩, ⟨by decide +kernel, by decide +kernel, by decide +kernel⟩, Nat.le_of_ble_eq_true rfl⟩
theorem KX7_239 : KV RX7 239 mX1_put 2 := ⟨⟨q709, q710, q711, q9, q712⟩, ⟨by decide +kernel, by decide +kernel, by decide +kernel⟩, Nat.le_of_ble_eq_true rfl⟩
theorem KL_150 : KV RL 150 mX7_copy 5 := ⟨⟨q713, q714, q715, q1, q716⟩, ⟨by decide +kernel, by decide +kernel, by decide +kernel⟩, Nat.le_of_ble_eq_true rfl⟩
theorem KX7_245 : KV RX7 245 mX1_has 2 := ⟨⟨q717, q718, q719, q9, q720⟩, ⟨by decide +kernel, by decide +kernel, by decide +kernel⟩, Nat.le_of_ble_eq_true rfl⟩
theorem KL_155 : KV RL 155 mX7_load 1 := ⟨⟨q722, q723, q724, q1, q725⟩, ⟨by decide +kernel, by decide +kernel, by decide +kernel⟩, Nat.le_of_ble_eq_true rfl⟩
theorem KL_159 : KV RL 159 mX7_judge 1 := ⟨⟨q726, q727, q728, q1, q729⟩, ⟨by decide +kernel, by decide +kernel, by decide +kernel⟩, Nat.le_of_ble_eq_true rfl⟩
theorem KL_163 : KV RL 163 mX7_image 0 := ⟨⟨q730, q731, q732, q1, q733⟩, ⟨by decide +kernel, by decide +kernel, by decide +kernel⟩, Nat.le_of_ble_eq_true rfl⟩
theorem KL_167 : KV RL 167 mX7_undo 0 := ⟨⟨q734, q735, q736, q1, q737⟩, ⟨by decide +kernel, by decide +kernel, by decide +kernel⟩, Nat.le_of_ble_eq_true rfl⟩
theorem KL_171 : KV RL 171 mX7_tear 0 := ⟨⟨q738, q739, q740, q1, q741⟩, ⟨by decide +kernel, by decide +kernel, by decide +kernel⟩, Nat.le_of_ble_eq_true rfl⟩
theorem KL_175 : KV RL 175 mX7_count 1 := ⟨⟨q742, q743, q744, q1, q745⟩, ⟨by decide +kernel, by decide +kernel, by decide +kernel⟩, Nat.le_of_ble_eq_true rfl⟩
theorem KX7_257 : KV RX7 257 mX6_spotsHolding 0 := ⟨⟨q746, q747, q748, q2, q749⟩, ⟨by decide +kernel, by decide +kernel, by decide +kernel⟩, Nat.le_of_ble_eq_true rfl⟩
theorem KL_179 : KV RL 179 mX7_status 1 := ⟨⟨q750, q751, q752, q1, q753⟩, ⟨by decide +kernel, by decide +kernel, by decide +kernel⟩, Nat.le_of_ble_eq_true rfl⟩
theorem KL_17 : KV RL 17 mX8_step 3 := ⟨⟨q824, q825, q826, q10, q827⟩, ⟨by decide +kernel, by decide +kernel, by decide +kernel⟩, Nat.le_of_ble_eq_true rfl⟩
theorem KX8_43 : KS RX8 43 mX8_isStep 1 := ⟨⟨q828, q829, q10, q830⟩, ⟨by decide +kernel, by decide +kernel, by decide +kernel⟩, Nat.le_of_ble_eq_true rfl⟩
theorem KX8_49 : KS RX8 49 mX8_isIn 3 := ⟨⟨q832, q833, q10, q834⟩, ⟨by decide +kernel, by decide +kernel, by decide +kernel⟩, Nat.le_of_ble_eq_true rfl⟩
theorem KX8_39 : KV RX8 39 mX8_finds 1 := ⟨⟨q837, q839, qs16, q10, q840⟩, ⟨by decide +kernel, by decide +kernel, by decide +kernel⟩, Nat.le_of_ble_eq_true rfl⟩
theorem KX8_55 : KV RX8 55 mX8_becomes 2 := ⟨⟨q841, q843, qs17, q10, q844⟩, ⟨by decide +kernel, by decide +kernel, by decide +kernel⟩, Nat.le_of_ble_eq_true rfl⟩
theorem KL_22 : KV RL 22 mX8_stepOf 2 := ⟨⟨q845, q846, q847, q10, q848⟩, ⟨by decide +kernel, by decide +kernel, by decide +kernel⟩, Nat.le_of_ble_eq_true rfl⟩
theorem KX8_64 : KV RX8 64 mX8_wind 1 := ⟨⟨q850, q852, qs18, q10, q853⟩, ⟨by decide +kernel, by decide +kernel, by decide +kernel⟩, Nat.le_of_ble_eq_true rfl⟩
theorem KX8_67 : KV RX8 67 mX8_there 1 := ⟨⟨q854, q856, qs19, q10, q857⟩, ⟨by decide +kernel, by decide +kernel, by decide +kernel⟩, Nat.le_of_ble_eq_true rfl⟩
theorem KX8_59 : KV RX8 59 mX8_its 2 := ⟨⟨q858, q860, qs20, q10, q861⟩, ⟨by decide +kernel, by decide +kernel, by decide +kernel⟩, Nat.le_of_ble_eq_true rfl⟩
theorem KL_26 : KV RL 26 mX8_weather 2 := ⟨⟨q862, q863, q864, q10, q865⟩, ⟨by decide +kernel, by decide +kernel, by decide +kernel⟩, Nat.le_of_ble_eq_true rfl⟩
theorem KL_31 : KV RL 31 mX8_umbrella 1 := ⟨⟨q866, q867, q868, q10, q869⟩, ⟨by decide +kernel, by decide +kernel, by decide +kernel⟩, Nat.le_of_ble_eq_true rfl⟩
theorem KX8_76 : KV RX8 76 mX8_comes 1 := ⟨⟨q872, q874, qs21, q10, q875⟩, ⟨by decide +kernel, by decide +kernel, by decide +kernel⟩, Nat.le_of_ble_eq_true rfl⟩
theorem KX8_70 : KS RX8 70 mX8_at 2 := ⟨⟨q876, q877, q10, q878⟩, ⟨by decide +kernel, by decide +kernel, by decide +kernel⟩, Nat.le_of_ble_eq_true rfl⟩
theorem KL_35 : KV RL 35 mX8_of 2 := ⟨⟨q879, q880, q881, q10, q882⟩, ⟨by decide +kernel, by decide +kernel, by decide +kernel⟩, Nat.le_of_ble_eq_true rfl⟩
theorem KX8_89 : KV RX8 89 mX8_isUmbrella 1 := ⟨⟨q883, q885, qs22, q10, q886⟩, ⟨by decide +kernel, by decide +kernel, by decide +kernel⟩, Nat.le_of_ble_eq_true rfl⟩
theorem KX8_83 : KV RX8 83 mX8_stiff 1 := ⟨⟨q888, q890, qs23, q10, q891⟩, ⟨by decide +kernel, by decide +kernel, by decide +kernel⟩, Nat.le_of_ble_eq_true rfl⟩
theorem KX8_80 : KS RX8 80 mX8_greatest 2 := ⟨⟨q892, q893, q10, q894⟩, ⟨by decide +kernel, by decide +kernel, by decide +kernel⟩, Nat.le_of_ble_eq_true rfl⟩
theorem KX8_94 : KV RX8 94 mX8_covers 1 := ⟨⟨q895, q897, qs24, q10, q898⟩, ⟨by decide +kernel, by decide +kernel, by decide +kernel⟩, Nat.le_of_ble_eq_true rfl⟩
theorem KX8_86 : KS RX8 86 mX8_least 2 := ⟨⟨q899, q900, q10, q901⟩, ⟨by decide +kernel, by decide +kernel, by decide +kernel⟩, Nat.le_of_ble_eq_true rfl⟩
theorem KX8_97 : KV RX8 97 mX8_pace 1 := ⟨⟨q902, q904, qs25, q10, q905⟩, ⟨by decide +kernel, by decide +kernel, by decide +kernel⟩, Nat.le_of_ble_eq_true rfl⟩
theorem KL_39 : KV RL 39 mX8_change 3 := ⟨⟨q906, q907, q908, q10, q909⟩, ⟨by decide +kernel, by decide +kernel, by decide +kernel⟩, Nat.le_of_ble_eq_true rfl⟩
theorem KX8_103 : KS RX8 103 mX8_greatestOf 1 := ⟨⟨q911, q912, q10, q913⟩, ⟨by decide +kernel, by decide +kernel, by decide +kernel⟩, Nat.le_of_ble_eq_true rfl⟩
theorem KL_43 : KV RL 43 mX8_bears 3 := ⟨⟨q915, q916, q917, q10, q918⟩, ⟨by decide +kernel, by decide +kernel, by decide +kernel⟩, Nat.le_of_ble_eq_true rfl⟩
theorem KX8_106 : KV RX8 106 mX8_bearsOn 3 := ⟨⟨q919, q921, qs26, q10, q922⟩, ⟨by decide +kernel, by decide +kernel, by decide +kernel⟩, Nat.le_of_ble_eq_true rfl⟩
theorem KL_47 : KV RL 47 mX8_go 1 := ⟨⟨q923, q924, q925, q10, q926⟩, ⟨by decide +kernel, by decide +kernel, by decide +kernel⟩, Nat.le_of_ble_eq_true rfl⟩
theorem KX8_122 : KV RX8 122 mX8_tick 0 := ⟨⟨q929, q931, qs27, q10, q932⟩, ⟨by decide +kernel, by decide +kernel, by decide +kernel⟩, Nat.le_of_ble_eq_true rfl⟩
theorem KX8_113 : KV RX8 113 mX8_isHome 1 := ⟨⟨q933, q935, qs28, q10, q936⟩, ⟨by decide +kernel, by decide +kernel, by decide +kernel⟩, Nat.le_of_ble_eq_true rfl⟩
theorem KX8_116 : KV RX8 116 mX8_goesOn 1 := ⟨⟨q937, q939, qs29, q10, q940⟩, ⟨by decide +kernel, by decide +kernel, by decide +kernel⟩, Nat.le_of_ble_eq_true rfl⟩
theorem KX8_110 : KV RX8 110 mX8_heldBy 1 := ⟨⟨q941, q943, qs30, q10, q944⟩, ⟨by decide +kernel, by decide +kernel, by decide +kernel⟩, Nat.le_of_ble_eq_true rfl⟩
theorem KX8_126 : KV RX8 126 mX8_homes 0 := ⟨⟨q945, q947, qs31, q10, q948⟩, ⟨by decide +kernel, by decide +kernel, by decide +kernel⟩, Nat.le_of_ble_eq_true rfl⟩
theorem KL_51 : KV RL 51 mX8_now 1 := ⟨⟨q949, q950, q951, q10, q952⟩, ⟨by decide +kernel, by decide +kernel, by decide +kernel⟩, Nat.le_of_ble_eq_true rfl⟩
theorem KX8_129 : KV RX8 129 mX8_sumOf 1 := ⟨⟨q953, q955, qs32, q10, q956⟩, ⟨by decide +kernel, by decide +kernel, by decide +kernel⟩, Nat.le_of_ble_eq_true rfl⟩
theorem KX8_132 : KV RX8 132 mX8_outs 0 := ⟨⟨q957, q959, qs33, q10, q960⟩, ⟨by decide +kernel, by decide +kernel, by decide +kernel⟩, Nat.le_of_ble_eq_true rfl⟩
theorem KX8_135 : KV RX8 135 mX8_roofs 0 := ⟨⟨q961, q963, qs34, q10, q964⟩, ⟨by decide +kernel, by decide +kernel, by decide +kernel⟩, Nat.le_of_ble_eq_true rfl⟩
theorem KL_55 : KV RL 55 mX8_ahead 3 := ⟨⟨q965, q966, q967, q10, q968⟩, ⟨by decide +kernel, by decide +kernel, by decide +kernel⟩, Nat.le_of_ble_eq_true rfl⟩
theorem KX8_140 : KS RX8 140 mX8_copyRow 2 := ⟨⟨q970, q971, q10, q972⟩, ⟨by decide +kernel, by decide +kernel, by decide +kernel⟩, Nat.le_of_ble_eq_true rfl⟩
theorem KX8_144 : KV RX8 144 mX8_goesAlone 1 := ⟨⟨q973, q975, qs35, q10, q976⟩, ⟨by decide +kernel, by decide +kernel, by decide +kernel⟩, Nat.le_of_ble_eq_true rfl⟩
theorem KL_59 : KV RL 59 mX8_home 1 := ⟨⟨q977, q978, q979, q10, q980⟩, ⟨by decide +kernel, by decide +kernel, by decide +kernel⟩, Nat.le_of_ble_eq_true rfl⟩
theorem KX8_157 : KV RX8 157 mX8_follows 1 := ⟨⟨q981, q983, qs36, q10, q984⟩, ⟨by decide +kernel, by decide +kernel, by decide +kernel⟩, Nat.le_of_ble_eq_true rfl⟩
theorem KX8_160 : KV RX8 160 mX8_orNone 1 := ⟨⟨q985, q987, qs37, q10, q988⟩, ⟨by decide +kernel, by decide +kernel, by decide +kernel⟩, Nat.le_of_ble_eq_true rfl⟩
theorem KL_63 : KV RL 63 mX8_homeWith 2 := ⟨⟨q990, q991, q992, q10, q993⟩, ⟨by decide +kernel, by decide +kernel, by decide +kernel⟩, Nat.le_of_ble_eq_true rfl⟩
theorem KL_67 : KV RL 67 mX8_whup 1 := ⟨⟨q994, q995, q996, q10, q997⟩, ⟨by decide +kernel, by decide +kernel, by decide +kernel⟩, Nat.le_of_ble_eq_true rfl⟩
theorem KL_72 : KV RL 72 mX8_first 0 := ⟨⟨q998, q999, q1000, q10, q1001⟩, ⟨by decide +kernel, by decide +kernel, by decide +kernel⟩, Nat.le_of_ble_eq_true rfl⟩
theorem KL_76 : KV RL 76 mX8_habitFor 1 := ⟨⟨q1002, q1003, q1004, q10, q1005⟩, ⟨by decide +kernel, by decide +kernel, by decide +kernel⟩, Nat.le_of_ble_eq_true rfl⟩
theorem KX8_177 : KV RX8 177 mX8_bestOf 3 := ⟨⟨q1006, q1008, qs38, q10, q1009⟩, ⟨by decide +kernel, by decide +kernel, by decide +kernel⟩, Nat.le_of_ble_eq_true rfl⟩
theorem KX8_170 : KV RX8 170 mX8_begins 0 := ⟨⟨q1010, q1012, qs39, q10, q1013⟩, ⟨by decide +kernel, by decide +kernel, by decide +kernel⟩, Nat.le_of_ble_eq_true rfl⟩
theorem KX8_173 : KV RX8 173 mX8_looksAt 2 := ⟨⟨q1015, q1017, qs40, q10, q1018⟩, ⟨by decide +kernel, by decide +kernel, by decide +kernel⟩, Nat.le_of_ble_eq_true rfl⟩
theorem KL_80 : KV RL 80 mX8_heldFor 1 := ⟨⟨q1019, q1020, q1021, q10, q1022⟩, ⟨by decide +kernel, by decide +kernel, by decide +kernel⟩, Nat.le_of_ble_eq_true rfl⟩
theorem KL_84 : KV RL 84 mX8_kindFor 1 := ⟨⟨q1023, q1024, q1025, q10, q1026⟩, ⟨by decide +kernel, by decide +kernel, by decide +kernel⟩, Nat.le_of_ble_eq_true rfl⟩
theorem KL_88 : KV RL 88 mX8_roofFor 1 := ⟨⟨q1027, q1028, q1029, q10, q1030⟩, ⟨by decide +kernel, by decide +kernel, by decide +kernel⟩, Nat.le_of_ble_eq_true rfl⟩
theorem KL_92 : KV RL 92 mX8_waitFor 1 := ⟨⟨q1031, q1032, q1033, q10, q1034⟩, ⟨by decide +kernel, by decide +kernel, by decide +kernel⟩, Nat.le_of_ble_eq_true rfl⟩
theorem KL_96 : KV RL 96 mX8_gustFor 1 := ⟨⟨q1035, q1036, q1037, q10, q1038⟩, ⟨by decide +kernel, by decide +kernel, by decide +kernel⟩, Nat.le_of_ble_eq_true rfl⟩
theorem KX8_180 : KV RX8 180 mX8_isWhole 1 := ⟨⟨q1039, q1041, qs41, q10, q1042⟩, ⟨by decide +kernel, by decide +kernel, by decide +kernel⟩, Nat.le_of_ble_eq_true rfl⟩
theorem KL_100 : KV RL 100 mX8_ribsFor 1 := ⟨⟨q1043, q1044, q1045, q10, q1046⟩, ⟨by decide +kernel, by decide +kernel, by decide +kernel⟩, Nat.le_of_ble_eq_true rfl⟩
theorem KL_104 : KV RL 104 mX8_fits 2 := ⟨⟨q1047, q1048, q1049, q10, q1050⟩, ⟨by decide +kernel, by decide +kernel, by decide +kernel⟩, Nat.le_of_ble_eq_true rfl⟩
theorem KX8_190 : KV RX8 190 mX8_wantsFor 2 := ⟨⟨q1051, q1053, qs42, q10, q1054⟩, ⟨by decide +kernel, by decide +kernel, by decide +kernel⟩, Nat.le_of_ble_eq_true rfl⟩
theorem KX8_187 : KV RX8 187 mX8_wants 1 := ⟨⟨q1055, q1057, qs43, q10, q1058⟩, ⟨by decide +kernel, by decide +kernel, by decide +kernel⟩, Nat.le_of_ble_eq_true rfl⟩
theorem KX8_296 : KS RX8 296 mX8_isSheet 1 := ⟨⟨q1059, q1060, q10, q1061⟩, ⟨by decide +kernel, by decide +kernel, by decide +kernel⟩, Nat.le_of_ble_eq_true rfl⟩
theorem KX8_193 : KV RX8 193 mX8_couldBe 3 := ⟨⟨q1063, q1065, qs44, q10, q1066⟩, ⟨by decide +kernel, by decide +kernel, by decide +kernel⟩, Nat.le_of_ble_eq_true rfl⟩
theorem KX8_183 : KV RX8 183 mX8_isTold 2 := ⟨⟨q1067, q1069, qs45, q10, q1070⟩, ⟨by decide +kernel, by decide +kernel, by decide +kernel⟩, Nat.le_of_ble_eq_true rfl⟩
theorem KL_108 : KV RL 108 mX8_kinds 2 := ⟨⟨q1071, q1072, q1073, q10, q1074⟩, ⟨by decide +kernel, by decide +kernel, by decide +kernel⟩, Nat.le_of_ble_eq_true rfl⟩
theorem KL_112 : KV RL 112 mX8_gusts 1 := ⟨⟨q1075, q1076, q1077, q10, q1078⟩, ⟨by decide +kernel, by decide +kernel, by decide +kernel⟩, Nat.le_of_ble_eq_true rfl⟩
theorem KX8_199 : KV RX8 199 mX8_draw 0 := ⟨⟨q1080, q1082, qs46, q10, q1083⟩, ⟨by decide +kernel, by decide +kernel, by decide +kernel⟩, Nat.le_of_ble_eq_true rfl⟩
theorem KL_117 : KV RL 117 mX8_odds 2 := ⟨⟨q1085, q1086, q1087, q10, q1088⟩, ⟨by decide +kernel, by decide +kernel, by decide +kernel⟩, Nat.le_of_ble_eq_true rfl⟩
theorem KX8_204 : KS RX8 204 mX8_many 1 := ⟨⟨q1090, q1091, q10, q1092⟩, ⟨by decide +kernel, by decide +kernel, by decide +kernel⟩, Nat.le_of_ble_eq_true rfl⟩
theorem KL_121 : KV RL 121 mX8_seed 1 := ⟨⟨q1094, q1095, q1096, q10, q1097⟩, ⟨by decide +kernel, by decide +kernel, by decide +kernel⟩, Nat.le_of_ble_eq_true rfl⟩
theorem KL_125 : KV RL 125 mX8_feed 2 := ⟨⟨q1098, q1099, q1100, q10, q1101⟩, ⟨by decide +kernel, by decide +kernel, by decide +kernel⟩, Nat.le_of_ble_eq_true rfl⟩
theorem KL_129 : KV RL 129 mX8_wipe 0 := ⟨⟨q1102, q1103, q1104, q10, q1105⟩, ⟨by decide +kernel, by decide +kernel, by decide +kernel⟩, Nat.le_of_ble_eq_true rfl⟩
theorem KL_133 : KV RL 133 mX8_text 0 := ⟨⟨q1106, q1107, q1108, q10, q1109⟩, ⟨by decide +kernel, by decide +kernel, by decide +kernel⟩, Nat.le_of_ble_eq_true rfl⟩
theorem KX8_258 : KV RX8 258 mX8_nextToken 0 := ⟨⟨q1110, q1112, qs47, q10, q1113⟩, ⟨by decide +kernel, by decide +kernel, by decide +kernel⟩, Nat.le_of_ble_eq_true rfl⟩
theorem KX8_218 : KV RX8 218 mX8_byteAt 1 := ⟨⟨q1114, q1116, qs48, q10, q1117⟩, ⟨by decide +kernel, by decide +kernel, by decide +kernel⟩, Nat.le_of_ble_eq_true rfl⟩
theorem KX8_221 : KS RX8 221 mX8_isLetter 1 := ⟨⟨q1118, q1119, q10, q1120⟩, ⟨by decide +kernel, by decide +kernel, by decide +kernel⟩, Nat.le_of_ble_eq_true rfl⟩
theorem KX8_224 : KS RX8 224 mX8_isDigit 1 := ⟨⟨q1121, q1122, q10, q1123⟩, ⟨by decide +kernel, by decide +kernel, by decide +kernel⟩, Nat.le_of_ble_eq_true rfl⟩
theorem KX8_280 : KV RX8 280 mX8_kindHere 0 := ⟨⟨q1124, q1126, qs49, q10, q1127⟩, ⟨by decide +kernel, by decide +kernel, by decide +kernel⟩, Nat.le_of_ble_eq_true rfl⟩
theorem KX8_236 : KV RX8 236 mX8_isWord 1 := ⟨⟨q1128, q1130, qs50, q10, q1131⟩, ⟨by decide +kernel, by decide +kernel, by decide +kernel⟩, Nat.le_of_ble_eq_true rfl⟩
theorem KX8_239 : KV RX8 239 mX8_has3 4 := ⟨⟨q1132, q1134, qs51, q10, q1135⟩, ⟨by decide +kernel, by decide +kernel, by decide +kernel⟩, Nat.le_of_ble_eq_true rfl⟩
theorem KX8_247 : KV RX8 247 mX8_isFive 5 := ⟨⟨q1136, q1138, qs52, q10, q1139⟩, ⟨by decide +kernel, by decide +kernel, by decide +kernel⟩, Nat.le_of_ble_eq_true rfl⟩
theorem KX8_251 : KV RX8 251 mX8_isFour 4 := ⟨⟨q1140, q1142, qs53, q10, q1143⟩, ⟨by decide +kernel, by decide +kernel, by decide +kernel⟩, Nat.le_of_ble_eq_true rfl⟩
theorem KX8_254 : KV RX8 254 mX8_isSix 6 := ⟨⟨q1144, q1146, qs54, q10, q1147⟩, ⟨by decide +kernel, by decide +kernel, by decide +kernel⟩, Nat.le_of_ble_eq_true rfl⟩
theorem KX8_283 : KV RX8 283 mX8_umbrellaHere 1 := ⟨⟨q1148, q1150, qs55, q10, q1151⟩, ⟨by decide +kernel, by decide +kernel, by decide +kernel⟩, Nat.le_of_ble_eq_true rfl⟩
theorem KX8_243 : KV RX8 243 mX8_fails 0 := ⟨⟨q1152, q1154, qs56, q10, q1155⟩, ⟨by decide +kernel, by decide +kernel, by decide +kernel⟩, Nat.le_of_ble_eq_true rfl⟩
theorem KX8_264 : KV RX8 264 mX8_isTwo 2 := ⟨⟨q1156, q1158, qs57, q10, q1159⟩, ⟨by decide +kernel, by decide +kernel, by decide +kernel⟩, Nat.le_of_ble_eq_true rfl⟩
theorem KX8_267 : KV RX8 267 mX8_perhaps 2 := ⟨⟨q1160, q1162, qs58, q10, q1163⟩, ⟨by decide +kernel, by decide +kernel, by decide +kernel⟩, Nat.le_of_ble_eq_true rfl⟩
theorem KX8_261 : KV RX8 261 mX8_isNumber 2 := ⟨⟨q1164, q1166, qs59, q10, q1167⟩, ⟨by decide +kernel, by decide +kernel, by decide +kernel⟩, Nat.le_of_ble_eq_true rfl⟩
theorem KX8_286 : KV RX8 286 mX8_streetHere 0 := ⟨⟨q1168, q1170, qs60, q10, q1171⟩, ⟨by decide +kernel, by decide +kernel, by decide +kernel⟩, Nat.le_of_ble_eq_true rfl⟩
theorem KX8_271 : KV RX8 271 mX8_stepHere 1 := ⟨⟨q1172, q1174, qs61, q10, q1175⟩, ⟨by decide +kernel, by decide +kernel, by decide +kernel⟩, Nat.le_of_ble_eq_true rfl⟩
theorem KX8_274 : KV RX8 274 mX8_roofHere 1 := ⟨⟨q1176, q1178, qs62, q10, q1179⟩, ⟨by decide +kernel, by decide +kernel, by decide +kernel⟩, Nat.le_of_ble_eq_true rfl⟩
theorem KX8_277 : KV RX8 277 mX8_weatherHere 1 := ⟨⟨q1180, q1182, qs63, q10, q1183⟩, ⟨by decide +kernel, by decide +kernel, by decide +kernel⟩, Nat.le_of_ble_eq_true rfl⟩
theorem KL_137 : KV RL 137 mX8_hold 2 := ⟨⟨q1184, q1185, q1186, q10, q1187⟩, ⟨by decide +kernel, by decide +kernel, by decide +kernel⟩, Nat.le_of_ble_eq_true rfl⟩
theorem KL_141 : KV RL 141 mX8_as 2 := ⟨⟨q1189, q1190, q1191, q10, q1192⟩, ⟨by decide +kernel, by decide +kernel, by decide +kernel⟩, Nat.le_of_ble_eq_true rfl⟩
theorem KX8_292 : KS RX8 292 mX8_isUnder 2 := ⟨⟨q1193, q1194, q10, q1195⟩, ⟨by decide +kernel, by decide +kernel, by decide +kernel⟩, Nat.le_of_ble_eq_true rfl⟩
theorem KL_145 : KV RL 145 mX8_sheet 3 := ⟨⟨q1197, q1198, q1199, q10, q1200⟩, ⟨by decide +kernel, by decide +kernel, by decide +kernel⟩, Nat.le_of_ble_eq_true rfl⟩
theorem KL_149 : KV RL 149 mX8_write 3 := ⟨⟨q1202, q1203, q1204, q10, q1205⟩, ⟨by decide +kernel, by decide +kernel, by decide +kernel⟩, Nat.le_of_ble_eq_true rfl⟩
theorem KL_154 : KV RL 154 mX8_copy 5 := ⟨⟨q1206, q1207, q1208, q10, q1209⟩, ⟨by decide +kernel, by decide +kernel, by decide +kernel⟩, Nat.le_of_ble_eq_true rfl⟩
theorem KL_158 : KV RL 158 mX8_load 1 := ⟨⟨q1210, q1211, q1212, q10, q1213⟩, ⟨by decide +kernel, by decide +kernel, by decide +kernel⟩, Nat.le_of_ble_eq_true rfl⟩
theorem KL_162 : KV RL 162 mX8_judge 1 := ⟨⟨q1214, q1215, q1216, q10, q1217⟩, ⟨by decide +kernel, by decide +kernel, by decide +kernel⟩, Nat.le_of_ble_eq_true rfl⟩
theorem KL_166 : KV RL 166 mX8_image 0 := ⟨⟨q1218, q1219, q1220, q10, q1221⟩, ⟨by decide +kernel, by decide +kernel, by decide +kernel⟩, Nat.le_of_ble_eq_true rfl⟩
theorem KL_170 : KV RL 170 mX8_undo 0 := ⟨⟨q1222, q1223, q1224, q10, q1225⟩, ⟨by decide +kernel, by decide +kernel, by decide +kernel⟩, Nat.le_of_ble_eq_true rfl⟩
theorem KL_174 : KV RL 174 mX8_tear 0 := ⟨⟨q1226, q1227, q1228, q10, q1229⟩, ⟨by decide +kernel, by decide +kernel, by decide +kernel⟩, Nat.le_of_ble_eq_true rfl⟩
theorem KL_178 : KV RL 178 mX8_count 1 := ⟨⟨q1230, q1231, q1232, q10, q1233⟩, ⟨by decide +kernel, by decide +kernel, by decide +kernel⟩, Nat.le_of_ble_eq_true rfl⟩
theorem KL_182 : KV RL 182 mX8_status 1 := ⟨⟨q1234, q1235, q1236, q10, q1237⟩, ⟨by decide +kernel, by decide +kernel, by decide +kernel⟩, Nat.le_of_ble_eq_true rfl⟩
end
section
theorem dX0_init_0 : decode cX0_init 0 = .ok (.aload_n 0, 1) := by decide +kernel
theorem dX0_init_1 : decode cX0_init 1 = .ok (.invokespecial 3, 3) := by decide +kernel
theorem dX0_init_4 : decode cX0_init 4 = .ok (.aload_n 0, 1) := by decide +kernel
theorem dX0_init_5 : decode cX0_init 5 = .ok (.iconst 0, 1) := by decide +kernel
theorem dX0_init_6 : decode cX0_init 6 = .ok (.putfield 9, 3) := by decide +kernel
theorem dX0_init_9 : decode cX0_init 9 = .ok (.aload_n 0, 1) := by decide +kernel
theorem dX0_init_10 : decode cX0_init 10 = .ok (.iconst 0, 1) := by decide +kernel
theorem dX0_init_11 : decode cX0_init 11 = .ok (.putfield 15, 3) := by decide +kernel
theorem dX0_init_14 : decode cX0_init 14 = .ok (.aload_n 0, 1) := by decide +kernel
theorem dX0_init_15 : decode cX0_init 15 = .ok (.iconst 0, 1) := by decide +kernel
theorem dX0_init_16 : decode cX0_init 16 = .ok (.putfield 18, 3) := by decide +kernel
theorem dX0_init_19 : decode cX0_init 19 = .ok (.aload_n 0, 1) := by decide +kernel
theorem dX0_init_20 : decode cX0_init 20 = .ok (.iconst 0, 1) := by decide +kernel
theorem dX0_init_21 : decode cX0_init 21 = .ok (.putfield 21, 3) := by decide +kernel
theorem dX0_init_24 : decode cX0_init 24 = .ok (.aload_n 0, 1) := by decide +kernel
theorem dX0_init_25 : decode cX0_init 25 = .ok (.aload_n 1, 1) := by decide +kernel
theorem dX0_init_26 : decode cX0_init 26 = .ok (.putfield 24, 3) := by decide +kernel
theorem dX0_init_29 : decode cX0_init 29 = .ok (.return_, 1) := by decide +kernel
theorem dX0_readInto_0 : decode cX0_readInto 0 = .ok (.aload_n 0, 1) := by decide +kernel
theorem dX0_readInto_1 : decode cX0_readInto 1 = .ok (.iconst 0, 1) := by decide +kernel
theorem dX0_readInto_2 : decode cX0_readInto 2 = .ok (.putfield 15, 3) := by decide +kernel
theorem dX0_readInto_5 : decode cX0_readInto 5 = .ok (.aload_n 0, 1) := by decide +kernel
theorem dX0_readInto_6 : decode cX0_readInto 6 = .ok (.invokevirtual 28, 3) := by decide +kernel
theorem dX0_readInto_9 : decode cX0_readInto 9 = .ok (.iconst 1, 1) := by decide +kernel
theorem dX0_readInto_10 : decode cX0_readInto 10 = .ok (.istore_n 2, 1) := by decide +kernel
theorem dX0_readInto_11 : decode cX0_readInto 11 = .ok (.iload_n 2, 1) := by decide +kernel
theorem dX0_readInto_12 : decode cX0_readInto 12 = .ok (.bipush 120, 2) := by decide +kernel
theorem dX0_readInto_14 : decode cX0_readInto 14 = .ok (.if_icmp .gt 52, 3) := by decide +kernel
theorem dX0_readInto_17 : decode cX0_readInto 17 = .ok (.aload_n 0, 1) := by decide +kernel
theorem dX0_readInto_18 : decode cX0_readInto 18 = .ok (.aload_n 1, 1) := by decide +kernel
theorem dX0_readInto_19 : decode cX0_readInto 19 = .ok (.invokevirtual 31, 3) := by decide +kernel
theorem dX0_readInto_22 : decode cX0_readInto 22 = .ok (.ifCond .ne 10, 3) := by decide +kernel
theorem dX0_readInto_25 : decode cX0_readInto 25 = .ok (.iconst (-1), 1) := by decide +kernel
theorem dX0_readInto_26 : decode cX0_readInto 26 = .ok (.aload_n 0, 1) := by decide +kernel
theorem dX0_readInto_27 : decode cX0_readInto 27 = .ok (.getfield 9, 3) := by decide +kernel
theorem dX0_readInto_30 : decode cX0_readInto 30 = .ok (.isub, 1) := by decide +kernel
theorem dX0_readInto_31 : decode cX0_readInto 31 = .ok (.ireturn, 1) := by decide +kernel
theorem dX0_readInto_32 : decode cX0_readInto 32 = .ok (.aload_n 0, 1) := by decide +kernel
theorem dX0_readInto_33 : decode cX0_readInto 33 = .ok (.getfield 18, 3) := by decide +kernel
theorem dX0_readInto_36 : decode cX0_readInto 36 = .ok (.ifCond .ne 5, 3) := by decide +kernel
theorem dX0_readInto_39 : decode cX0_readInto 39 = .ok (.iload_n 2, 1) := by decide +kernel
theorem dX0_readInto_40 : decode cX0_readInto 40 = .ok (.ireturn, 1) := by decide +kernel
theorem dX0_readInto_41 : decode cX0_readInto 41 = .ok (.aload_n 0, 1) := by decide +kernel
theorem dX0_readInto_42 : decode cX0_readInto 42 = .ok (.getfield 18, 3) := by decide +kernel
theorem dX0_readInto_45 : decode cX0_readInto 45 = .ok (.iconst 3, 1) := by decide +kernel
theorem dX0_readInto_46 : decode cX0_readInto 46 = .ok (.if_icmp .eq 10, 3) := by decide +kernel
theorem dX0_readInto_49 : decode cX0_readInto 49 = .ok (.iconst (-1), 1) := by decide +kernel
theorem dX0_readInto_50 : decode cX0_readInto 50 = .ok (.aload_n 0, 1) := by decide +kernel
theorem dX0_readInto_51 : decode cX0_readInto 51 = .ok (.getfield 9, 3) := by decide +kernel
theorem dX0_readInto_54 : decode cX0_readInto 54 = .ok (.isub, 1) := by decide +kernel
theorem dX0_readInto_55 : decode cX0_readInto 55 = .ok (.ireturn, 1) := by decide +kernel
theorem dX0_readInto_56 : decode cX0_readInto 56 = .ok (.aload_n 0, 1) := by decide +kernel
theorem dX0_readInto_57 : decode cX0_readInto 57 = .ok (.invokevirtual 28, 3) := by decide +kernel
theorem dX0_readInto_60 : decode cX0_readInto 60 = .ok (.iinc 2 1, 3) := by decide +kernel
theorem dX0_readInto_63 : decode cX0_readInto 63 = .ok (.goto (-52), 3) := by decide +kernel
theorem dX0_readInto_66 : decode cX0_readInto 66 = .ok (.iconst (-1), 1) := by decide +kernel
theorem dX0_readInto_67 : decode cX0_readInto 67 = .ok (.aload_n 0, 1) := by decide +kernel
theorem dX0_readInto_68 : decode cX0_readInto 68 = .ok (.getfield 9, 3) := by decide +kernel
theorem dX0_readInto_71 : decode cX0_readInto 71 = .ok (.isub, 1) := by decide +kernel
theorem dX0_readInto_72 : decode cX0_readInto 72 = .ok (.ireturn, 1) := by decide +kernel
theorem dX0_readItem_0 : decode cX0_readItem 0 = .ok (.iconst 0, 1) := by decide +kernel
theorem dX0_readItem_1 : decode cX0_readItem 1 = .ok (.istore_n 2, 1) := by decide +kernel
theorem dX0_readItem_2 : decode cX0_readItem 2 = .ok (.iload_n 2, 1) := by decide +kernel
theorem dX0_readItem_3 : decode cX0_readItem 3 = .ok (.bipush 7, 2) := by decide +kernel
theorem dX0_readItem_5 : decode cX0_readItem 5 = .ok (.if_icmp .ge 27, 3) := by decide +kernel
theorem dX0_readItem_8 : decode cX0_readItem 8 = .ok (.aload_n 0, 1) := by decide +kernel
theorem dX0_readItem_9 : decode cX0_readItem 9 = .ok (.iload_n 2, 1) := by decide +kernel
theorem dX0_readItem_10 : decode cX0_readItem 10 = .ok (.invokestatic 35, 3) := by decide +kernel
theorem dX0_readItem_13 : decode cX0_readItem 13 = .ok (.invokevirtual 39, 3) := by decide +kernel
theorem dX0_readItem_16 : decode cX0_readItem 16 = .ok (.ifCond .eq 10, 3) := by decide +kernel
theorem dX0_readItem_19 : decode cX0_readItem 19 = .ok (.aload_n 0, 1) := by decide +kernel
theorem dX0_readItem_20 : decode cX0_readItem 20 = .ok (.aload_n 1, 1) := by decide +kernel
theorem dX0_readItem_21 : decode cX0_readItem 21 = .ok (.iload_n 2, 1) := by decide +kernel
theorem dX0_readItem_22 : decode cX0_readItem 22 = .ok (.invokevirtual 43, 3) := by decide +kernel
theorem dX0_readItem_25 : decode cX0_readItem 25 = .ok (.ireturn, 1) := by decide +kernel
theorem dX0_readItem_26 : decode cX0_readItem 26 = .ok (.iinc 2 1, 3) := by decide +kernel
theorem dX0_readItem_29 : decode cX0_readItem 29 = .ok (.goto (-27), 3) := by decide +kernel
theorem dX0_readItem_32 : decode cX0_readItem 32 = .ok (.iconst 0, 1) := by decide +kernel
theorem dX0_readItem_33 : decode cX0_readItem 33 = .ok (.istore_n 2, 1) := by decide +kernel
theorem dX0_readItem_34 : decode cX0_readItem 34 = .ok (.iload_n 2, 1) := by decide +kernel
theorem dX0_readItem_35 : decode cX0_readItem 35 = .ok (.iconst 3, 1) := by decide +kernel
theorem dX0_readItem_36 : decode cX0_readItem 36 = .ok (.if_icmp .ge 30, 3) := by decide +kernel
theorem dX0_readItem_39 : decode cX0_readItem 39 = .ok (.aload_n 0, 1) := by decide +kernel
theorem dX0_readItem_40 : decode cX0_readItem 40 = .ok (.iload_n 2, 1) := by decide +kernel
theorem dX0_readItem_41 : decode cX0_readItem 41 = .ok (.invokestatic 47, 3) := by decide +kernel
theorem dX0_readItem_44 : decode cX0_readItem 44 = .ok (.invokevirtual 39, 3) := by decide +kernel
theorem dX0_readItem_47 : decode cX0_readItem 47 = .ok (.ifCond .eq 13, 3) := by decide +kernel
theorem dX0_readItem_50 : decode cX0_readItem 50 = .ok (.aload_n 0, 1) := by decide +kernel
theorem dX0_readItem_51 : decode cX0_readItem 51 = .ok (.aload_n 1, 1) := by decide +kernel
theorem dX0_readItem_52 : decode cX0_readItem 52 = .ok (.getfield 50, 3) := by decide +kernel
theorem dX0_readItem_55 : decode cX0_readItem 55 = .ok (.iload_n 2, 1) := by decide +kernel
theorem dX0_readItem_56 : decode cX0_readItem 56 = .ok (.invokevirtual 56, 3) := by decide +kernel
theorem dX0_readItem_59 : decode cX0_readItem 59 = .ok (.ireturn, 1) := by decide +kernel
theorem dX0_readItem_60 : decode cX0_readItem 60 = .ok (.iinc 2 1, 3) := by decide +kernel
theorem dX0_readItem_63 : decode cX0_readItem 63 = .ok (.goto (-29), 3) := by decide +kernel
theorem dX0_readItem_66 : decode cX0_readItem 66 = .ok (.aload_n 0, 1) := by decide +kernel
theorem dX0_readItem_67 : decode cX0_readItem 67 = .ok (.ldc 60, 2) := by decide +kernel
theorem dX0_readItem_69 : decode cX0_readItem 69 = .ok (.invokevirtual 39, 3) := by decide +kernel
theorem dX0_readItem_72 : decode cX0_readItem 72 = .ok (.ifCond .eq 13, 3) := by decide +kernel
theorem dX0_readItem_75 : decode cX0_readItem 75 = .ok (.aload_n 0, 1) := by decide +kernel
theorem dX0_readItem_76 : decode cX0_readItem 76 = .ok (.aload_n 1, 1) := by decide +kernel
theorem dX0_readItem_77 : decode cX0_readItem 77 = .ok (.getfield 50, 3) := by decide +kernel
theorem dX0_readItem_80 : decode cX0_readItem 80 = .ok (.iconst 1, 1) := by decide +kernel
theorem dX0_readItem_81 : decode cX0_readItem 81 = .ok (.invokevirtual 62, 3) := by decide +kernel
theorem dX0_readItem_84 : decode cX0_readItem 84 = .ok (.ireturn, 1) := by decide +kernel
theorem dX0_readItem_85 : decode cX0_readItem 85 = .ok (.aload_n 0, 1) := by decide +kernel
theorem dX0_readItem_86 : decode cX0_readItem 86 = .ok (.ldc 65, 2) := by decide +kernel
theorem dX0_readItem_88 : decode cX0_readItem 88 = .ok (.invokevirtual 39, 3) := by decide +kernel
theorem dX0_readItem_91 : decode cX0_readItem 91 = .ok (.ifCond .eq 13, 3) := by decide +kernel
theorem dX0_readItem_94 : decode cX0_readItem 94 = .ok (.aload_n 0, 1) := by decide +kernel
theorem dX0_readItem_95 : decode cX0_readItem 95 = .ok (.aload_n 1, 1) := by decide +kernel
theorem dX0_readItem_96 : decode cX0_readItem 96 = .ok (.getfield 50, 3) := by decide +kernel
theorem dX0_readItem_99 : decode cX0_readItem 99 = .ok (.iconst 0, 1) := by decide +kernel
theorem dX0_readItem_100 : decode cX0_readItem 100 = .ok (.invokevirtual 62, 3) := by decide +kernel
theorem dX0_readItem_103 : decode cX0_readItem 103 = .ok (.ireturn, 1) := by decide +kernel
theorem dX0_readItem_104 : decode cX0_readItem 104 = .ok (.aload_n 0, 1) := by decide +kernel
theorem dX0_readItem_105 : decode cX0_readItem 105 = .ok (.ldc 67, 2) := by decide +kernel
theorem dX0_readItem_107 : decode cX0_readItem 107 = .ok (.invokevirtual 39, 3) := by decide +kernel
theorem dX0_readItem_110 : decode cX0_readItem 110 = .ok (.ifCond .eq 13, 3) := by decide +kernel
theorem dX0_readItem_113 : decode cX0_readItem 113 = .ok (.aload_n 0, 1) := by decide +kernel
theorem dX0_readItem_114 : decode cX0_readItem 114 = .ok (.aload_n 1, 1) := by decide +kernel
theorem dX0_readItem_115 : decode cX0_readItem 115 = .ok (.getfield 50, 3) := by decide +kernel
theorem dX0_readItem_118 : decode cX0_readItem 118 = .ok (.iconst 1, 1) := by decide +kernel
theorem dX0_readItem_119 : decode cX0_readItem 119 = .ok (.invokevirtual 69, 3) := by decide +kernel
theorem dX0_readItem_122 : decode cX0_readItem 122 = .ok (.ireturn, 1) := by decide +kernel
theorem dX0_readItem_123 : decode cX0_readItem 123 = .ok (.aload_n 0, 1) := by decide +kernel
theorem dX0_readItem_124 : decode cX0_readItem 124 = .ok (.ldc 73, 2) := by decide +kernel
theorem dX0_readItem_126 : decode cX0_readItem 126 = .ok (.invokevirtual 39, 3) := by decide +kernel
theorem dX0_readItem_129 : decode cX0_readItem 129 = .ok (.ifCond .eq 19, 3) := by decide +kernel
theorem dX0_readItem_132 : decode cX0_readItem 132 = .ok (.aload_n 0, 1) := by decide +kernel
theorem dX0_readItem_133 : decode cX0_readItem 133 = .ok (.aload_n 1, 1) := by decide +kernel
theorem dX0_readItem_134 : decode cX0_readItem 134 = .ok (.getfield 50, 3) := by decide +kernel
theorem dX0_readItem_137 : decode cX0_readItem 137 = .ok (.iconst 0, 1) := by decide +kernel
theorem dX0_readItem_138 : decode cX0_readItem 138 = .ok (.invokevirtual 69, 3) := by decide +kernel
theorem dX0_readItem_141 : decode cX0_readItem 141 = .ok (.ifCond .eq 7, 3) := by decide +kernel
theorem dX0_readItem_144 : decode cX0_readItem 144 = .ok (.iconst 1, 1) := by decide +kernel
theorem dX0_readItem_145 : decode cX0_readItem 145 = .ok (.goto 4, 3) := by decide +kernel
theorem dX0_readItem_148 : decode cX0_readItem 148 = .ok (.iconst 0, 1) := by decide +kernel
theorem dX0_readItem_149 : decode cX0_readItem 149 = .ok (.ireturn, 1) := by decide +kernel
theorem dX0_readUmbrella_0 : decode cX0_readUmbrella 0 = .ok (.aload_n 1, 1) := by decide +kernel
theorem dX0_readUmbrella_1 : decode cX0_readUmbrella 1 = .ok (.invokevirtual 75, 3) := by decide +kernel
theorem dX0_readUmbrella_4 : decode cX0_readUmbrella 4 = .ok (.ifCond .eq 5, 3) := by decide +kernel
theorem dX0_readUmbrella_7 : decode cX0_readUmbrella 7 = .ok (.iconst 0, 1) := by decide +kernel
theorem dX0_readUmbrella_8 : decode cX0_readUmbrella 8 = .ok (.ireturn, 1) := by decide +kernel
theorem dX0_readUmbrella_9 : decode cX0_readUmbrella 9 = .ok (.aload_n 1, 1) := by decide +kernel
theorem dX0_readUmbrella_10 : decode cX0_readUmbrella 10 = .ok (.getfield 79, 3) := by decide +kernel
theorem dX0_readUmbrella_13 : decode cX0_readUmbrella 13 = .ok (.aload_n 1, 1) := by decide +kernel
theorem dX0_readUmbrella_14 : decode cX0_readUmbrella 14 = .ok (.iload_n 2, 1) := by decide +kernel
theorem dX0_readUmbrella_15 : decode cX0_readUmbrella 15 = .ok (.invokevirtual 83, 3) := by decide +kernel
theorem dX0_readUmbrella_18 : decode cX0_readUmbrella 18 = .ok (.aaload, 1) := by decide +kernel
theorem dX0_readUmbrella_19 : decode cX0_readUmbrella 19 = .ok (.astore_n 3, 1) := by decide +kernel
theorem dX0_readUmbrella_20 : decode cX0_readUmbrella 20 = .ok (.aload_n 0, 1) := by decide +kernel
theorem dX0_readUmbrella_21 : decode cX0_readUmbrella 21 = .ok (.invokevirtual 28, 3) := by decide +kernel
theorem dX0_readUmbrella_24 : decode cX0_readUmbrella 24 = .ok (.aload_n 0, 1) := by decide +kernel
theorem dX0_readUmbrella_25 : decode cX0_readUmbrella 25 = .ok (.aload_n 3, 1) := by decide +kernel
theorem dX0_readUmbrella_26 : decode cX0_readUmbrella 26 = .ok (.ldc 87, 2) := by decide +kernel
theorem dX0_readUmbrella_28 : decode cX0_readUmbrella 28 = .ok (.iconst 1, 1) := by decide +kernel
theorem dX0_readUmbrella_29 : decode cX0_readUmbrella 29 = .ok (.invokevirtual 89, 3) := by decide +kernel
theorem dX0_readUmbrella_32 : decode cX0_readUmbrella 32 = .ok (.ifCond .eq 40, 3) := by decide +kernel
theorem dX0_readUmbrella_35 : decode cX0_readUmbrella 35 = .ok (.aload_n 0, 1) := by decide +kernel
theorem dX0_readUmbrella_36 : decode cX0_readUmbrella 36 = .ok (.aload_n 3, 1) := by decide +kernel
theorem dX0_readUmbrella_37 : decode cX0_readUmbrella 37 = .ok (.ldc 93, 2) := by decide +kernel
theorem dX0_readUmbrella_39 : decode cX0_readUmbrella 39 = .ok (.iconst 4, 1) := by decide +kernel
theorem dX0_readUmbrella_40 : decode cX0_readUmbrella 40 = .ok (.invokevirtual 89, 3) := by decide +kernel
theorem dX0_readUmbrella_43 : decode cX0_readUmbrella 43 = .ok (.ifCond .eq 29, 3) := by decide +kernel
theorem dX0_readUmbrella_46 : decode cX0_readUmbrella 46 = .ok (.aload_n 0, 1) := by decide +kernel
theorem dX0_readUmbrella_47 : decode cX0_readUmbrella 47 = .ok (.aload_n 3, 1) := by decide +kernel
theorem dX0_readUmbrella_48 : decode cX0_readUmbrella 48 = .ok (.ldc 95, 2) := by decide +kernel
theorem dX0_readUmbrella_50 : decode cX0_readUmbrella 50 = .ok (.iconst 2, 1) := by decide +kernel
theorem dX0_readUmbrella_51 : decode cX0_readUmbrella 51 = .ok (.invokevirtual 89, 3) := by decide +kernel
theorem dX0_readUmbrella_54 : decode cX0_readUmbrella 54 = .ok (.ifCond .eq 18, 3) := by decide +kernel
theorem dX0_readUmbrella_57 : decode cX0_readUmbrella 57 = .ok (.aload_n 0, 1) := by decide +kernel
theorem dX0_readUmbrella_58 : decode cX0_readUmbrella 58 = .ok (.aload_n 3, 1) := by decide +kernel
theorem dX0_readUmbrella_59 : decode cX0_readUmbrella 59 = .ok (.ldc 97, 2) := by decide +kernel
theorem dX0_readUmbrella_61 : decode cX0_readUmbrella 61 = .ok (.iconst 3, 1) := by decide +kernel
theorem dX0_readUmbrella_62 : decode cX0_readUmbrella 62 = .ok (.invokevirtual 89, 3) := by decide +kernel
theorem dX0_readUmbrella_65 : decode cX0_readUmbrella 65 = .ok (.ifCond .eq 7, 3) := by decide +kernel
theorem dX0_readUmbrella_68 : decode cX0_readUmbrella 68 = .ok (.iconst 1, 1) := by decide +kernel
theorem dX0_readUmbrella_69 : decode cX0_readUmbrella 69 = .ok (.goto 4, 3) := by decide +kernel
theorem dX0_readUmbrella_72 : decode cX0_readUmbrella 72 = .ok (.iconst 0, 1) := by decide +kernel
theorem dX0_readUmbrella_73 : decode cX0_readUmbrella 73 = .ok (.ireturn, 1) := by decide +kernel
theorem dX0_readMark_0 : decode cX0_readMark 0 = .ok (.aload_n 0, 1) := by decide +kernel
theorem dX0_readMark_1 : decode cX0_readMark 1 = .ok (.aload_n 2, 1) := by decide +kernel
theorem dX0_readMark_2 : decode cX0_readMark 2 = .ok (.invokevirtual 39, 3) := by decide +kernel
theorem dX0_readMark_5 : decode cX0_readMark 5 = .ok (.ifCond .ne 5, 3) := by decide +kernel
theorem dX0_readMark_8 : decode cX0_readMark 8 = .ok (.iconst 1, 1) := by decide +kernel
theorem dX0_readMark_9 : decode cX0_readMark 9 = .ok (.ireturn, 1) := by decide +kernel
theorem dX0_readMark_10 : decode cX0_readMark 10 = .ok (.aload_n 0, 1) := by decide +kernel
theorem dX0_readMark_11 : decode cX0_readMark 11 = .ok (.getstatic 99, 3) := by decide +kernel
theorem dX0_readMark_14 : decode cX0_readMark 14 = .ok (.iload_n 3, 1) := by decide +kernel
theorem dX0_readMark_15 : decode cX0_readMark 15 = .ok (.iaload, 1) := by decide +kernel
theorem dX0_readMark_16 : decode cX0_readMark 16 = .ok (.invokevirtual 103, 3) := by decide +kernel
theorem dX0_readMark_19 : decode cX0_readMark 19 = .ok (.istore 4, 2) := by decide +kernel
theorem dX0_readMark_21 : decode cX0_readMark 21 = .ok (.iload 4, 2) := by decide +kernel
theorem dX0_readMark_23 : decode cX0_readMark 23 = .ok (.ifCond .ge 5, 3) := by decide +kernel
theorem dX0_readMark_26 : decode cX0_readMark 26 = .ok (.iconst 0, 1) := by decide +kernel
theorem dX0_readMark_27 : decode cX0_readMark 27 = .ok (.ireturn, 1) := by decide +kernel
theorem dX0_readMark_28 : decode cX0_readMark 28 = .ok (.aload_n 1, 1) := by decide +kernel
theorem dX0_readMark_29 : decode cX0_readMark 29 = .ok (.iload_n 3, 1) := by decide +kernel
theorem dX0_readMark_30 : decode cX0_readMark 30 = .ok (.iload 4, 2) := by decide +kernel
theorem dX0_readMark_32 : decode cX0_readMark 32 = .ok (.invokevirtual 106, 3) := by decide +kernel
theorem dX0_readMark_35 : decode cX0_readMark 35 = .ok (.aload_n 0, 1) := by decide +kernel
theorem dX0_readMark_36 : decode cX0_readMark 36 = .ok (.invokevirtual 28, 3) := by decide +kernel
theorem dX0_readMark_39 : decode cX0_readMark 39 = .ok (.iconst 1, 1) := by decide +kernel
theorem dX0_readMark_40 : decode cX0_readMark 40 = .ok (.ireturn, 1) := by decide +kernel
theorem dX0_readWind_0 : decode cX0_readWind 0 = .ok (.aload_n 0, 1) := by decide +kernel
theorem dX0_readWind_1 : decode cX0_readWind 1 = .ok (.bipush 15, 2) := by decide +kernel
theorem dX0_readWind_3 : decode cX0_readWind 3 = .ok (.invokevirtual 103, 3) := by decide +kernel
theorem dX0_readWind_6 : decode cX0_readWind 6 = .ok (.istore_n 3, 1) := by decide +kernel
theorem dX0_readWind_7 : decode cX0_readWind 7 = .ok (.iload_n 3, 1) := by decide +kernel
theorem dX0_readWind_8 : decode cX0_readWind 8 = .ok (.invokestatic 112, 3) := by decide +kernel
theorem dX0_readWind_11 : decode cX0_readWind 11 = .ok (.ifCond .ne 5, 3) := by decide +kernel
theorem dX0_readWind_14 : decode cX0_readWind 14 = .ok (.iconst 0, 1) := by decide +kernel
theorem dX0_readWind_15 : decode cX0_readWind 15 = .ok (.ireturn, 1) := by decide +kernel
theorem dX0_readWind_16 : decode cX0_readWind 16 = .ok (.aload_n 0, 1) := by decide +kernel
theorem dX0_readWind_17 : decode cX0_readWind 17 = .ok (.bipush 99, 2) := by decide +kernel
theorem dX0_readWind_19 : decode cX0_readWind 19 = .ok (.invokevirtual 103, 3) := by decide +kernel
theorem dX0_readWind_22 : decode cX0_readWind 22 = .ok (.istore 4, 2) := by decide +kernel
theorem dX0_readWind_24 : decode cX0_readWind 24 = .ok (.iload 4, 2) := by decide +kernel
theorem dX0_readWind_26 : decode cX0_readWind 26 = .ok (.ifCond .ge 5, 3) := by decide +kernel
theorem dX0_readWind_29 : decode cX0_readWind 29 = .ok (.iconst 0, 1) := by decide +kernel
theorem dX0_readWind_30 : decode cX0_readWind 30 = .ok (.ireturn, 1) := by decide +kernel
theorem dX0_readWind_31 : decode cX0_readWind 31 = .ok (.aload_n 1, 1) := by decide +kernel
theorem dX0_readWind_32 : decode cX0_readWind 32 = .ok (.getfield 116, 3) := by decide +kernel
theorem dX0_readWind_35 : decode cX0_readWind 35 = .ok (.iload_n 3, 1) := by decide +kernel
theorem dX0_readWind_36 : decode cX0_readWind 36 = .ok (.iload_n 2, 1) := by decide +kernel
theorem dX0_readWind_37 : decode cX0_readWind 37 = .ok (.iastore, 1) := by decide +kernel
theorem dX0_readWind_38 : decode cX0_readWind 38 = .ok (.aload_n 1, 1) := by decide +kernel
theorem dX0_readWind_39 : decode cX0_readWind 39 = .ok (.getfield 121, 3) := by decide +kernel
theorem dX0_readWind_42 : decode cX0_readWind 42 = .ok (.iload_n 3, 1) := by decide +kernel
theorem dX0_readWind_43 : decode cX0_readWind 43 = .ok (.iload 4, 2) := by decide +kernel
theorem dX0_readWind_45 : decode cX0_readWind 45 = .ok (.iastore, 1) := by decide +kernel
theorem dX0_readWind_46 : decode cX0_readWind 46 = .ok (.aload_n 0, 1) := by decide +kernel
theorem dX0_readWind_47 : decode cX0_readWind 47 = .ok (.invokevirtual 28, 3) := by decide +kernel
theorem dX0_readWind_50 : decode cX0_readWind 50 = .ok (.iconst 1, 1) := by decide +kernel
theorem dX0_readWind_51 : decode cX0_readWind 51 = .ok (.ireturn, 1) := by decide +kernel
theorem dX0_readRoof_0 : decode cX0_readRoof 0 = .ok (.aload_n 0, 1) := by decide +kernel
theorem dX0_readRoof_1 : decode cX0_readRoof 1 = .ok (.bipush 15, 2) := by decide +kernel
theorem dX0_readRoof_3 : decode cX0_readRoof 3 = .ok (.invokevirtual 103, 3) := by decide +kernel
theorem dX0_readRoof_6 : decode cX0_readRoof 6 = .ok (.istore_n 3, 1) := by decide +kernel
theorem dX0_readRoof_7 : decode cX0_readRoof 7 = .ok (.iload_n 3, 1) := by decide +kernel
theorem dX0_readRoof_8 : decode cX0_readRoof 8 = .ok (.invokestatic 112, 3) := by decide +kernel
theorem dX0_readRoof_11 : decode cX0_readRoof 11 = .ok (.ifCond .ne 5, 3) := by decide +kernel
theorem dX0_readRoof_14 : decode cX0_readRoof 14 = .ok (.iconst 0, 1) := by decide +kernel
theorem dX0_readRoof_15 : decode cX0_readRoof 15 = .ok (.ireturn, 1) := by decide +kernel
theorem dX0_readRoof_16 : decode cX0_readRoof 16 = .ok (.aload_n 1, 1) := by decide +kernel
theorem dX0_readRoof_17 : decode cX0_readRoof 17 = .ok (.getfield 124, 3) := by decide +kernel
theorem dX0_readRoof_20 : decode cX0_readRoof 20 = .ok (.iload_n 3, 1) := by decide +kernel
theorem dX0_readRoof_21 : decode cX0_readRoof 21 = .ok (.iload_n 2, 1) := by decide +kernel
theorem dX0_readRoof_22 : decode cX0_readRoof 22 = .ok (.iastore, 1) := by decide +kernel
theorem dX0_readRoof_23 : decode cX0_readRoof 23 = .ok (.aload_n 0, 1) := by decide +kernel
theorem dX0_readRoof_24 : decode cX0_readRoof 24 = .ok (.invokevirtual 28, 3) := by decide +kernel
theorem dX0_readRoof_27 : decode cX0_readRoof 27 = .ok (.iconst 1, 1) := by decide +kernel
theorem dX0_readRoof_28 : decode cX0_readRoof 28 = .ok (.ireturn, 1) := by decide +kernel
theorem dX0_readWeather_0 : decode cX0_readWeather 0 = .ok (.aload_n 0, 1) := by decide +kernel
theorem dX0_readWeather_1 : decode cX0_readWeather 1 = .ok (.bipush 99, 2) := by decide +kernel
theorem dX0_readWeather_3 : decode cX0_readWeather 3 = .ok (.invokevirtual 103, 3) := by decide +kernel
theorem dX0_readWeather_6 : decode cX0_readWeather 6 = .ok (.istore_n 3, 1) := by decide +kernel
theorem dX0_readWeather_7 : decode cX0_readWeather 7 = .ok (.iload_n 3, 1) := by decide +kernel
theorem dX0_readWeather_8 : decode cX0_readWeather 8 = .ok (.ifCond .ge 5, 3) := by decide +kernel
theorem dX0_readWeather_11 : decode cX0_readWeather 11 = .ok (.iconst 0, 1) := by decide +kernel
theorem dX0_readWeather_12 : decode cX0_readWeather 12 = .ok (.ireturn, 1) := by decide +kernel
theorem dX0_readWeather_13 : decode cX0_readWeather 13 = .ok (.iload_n 2, 1) := by decide +kernel
theorem dX0_readWeather_14 : decode cX0_readWeather 14 = .ok (.ifCond .eq 11, 3) := by decide +kernel
theorem dX0_readWeather_17 : decode cX0_readWeather 17 = .ok (.aload_n 1, 1) := by decide +kernel
theorem dX0_readWeather_18 : decode cX0_readWeather 18 = .ok (.iload_n 3, 1) := by decide +kernel
theorem dX0_readWeather_19 : decode cX0_readWeather 19 = .ok (.putfield 126, 3) := by decide +kernel
theorem dX0_readWeather_22 : decode cX0_readWeather 22 = .ok (.goto 8, 3) := by decide +kernel
theorem dX0_readWeather_25 : decode cX0_readWeather 25 = .ok (.aload_n 1, 1) := by decide +kernel
theorem dX0_readWeather_26 : decode cX0_readWeather 26 = .ok (.iload_n 3, 1) := by decide +kernel
theorem dX0_readWeather_27 : decode cX0_readWeather 27 = .ok (.putfield 128, 3) := by decide +kernel
theorem dX0_readWeather_30 : decode cX0_readWeather 30 = .ok (.aload_n 0, 1) := by decide +kernel
theorem dX0_readWeather_31 : decode cX0_readWeather 31 = .ok (.invokevirtual 28, 3) := by decide +kernel
theorem dX0_readWeather_34 : decode cX0_readWeather 34 = .ok (.iconst 1, 1) := by decide +kernel
theorem dX0_readWeather_35 : decode cX0_readWeather 35 = .ok (.ireturn, 1) := by decide +kernel
theorem dX0_nextNumber_0 : decode cX0_nextNumber 0 = .ok (.aload_n 0, 1) := by decide +kernel
theorem dX0_nextNumber_1 : decode cX0_nextNumber 1 = .ok (.invokevirtual 28, 3) := by decide +kernel
theorem dX0_nextNumber_4 : decode cX0_nextNumber 4 = .ok (.aload_n 0, 1) := by decide +kernel
theorem dX0_nextNumber_5 : decode cX0_nextNumber 5 = .ok (.getfield 18, 3) := by decide +kernel
theorem dX0_nextNumber_8 : decode cX0_nextNumber 8 = .ok (.iconst 2, 1) := by decide +kernel
theorem dX0_nextNumber_9 : decode cX0_nextNumber 9 = .ok (.if_icmp .ne 18, 3) := by decide +kernel
theorem dX0_nextNumber_12 : decode cX0_nextNumber 12 = .ok (.aload_n 0, 1) := by decide +kernel
theorem dX0_nextNumber_13 : decode cX0_nextNumber 13 = .ok (.getfield 21, 3) := by decide +kernel
theorem dX0_nextNumber_16 : decode cX0_nextNumber 16 = .ok (.iload_n 1, 1) := by decide +kernel
theorem dX0_nextNumber_17 : decode cX0_nextNumber 17 = .ok (.if_icmp .gt 10, 3) := by decide +kernel
theorem dX0_nextNumber_20 : decode cX0_nextNumber 20 = .ok (.aload_n 0, 1) := by decide +kernel
theorem dX0_nextNumber_21 : decode cX0_nextNumber 21 = .ok (.getfield 21, 3) := by decide +kernel
theorem dX0_nextNumber_24 : decode cX0_nextNumber 24 = .ok (.goto 4, 3) := by decide +kernel
theorem dX0_nextNumber_27 : decode cX0_nextNumber 27 = .ok (.iconst (-1), 1) := by decide +kernel
theorem dX0_nextNumber_28 : decode cX0_nextNumber 28 = .ok (.ireturn, 1) := by decide +kernel
theorem dX0_isWord_0 : decode cX0_isWord 0 = .ok (.aload_n 0, 1) := by decide +kernel
theorem dX0_isWord_1 : decode cX0_isWord 1 = .ok (.getfield 18, 3) := by decide +kernel
theorem dX0_isWord_4 : decode cX0_isWord 4 = .ok (.iconst 1, 1) := by decide +kernel
theorem dX0_isWord_5 : decode cX0_isWord 5 = .ok (.if_icmp .ne 19, 3) := by decide +kernel
theorem dX0_isWord_8 : decode cX0_isWord 8 = .ok (.aload_n 1, 1) := by decide +kernel
theorem dX0_isWord_9 : decode cX0_isWord 9 = .ok (.invokevirtual 130, 3) := by decide +kernel
theorem dX0_isWord_12 : decode cX0_isWord 12 = .ok (.aload_n 0, 1) := by decide +kernel
theorem dX0_isWord_13 : decode cX0_isWord 13 = .ok (.getfield 15, 3) := by decide +kernel
theorem dX0_isWord_16 : decode cX0_isWord 16 = .ok (.aload_n 0, 1) := by decide +kernel
theorem dX0_isWord_17 : decode cX0_isWord 17 = .ok (.getfield 9, 3) := by decide +kernel
theorem dX0_isWord_20 : decode cX0_isWord 20 = .ok (.isub, 1) := by decide +kernel
theorem dX0_isWord_21 : decode cX0_isWord 21 = .ok (.if_icmp .eq 5, 3) := by decide +kernel
theorem dX0_isWord_24 : decode cX0_isWord 24 = .ok (.iconst 0, 1) := by decide +kernel
theorem dX0_isWord_25 : decode cX0_isWord 25 = .ok (.ireturn, 1) := by decide +kernel
theorem dX0_isWord_26 : decode cX0_isWord 26 = .ok (.iconst 0, 1) := by decide +kernel
theorem dX0_isWord_27 : decode cX0_isWord 27 = .ok (.istore_n 2, 1) := by decide +kernel
theorem dX0_isWord_28 : decode cX0_isWord 28 = .ok (.iload_n 2, 1) := by decide +kernel
theorem dX0_isWord_29 : decode cX0_isWord 29 = .ok (.aload_n 1, 1) := by decide +kernel
theorem dX0_isWord_30 : decode cX0_isWord 30 = .ok (.invokevirtual 130, 3) := by decide +kernel
theorem dX0_isWord_33 : decode cX0_isWord 33 = .ok (.if_icmp .ge 32, 3) := by decide +kernel
theorem dX0_isWord_36 : decode cX0_isWord 36 = .ok (.aload_n 1, 1) := by decide +kernel
theorem dX0_isWord_37 : decode cX0_isWord 37 = .ok (.iload_n 2, 1) := by decide +kernel
theorem dX0_isWord_38 : decode cX0_isWord 38 = .ok (.invokevirtual 136, 3) := by decide +kernel
theorem dX0_isWord_41 : decode cX0_isWord 41 = .ok (.aload_n 0, 1) := by decide +kernel
theorem dX0_isWord_42 : decode cX0_isWord 42 = .ok (.getfield 24, 3) := by decide +kernel
theorem dX0_isWord_45 : decode cX0_isWord 45 = .ok (.aload_n 0, 1) := by decide +kernel
theorem dX0_isWord_46 : decode cX0_isWord 46 = .ok (.getfield 9, 3) := by decide +kernel
theorem dX0_isWord_49 : decode cX0_isWord 49 = .ok (.iload_n 2, 1) := by decide +kernel
theorem dX0_isWord_50 : decode cX0_isWord 50 = .ok (.iadd, 1) := by decide +kernel
theorem dX0_isWord_51 : decode cX0_isWord 51 = .ok (.invokevirtual 140, 3) := by decide +kernel
theorem dX0_isWord_54 : decode cX0_isWord 54 = .ok (.if_icmp .eq 5, 3) := by decide +kernel
theorem dX0_isWord_57 : decode cX0_isWord 57 = .ok (.iconst 0, 1) := by decide +kernel
theorem dX0_isWord_58 : decode cX0_isWord 58 = .ok (.ireturn, 1) := by decide +kernel
theorem dX0_isWord_59 : decode cX0_isWord 59 = .ok (.iinc 2 1, 3) := by decide +kernel
theorem dX0_isWord_62 : decode cX0_isWord 62 = .ok (.goto (-34), 3) := by decide +kernel
theorem dX0_isWord_65 : decode cX0_isWord 65 = .ok (.iconst 1, 1) := by decide +kernel
theorem dX0_isWord_66 : decode cX0_isWord 66 = .ok (.ireturn, 1) := by decide +kernel
theorem dX0_readToken_0 : decode cX0_readToken 0 = .ok (.aload_n 0, 1) := by decide +kernel
theorem dX0_readToken_1 : decode cX0_readToken 1 = .ok (.aload_n 0, 1) := by decide +kernel
theorem dX0_readToken_2 : decode cX0_readToken 2 = .ok (.getfield 15, 3) := by decide +kernel
theorem dX0_readToken_5 : decode cX0_readToken 5 = .ok (.putfield 9, 3) := by decide +kernel
theorem dX0_readToken_8 : decode cX0_readToken 8 = .ok (.aload_n 0, 1) := by decide +kernel
theorem dX0_readToken_9 : decode cX0_readToken 9 = .ok (.getfield 9, 3) := by decide +kernel
theorem dX0_readToken_12 : decode cX0_readToken 12 = .ok (.aload_n 0, 1) := by decide +kernel
theorem dX0_readToken_13 : decode cX0_readToken 13 = .ok (.getfield 24, 3) := by decide +kernel
theorem dX0_readToken_16 : decode cX0_readToken 16 = .ok (.getfield 145, 3) := by decide +kernel
theorem dX0_readToken_19 : decode cX0_readToken 19 = .ok (.if_icmp .ge 32, 3) := by decide +kernel
theorem dX0_readToken_22 : decode cX0_readToken 22 = .ok (.aload_n 0, 1) := by decide +kernel
theorem dX0_readToken_23 : decode cX0_readToken 23 = .ok (.getfield 24, 3) := by decide +kernel
theorem dX0_readToken_26 : decode cX0_readToken 26 = .ok (.aload_n 0, 1) := by decide +kernel
theorem dX0_readToken_27 : decode cX0_readToken 27 = .ok (.getfield 9, 3) := by decide +kernel
theorem dX0_readToken_30 : decode cX0_readToken 30 = .ok (.invokevirtual 140, 3) := by decide +kernel
theorem dX0_readToken_33 : decode cX0_readToken 33 = .ok (.bipush 32, 2) := by decide +kernel
theorem dX0_readToken_35 : decode cX0_readToken 35 = .ok (.if_icmp .ne 16, 3) := by decide +kernel
theorem dX0_readToken_38 : decode cX0_readToken 38 = .ok (.aload_n 0, 1) := by decide +kernel
theorem dX0_readToken_39 : decode cX0_readToken 39 = .ok (.dup, 1) := by decide +kernel
theorem dX0_readToken_40 : decode cX0_readToken 40 = .ok (.getfield 9, 3) := by decide +kernel
theorem dX0_readToken_43 : decode cX0_readToken 43 = .ok (.iconst 1, 1) := by decide +kernel
theorem dX0_readToken_44 : decode cX0_readToken 44 = .ok (.iadd, 1) := by decide +kernel
theorem dX0_readToken_45 : decode cX0_readToken 45 = .ok (.putfield 9, 3) := by decide +kernel
theorem dX0_readToken_48 : decode cX0_readToken 48 = .ok (.goto (-40), 3) := by decide +kernel
theorem dX0_readToken_51 : decode cX0_readToken 51 = .ok (.aload_n 0, 1) := by decide +kernel
theorem dX0_readToken_52 : decode cX0_readToken 52 = .ok (.aload_n 0, 1) := by decide +kernel
theorem dX0_readToken_53 : decode cX0_readToken 53 = .ok (.getfield 24, 3) := by decide +kernel
theorem dX0_readToken_56 : decode cX0_readToken 56 = .ok (.aload_n 0, 1) := by decide +kernel
theorem dX0_readToken_57 : decode cX0_readToken 57 = .ok (.getfield 9, 3) := by decide +kernel
theorem dX0_readToken_60 : decode cX0_readToken 60 = .ok (.invokevirtual 140, 3) := by decide +kernel
theorem dX0_readToken_63 : decode cX0_readToken 63 = .ok (.invokestatic 147, 3) := by decide +kernel
theorem dX0_readToken_66 : decode cX0_readToken 66 = .ok (.putfield 18, 3) := by decide +kernel
theorem dX0_readToken_69 : decode cX0_readToken 69 = .ok (.aload_n 0, 1) := by decide +kernel
theorem dX0_readToken_70 : decode cX0_readToken 70 = .ok (.getfield 18, 3) := by decide +kernel
theorem dX0_readToken_73 : decode cX0_readToken 73 = .ok (.iconst 1, 1) := by decide +kernel
theorem dX0_readToken_74 : decode cX0_readToken 74 = .ok (.if_icmp .eq 11, 3) := by decide +kernel
theorem dX0_readToken_77 : decode cX0_readToken 77 = .ok (.aload_n 0, 1) := by decide +kernel
theorem dX0_readToken_78 : decode cX0_readToken 78 = .ok (.getfield 18, 3) := by decide +kernel
theorem dX0_readToken_81 : decode cX0_readToken 81 = .ok (.iconst 2, 1) := by decide +kernel
theorem dX0_readToken_82 : decode cX0_readToken 82 = .ok (.if_icmp .ne 7, 3) := by decide +kernel
theorem dX0_readToken_85 : decode cX0_readToken 85 = .ok (.iconst 1, 1) := by decide +kernel
theorem dX0_readToken_86 : decode cX0_readToken 86 = .ok (.goto 4, 3) := by decide +kernel
theorem dX0_readToken_89 : decode cX0_readToken 89 = .ok (.iconst 0, 1) := by decide +kernel
theorem dX0_readToken_90 : decode cX0_readToken 90 = .ok (.istore_n 1, 1) := by decide +kernel
theorem dX0_readToken_91 : decode cX0_readToken 91 = .ok (.iload_n 1, 1) := by decide +kernel
theorem dX0_readToken_92 : decode cX0_readToken 92 = .ok (.ifCond .eq 13, 3) := by decide +kernel
theorem dX0_readToken_95 : decode cX0_readToken 95 = .ok (.aload_n 0, 1) := by decide +kernel
theorem dX0_readToken_96 : decode cX0_readToken 96 = .ok (.getfield 24, 3) := by decide +kernel
theorem dX0_readToken_99 : decode cX0_readToken 99 = .ok (.getfield 145, 3) := by decide +kernel
theorem dX0_readToken_102 : decode cX0_readToken 102 = .ok (.goto 19, 3) := by decide +kernel
theorem dX0_readToken_105 : decode cX0_readToken 105 = .ok (.aload_n 0, 1) := by decide +kernel
theorem dX0_readToken_106 : decode cX0_readToken 106 = .ok (.getfield 24, 3) := by decide +kernel
theorem dX0_readToken_109 : decode cX0_readToken 109 = .ok (.getfield 145, 3) := by decide +kernel
theorem dX0_readToken_112 : decode cX0_readToken 112 = .ok (.aload_n 0, 1) := by decide +kernel
theorem dX0_readToken_113 : decode cX0_readToken 113 = .ok (.getfield 9, 3) := by decide +kernel
theorem dX0_readToken_116 : decode cX0_readToken 116 = .ok (.iconst 1, 1) := by decide +kernel
theorem dX0_readToken_117 : decode cX0_readToken 117 = .ok (.iadd, 1) := by decide +kernel
theorem dX0_readToken_118 : decode cX0_readToken 118 = .ok (.invokestatic 150, 3) := by decide +kernel
theorem dX0_readToken_121 : decode cX0_readToken 121 = .ok (.istore_n 2, 1) := by decide +kernel
theorem dX0_readToken_122 : decode cX0_readToken 122 = .ok (.aload_n 0, 1) := by decide +kernel
theorem dX0_readToken_123 : decode cX0_readToken 123 = .ok (.iconst 0, 1) := by decide +kernel
theorem dX0_readToken_124 : decode cX0_readToken 124 = .ok (.putfield 21, 3) := by decide +kernel
theorem dX0_readToken_127 : decode cX0_readToken 127 = .ok (.aload_n 0, 1) := by decide +kernel
theorem dX0_readToken_128 : decode cX0_readToken 128 = .ok (.aload_n 0, 1) := by decide +kernel
theorem dX0_readToken_129 : decode cX0_readToken 129 = .ok (.getfield 9, 3) := by decide +kernel
theorem dX0_readToken_132 : decode cX0_readToken 132 = .ok (.putfield 15, 3) := by decide +kernel
theorem dX0_readToken_135 : decode cX0_readToken 135 = .ok (.aload_n 0, 1) := by decide +kernel
theorem dX0_readToken_136 : decode cX0_readToken 136 = .ok (.getfield 15, 3) := by decide +kernel
theorem dX0_readToken_139 : decode cX0_readToken 139 = .ok (.iload_n 2, 1) := by decide +kernel
theorem dX0_readToken_140 : decode cX0_readToken 140 = .ok (.if_icmp .ge 77, 3) := by decide +kernel
theorem dX0_readToken_143 : decode cX0_readToken 143 = .ok (.aload_n 0, 1) := by decide +kernel
theorem dX0_readToken_144 : decode cX0_readToken 144 = .ok (.getfield 24, 3) := by decide +kernel
theorem dX0_readToken_147 : decode cX0_readToken 147 = .ok (.aload_n 0, 1) := by decide +kernel
theorem dX0_readToken_148 : decode cX0_readToken 148 = .ok (.getfield 15, 3) := by decide +kernel
theorem dX0_readToken_151 : decode cX0_readToken 151 = .ok (.invokevirtual 140, 3) := by decide +kernel
theorem dX0_readToken_154 : decode cX0_readToken 154 = .ok (.invokestatic 147, 3) := by decide +kernel
theorem dX0_readToken_157 : decode cX0_readToken 157 = .ok (.aload_n 0, 1) := by decide +kernel
theorem dX0_readToken_158 : decode cX0_readToken 158 = .ok (.getfield 18, 3) := by decide +kernel
theorem dX0_readToken_161 : decode cX0_readToken 161 = .ok (.if_icmp .ne 56, 3) := by decide +kernel
theorem dX0_readToken_164 : decode cX0_readToken 164 = .ok (.aload_n 0, 1) := by decide +kernel
theorem dX0_readToken_165 : decode cX0_readToken 165 = .ok (.getfield 18, 3) := by decide +kernel
theorem dX0_readToken_168 : decode cX0_readToken 168 = .ok (.iconst 2, 1) := by decide +kernel
theorem dX0_readToken_169 : decode cX0_readToken 169 = .ok (.if_icmp .ne 35, 3) := by decide +kernel
theorem dX0_readToken_172 : decode cX0_readToken 172 = .ok (.aload_n 0, 1) := by decide +kernel
theorem dX0_readToken_173 : decode cX0_readToken 173 = .ok (.sipush 1000, 3) := by decide +kernel
theorem dX0_readToken_176 : decode cX0_readToken 176 = .ok (.bipush 10, 2) := by decide +kernel
theorem dX0_readToken_178 : decode cX0_readToken 178 = .ok (.aload_n 0, 1) := by decide +kernel
theorem dX0_readToken_179 : decode cX0_readToken 179 = .ok (.getfield 21, 3) := by decide +kernel
theorem dX0_readToken_182 : decode cX0_readToken 182 = .ok (.imul, 1) := by decide +kernel
theorem dX0_readToken_183 : decode cX0_readToken 183 = .ok (.aload_n 0, 1) := by decide +kernel
theorem dX0_readToken_184 : decode cX0_readToken 184 = .ok (.getfield 24, 3) := by decide +kernel
theorem dX0_readToken_187 : decode cX0_readToken 187 = .ok (.aload_n 0, 1) := by decide +kernel
theorem dX0_readToken_188 : decode cX0_readToken 188 = .ok (.getfield 15, 3) := by decide +kernel
theorem dX0_readToken_191 : decode cX0_readToken 191 = .ok (.invokevirtual 140, 3) := by decide +kernel
theorem dX0_readToken_194 : decode cX0_readToken 194 = .ok (.iadd, 1) := by decide +kernel
theorem dX0_readToken_195 : decode cX0_readToken 195 = .ok (.bipush 48, 2) := by decide +kernel
theorem dX0_readToken_197 : decode cX0_readToken 197 = .ok (.isub, 1) := by decide +kernel
theorem dX0_readToken_198 : decode cX0_readToken 198 = .ok (.invokestatic 150, 3) := by decide +kernel
theorem dX0_readToken_201 : decode cX0_readToken 201 = .ok (.putfield 21, 3) := by decide +kernel
theorem dX0_readToken_204 : decode cX0_readToken 204 = .ok (.aload_n 0, 1) := by decide +kernel
theorem dX0_readToken_205 : decode cX0_readToken 205 = .ok (.dup, 1) := by decide +kernel
theorem dX0_readToken_206 : decode cX0_readToken 206 = .ok (.getfield 15, 3) := by decide +kernel
theorem dX0_readToken_209 : decode cX0_readToken 209 = .ok (.iconst 1, 1) := by decide +kernel
theorem dX0_readToken_210 : decode cX0_readToken 210 = .ok (.iadd, 1) := by decide +kernel
theorem dX0_readToken_211 : decode cX0_readToken 211 = .ok (.putfield 15, 3) := by decide +kernel
theorem dX0_readToken_214 : decode cX0_readToken 214 = .ok (.goto (-79), 3) := by decide +kernel
theorem dX0_readToken_217 : decode cX0_readToken 217 = .ok (.return_, 1) := by decide +kernel
theorem dX0_tokenOf_0 : decode cX0_tokenOf 0 = .ok (.iload_n 0, 1) := by decide +kernel
theorem dX0_tokenOf_1 : decode cX0_tokenOf 1 = .ok (.ifCond .ge 5, 3) := by decide +kernel
theorem dX0_tokenOf_4 : decode cX0_tokenOf 4 = .ok (.iconst 0, 1) := by decide +kernel
theorem dX0_tokenOf_5 : decode cX0_tokenOf 5 = .ok (.ireturn, 1) := by decide +kernel
theorem dX0_tokenOf_6 : decode cX0_tokenOf 6 = .ok (.iload_n 0, 1) := by decide +kernel
theorem dX0_tokenOf_7 : decode cX0_tokenOf 7 = .ok (.bipush 97, 2) := by decide +kernel
theorem dX0_tokenOf_9 : decode cX0_tokenOf 9 = .ok (.if_icmp .lt 11, 3) := by decide +kernel
theorem dX0_tokenOf_12 : decode cX0_tokenOf 12 = .ok (.iload_n 0, 1) := by decide +kernel
theorem dX0_tokenOf_13 : decode cX0_tokenOf 13 = .ok (.bipush 122, 2) := by decide +kernel
theorem dX0_tokenOf_15 : decode cX0_tokenOf 15 = .ok (.if_icmp .gt 5, 3) := by decide +kernel
theorem dX0_tokenOf_18 : decode cX0_tokenOf 18 = .ok (.iconst 1, 1) := by decide +kernel
theorem dX0_tokenOf_19 : decode cX0_tokenOf 19 = .ok (.ireturn, 1) := by decide +kernel
theorem dX0_tokenOf_20 : decode cX0_tokenOf 20 = .ok (.iload_n 0, 1) := by decide +kernel
theorem dX0_tokenOf_21 : decode cX0_tokenOf 21 = .ok (.bipush 48, 2) := by decide +kernel
theorem dX0_tokenOf_23 : decode cX0_tokenOf 23 = .ok (.if_icmp .lt 11, 3) := by decide +kernel
theorem dX0_tokenOf_26 : decode cX0_tokenOf 26 = .ok (.iload_n 0, 1) := by decide +kernel
theorem dX0_tokenOf_27 : decode cX0_tokenOf 27 = .ok (.bipush 57, 2) := by decide +kernel
theorem dX0_tokenOf_29 : decode cX0_tokenOf 29 = .ok (.if_icmp .gt 5, 3) := by decide +kernel
theorem dX0_tokenOf_32 : decode cX0_tokenOf 32 = .ok (.iconst 2, 1) := by decide +kernel
theorem dX0_tokenOf_33 : decode cX0_tokenOf 33 = .ok (.ireturn, 1) := by decide +kernel
theorem dX0_tokenOf_34 : decode cX0_tokenOf 34 = .ok (.iload_n 0, 1) := by decide +kernel
theorem dX0_tokenOf_35 : decode cX0_tokenOf 35 = .ok (.bipush 59, 2) := by decide +kernel
theorem dX0_tokenOf_37 : decode cX0_tokenOf 37 = .ok (.if_icmp .ne 7, 3) := by decide +kernel
theorem dX0_tokenOf_40 : decode cX0_tokenOf 40 = .ok (.iconst 3, 1) := by decide +kernel
theorem dX0_tokenOf_41 : decode cX0_tokenOf 41 = .ok (.goto 4, 3) := by decide +kernel
theorem dX0_tokenOf_44 : decode cX0_tokenOf 44 = .ok (.iconst 4, 1) := by decide +kernel
theorem dX0_tokenOf_45 : decode cX0_tokenOf 45 = .ok (.ireturn, 1) := by decide +kernel
theorem dX0_wordOfKind_0 : decode cX0_wordOfKind 0 = .ok (.iload_n 0, 1) := by decide +kernel
theorem dX0_wordOfKind_1 : decode cX0_wordOfKind 1 = .ok (.tableswitch 57 1 6 #[39, 42, 45, 48, 51, 54], 39) := by decide +kernel
theorem dX0_wordOfKind_40 : decode cX0_wordOfKind 40 = .ok (.ldc 156, 2) := by decide +kernel
theorem dX0_wordOfKind_42 : decode cX0_wordOfKind 42 = .ok (.areturn, 1) := by decide +kernel
theorem dX0_wordOfKind_43 : decode cX0_wordOfKind 43 = .ok (.ldc 158, 2) := by decide +kernel
theorem dX0_wordOfKind_45 : decode cX0_wordOfKind 45 = .ok (.areturn, 1) := by decide +kernel
theorem dX0_wordOfKind_46 : decode cX0_wordOfKind 46 = .ok (.ldc 160, 2) := by decide +kernel
theorem dX0_wordOfKind_48 : decode cX0_wordOfKind 48 = .ok (.areturn, 1) := by decide +kernel
theorem dX0_wordOfKind_49 : decode cX0_wordOfKind 49 = .ok (.ldc 162, 2) := by decide +kernel
theorem dX0_wordOfKind_51 : decode cX0_wordOfKind 51 = .ok (.areturn, 1) := by decide +kernel
theorem dX0_wordOfKind_52 : decode cX0_wordOfKind 52 = .ok (.ldc 164, 2) := by decide +kernel
theorem dX0_wordOfKind_54 : decode cX0_wordOfKind 54 = .ok (.areturn, 1) := by decide +kernel
theorem dX0_wordOfKind_55 : decode cX0_wordOfKind 55 = .ok (.ldc 166, 2) := by decide +kernel
theorem dX0_wordOfKind_57 : decode cX0_wordOfKind 57 = .ok (.areturn, 1) := by decide +kernel
theorem dX0_wordOfKind_58 : decode cX0_wordOfKind 58 = .ok (.ldc 168, 2) := by decide +kernel
theorem dX0_wordOfKind_60 : decode cX0_wordOfKind 60 = .ok (.areturn, 1) := by decide +kernel
theorem dX0_wordOfFrom_0 : decode cX0_wordOfFrom 0 = .ok (.iload_n 0, 1) := by decide +kernel
theorem dX0_wordOfFrom_1 : decode cX0_wordOfFrom 1 = .ok (.lookupswitch 33 #[(0, 27), (1, 30)], 27) := by decide +kernel
theorem dX0_wordOfFrom_28 : decode cX0_wordOfFrom 28 = .ok (.ldc 170, 2) := by decide +kernel
theorem dX0_wordOfFrom_30 : decode cX0_wordOfFrom 30 = .ok (.areturn, 1) := by decide +kernel
theorem dX0_wordOfFrom_31 : decode cX0_wordOfFrom 31 = .ok (.ldc 172, 2) := by decide +kernel
theorem dX0_wordOfFrom_33 : decode cX0_wordOfFrom 33 = .ok (.areturn, 1) := by decide +kernel
theorem dX0_wordOfFrom_34 : decode cX0_wordOfFrom 34 = .ok (.ldc 174, 2) := by decide +kernel
theorem dX0_wordOfFrom_36 : decode cX0_wordOfFrom 36 = .ok (.areturn, 1) := by decide +kernel
theorem dX1_init_0 : decode cX1_init 0 = .ok (.aload_n 0, 1) := by decide +kernel
theorem dX1_init_1 : decode cX1_init 1 = .ok (.invokespecial 3, 3) := by decide +kernel
theorem dX1_init_4 : decode cX1_init 4 = .ok (.aload_n 0, 1) := by decide +kernel
theorem dX1_init_5 : decode cX1_init 5 = .ok (.bipush 40, 2) := by decide +kernel
theorem dX1_init_7 : decode cX1_init 7 = .ok (.newarray .int, 2) := by decide +kernel
theorem dX1_init_9 : decode cX1_init 9 = .ok (.putfield 9, 3) := by decide +kernel
theorem dX1_init_12 : decode cX1_init 12 = .ok (.aload_n 0, 1) := by decide +kernel
theorem dX1_init_13 : decode cX1_init 13 = .ok (.iconst 0, 1) := by decide +kernel
theorem dX1_init_14 : decode cX1_init 14 = .ok (.putfield 15, 3) := by decide +kernel
theorem dX1_init_17 : decode cX1_init 17 = .ok (.aload_n 0, 1) := by decide +kernel
theorem dX1_init_18 : decode cX1_init 18 = .ok (.iconst 0, 1) := by decide +kernel
theorem dX1_init_19 : decode cX1_init 19 = .ok (.putfield 19, 3) := by decide +kernel
theorem dX1_init_22 : decode cX1_init 22 = .ok (.return_, 1) := by decide +kernel
theorem dX1_isMissing_0 : decode cX1_isMissing 0 = .ok (.aload_n 0, 1) := by decide +kernel
theorem dX1_isMissing_1 : decode cX1_isMissing 1 = .ok (.getfield 15, 3) := by decide +kernel
theorem dX1_isMissing_4 : decode cX1_isMissing 4 = .ok (.ifCond .ne 7, 3) := by decide +kernel
theorem dX1_isMissing_7 : decode cX1_isMissing 7 = .ok (.iconst 1, 1) := by decide +kernel
theorem dX1_isMissing_8 : decode cX1_isMissing 8 = .ok (.goto 4, 3) := by decide +kernel
theorem dX1_isMissing_11 : decode cX1_isMissing 11 = .ok (.iconst 0, 1) := by decide +kernel
theorem dX1_isMissing_12 : decode cX1_isMissing 12 = .ok (.ireturn, 1) := by decide +kernel
theorem dX1_clear_0 : decode cX1_clear 0 = .ok (.aload_n 0, 1) := by decide +kernel
theorem dX1_clear_1 : decode cX1_clear 1 = .ok (.getfield 9, 3) := by decide +kernel
theorem dX1_clear_4 : decode cX1_clear 4 = .ok (.iconst 0, 1) := by decide +kernel
theorem dX1_clear_5 : decode cX1_clear 5 = .ok (.invokestatic 22, 3) := by decide +kernel
theorem dX1_clear_8 : decode cX1_clear 8 = .ok (.aload_n 0, 1) := by decide +kernel
theorem dX1_clear_9 : decode cX1_clear 9 = .ok (.iload_n 1, 1) := by decide +kernel
theorem dX1_clear_10 : decode cX1_clear 10 = .ok (.putfield 15, 3) := by decide +kernel
theorem dX1_clear_13 : decode cX1_clear 13 = .ok (.aload_n 0, 1) := by decide +kernel
theorem dX1_clear_14 : decode cX1_clear 14 = .ok (.iload_n 1, 1) := by decide +kernel
theorem dX1_clear_15 : decode cX1_clear 15 = .ok (.ifCond .ne 7, 3) := by decide +kernel
theorem dX1_clear_18 : decode cX1_clear 18 = .ok (.iconst 0, 1) := by decide +kernel
theorem dX1_clear_19 : decode cX1_clear 19 = .ok (.goto 4, 3) := by decide +kernel
theorem dX1_clear_22 : decode cX1_clear 22 = .ok (.iload_n 2, 1) := by decide +kernel
theorem dX1_clear_23 : decode cX1_clear 23 = .ok (.putfield 19, 3) := by decide +kernel
theorem dX1_clear_26 : decode cX1_clear 26 = .ok (.return_, 1) := by decide +kernel
theorem dX1_has_0 : decode cX1_has 0 = .ok (.iload_n 1, 1) := by decide +kernel
theorem dX1_has_1 : decode cX1_has 1 = .ok (.ifCond .lt 29, 3) := by decide +kernel
theorem dX1_has_4 : decode cX1_has 4 = .ok (.iload_n 2, 1) := by decide +kernel
theorem dX1_has_5 : decode cX1_has 5 = .ok (.ifCond .lt 25, 3) := by decide +kernel
theorem dX1_has_8 : decode cX1_has 8 = .ok (.iload_n 2, 1) := by decide +kernel
theorem dX1_has_9 : decode cX1_has 9 = .ok (.aload_n 0, 1) := by decide +kernel
theorem dX1_has_10 : decode cX1_has 10 = .ok (.getfield 19, 3) := by decide +kernel
theorem dX1_has_13 : decode cX1_has 13 = .ok (.if_icmp .gt 17, 3) := by decide +kernel
theorem dX1_has_16 : decode cX1_has 16 = .ok (.iload_n 1, 1) := by decide +kernel
theorem dX1_has_17 : decode cX1_has 17 = .ok (.aload_n 0, 1) := by decide +kernel
theorem dX1_has_18 : decode cX1_has 18 = .ok (.getfield 19, 3) := by decide +kernel
theorem dX1_has_21 : decode cX1_has 21 = .ok (.iload_n 2, 1) := by decide +kernel
theorem dX1_has_22 : decode cX1_has 22 = .ok (.isub, 1) := by decide +kernel
theorem dX1_has_23 : decode cX1_has 23 = .ok (.if_icmp .gt 7, 3) := by decide +kernel
theorem dX1_has_26 : decode cX1_has 26 = .ok (.iconst 1, 1) := by decide +kernel
theorem dX1_has_27 : decode cX1_has 27 = .ok (.goto 4, 3) := by decide +kernel
theorem dX1_has_30 : decode cX1_has 30 = .ok (.iconst 0, 1) := by decide +kernel
theorem dX1_has_31 : decode cX1_has 31 = .ok (.ireturn, 1) := by decide +kernel
theorem dX1_put_0 : decode cX1_put 0 = .ok (.iload_n 1, 1) := by decide +kernel
theorem dX1_put_1 : decode cX1_put 1 = .ok (.ifCond .lt 11, 3) := by decide +kernel
theorem dX1_put_4 : decode cX1_put 4 = .ok (.iload_n 1, 1) := by decide +kernel
theorem dX1_put_5 : decode cX1_put 5 = .ok (.aload_n 0, 1) := by decide +kernel
theorem dX1_put_6 : decode cX1_put 6 = .ok (.getfield 19, 3) := by decide +kernel
theorem dX1_put_9 : decode cX1_put 9 = .ok (.if_icmp .lt 4, 3) := by decide +kernel
theorem dX1_put_12 : decode cX1_put 12 = .ok (.return_, 1) := by decide +kernel
theorem dX1_put_13 : decode cX1_put 13 = .ok (.aload_n 0, 1) := by decide +kernel
theorem dX1_put_14 : decode cX1_put 14 = .ok (.getfield 15, 3) := by decide +kernel
theorem dX1_put_17 : decode cX1_put 17 = .ok (.bipush 8, 2) := by decide +kernel
theorem dX1_put_19 : decode cX1_put 19 = .ok (.if_icmp .ne 14, 3) := by decide +kernel
theorem dX1_put_22 : decode cX1_put 22 = .ok (.aload_n 0, 1) := by decide +kernel
theorem dX1_put_23 : decode cX1_put 23 = .ok (.getfield 9, 3) := by decide +kernel
theorem dX1_put_26 : decode cX1_put 26 = .ok (.iload_n 1, 1) := by decide +kernel
theorem dX1_put_27 : decode cX1_put 27 = .ok (.iload_n 2, 1) := by decide +kernel
theorem dX1_put_28 : decode cX1_put 28 = .ok (.i2b, 1) := by decide +kernel
theorem dX1_put_29 : decode cX1_put 29 = .ok (.iastore, 1) := by decide +kernel
theorem dX1_put_30 : decode cX1_put 30 = .ok (.goto 30, 3) := by decide +kernel
theorem dX1_put_33 : decode cX1_put 33 = .ok (.aload_n 0, 1) := by decide +kernel
theorem dX1_put_34 : decode cX1_put 34 = .ok (.getfield 15, 3) := by decide +kernel
theorem dX1_put_37 : decode cX1_put 37 = .ok (.bipush 16, 2) := by decide +kernel
theorem dX1_put_39 : decode cX1_put 39 = .ok (.if_icmp .ne 14, 3) := by decide +kernel
theorem dX1_put_42 : decode cX1_put 42 = .ok (.aload_n 0, 1) := by decide +kernel
theorem dX1_put_43 : decode cX1_put 43 = .ok (.getfield 9, 3) := by decide +kernel
theorem dX1_put_46 : decode cX1_put 46 = .ok (.iload_n 1, 1) := by decide +kernel
theorem dX1_put_47 : decode cX1_put 47 = .ok (.iload_n 2, 1) := by decide +kernel
theorem dX1_put_48 : decode cX1_put 48 = .ok (.i2s, 1) := by decide +kernel
theorem dX1_put_49 : decode cX1_put 49 = .ok (.iastore, 1) := by decide +kernel
theorem dX1_put_50 : decode cX1_put 50 = .ok (.goto 10, 3) := by decide +kernel
theorem dX1_put_53 : decode cX1_put 53 = .ok (.aload_n 0, 1) := by decide +kernel
theorem dX1_put_54 : decode cX1_put 54 = .ok (.getfield 9, 3) := by decide +kernel
theorem dX1_put_57 : decode cX1_put 57 = .ok (.iload_n 1, 1) := by decide +kernel
theorem dX1_put_58 : decode cX1_put 58 = .ok (.iload_n 2, 1) := by decide +kernel
theorem dX1_put_59 : decode cX1_put 59 = .ok (.iastore, 1) := by decide +kernel
theorem dX1_put_60 : decode cX1_put 60 = .ok (.return_, 1) := by decide +kernel
theorem dX2_init_0 : decode cX2_init 0 = .ok (.aload_n 0, 1) := by decide +kernel
theorem dX2_init_1 : decode cX2_init 1 = .ok (.invokespecial 3, 3) := by decide +kernel
theorem dX2_init_4 : decode cX2_init 4 = .ok (.aload_n 0, 1) := by decide +kernel
theorem dX2_init_5 : decode cX2_init 5 = .ok (.bipush 16, 2) := by decide +kernel
theorem dX2_init_7 : decode cX2_init 7 = .ok (.newarray .int, 2) := by decide +kernel
theorem dX2_init_9 : decode cX2_init 9 = .ok (.putfield 9, 3) := by decide +kernel
theorem dX2_init_12 : decode cX2_init 12 = .ok (.aload_n 0, 1) := by decide +kernel
theorem dX2_init_13 : decode cX2_init 13 = .ok (.bipush 16, 2) := by decide +kernel
theorem dX2_init_15 : decode cX2_init 15 = .ok (.newarray .int, 2) := by decide +kernel
theorem dX2_init_17 : decode cX2_init 17 = .ok (.putfield 15, 3) := by decide +kernel
theorem dX2_init_20 : decode cX2_init 20 = .ok (.aload_n 0, 1) := by decide +kernel
theorem dX2_init_21 : decode cX2_init 21 = .ok (.bipush 16, 2) := by decide +kernel
theorem dX2_init_23 : decode cX2_init 23 = .ok (.newarray .int, 2) := by decide +kernel
theorem dX2_init_25 : decode cX2_init 25 = .ok (.putfield 18, 3) := by decide +kernel
theorem dX2_init_28 : decode cX2_init 28 = .ok (.aload_n 0, 1) := by decide +kernel
theorem dX2_init_29 : decode cX2_init 29 = .ok (.bipush 8, 2) := by decide +kernel
theorem dX2_init_31 : decode cX2_init 31 = .ok (.putfield 21, 3) := by decide +kernel
theorem dX2_init_34 : decode cX2_init 34 = .ok (.aload_n 0, 1) := by decide +kernel
theorem dX2_init_35 : decode cX2_init 35 = .ok (.bipush 20, 2) := by decide +kernel
theorem dX2_init_37 : decode cX2_init 37 = .ok (.putfield 25, 3) := by decide +kernel
theorem dX2_init_40 : decode cX2_init 40 = .ok (.aload_n 0, 1) := by decide +kernel
theorem dX2_init_41 : decode cX2_init 41 = .ok (.iconst 0, 1) := by decide +kernel
theorem dX2_init_42 : decode cX2_init 42 = .ok (.putfield 28, 3) := by decide +kernel
theorem dX2_init_45 : decode cX2_init 45 = .ok (.aload_n 0, 1) := by decide +kernel
theorem dX2_init_46 : decode cX2_init 46 = .ok (.getfield 15, 3) := by decide +kernel
theorem dX2_init_49 : decode cX2_init 49 = .ok (.bipush 10, 2) := by decide +kernel
theorem dX2_init_51 : decode cX2_init 51 = .ok (.invokestatic 31, 3) := by decide +kernel
theorem dX2_init_54 : decode cX2_init 54 = .ok (.return_, 1) := by decide +kernel
theorem dX2_setTo_0 : decode cX2_setTo 0 = .ok (.aload_n 1, 1) := by decide +kernel
theorem dX2_setTo_1 : decode cX2_setTo 1 = .ok (.getfield 9, 3) := by decide +kernel
theorem dX2_setTo_4 : decode cX2_setTo 4 = .ok (.iconst 0, 1) := by decide +kernel
theorem dX2_setTo_5 : decode cX2_setTo 5 = .ok (.aload_n 0, 1) := by decide +kernel
theorem dX2_setTo_6 : decode cX2_setTo 6 = .ok (.getfield 9, 3) := by decide +kernel
theorem dX2_setTo_9 : decode cX2_setTo 9 = .ok (.iconst 0, 1) := by decide +kernel
theorem dX2_setTo_10 : decode cX2_setTo 10 = .ok (.bipush 16, 2) := by decide +kernel
theorem dX2_setTo_12 : decode cX2_setTo 12 = .ok (.invokestatic 37, 3) := by decide +kernel
theorem dX2_setTo_15 : decode cX2_setTo 15 = .ok (.aload_n 1, 1) := by decide +kernel
theorem dX2_setTo_16 : decode cX2_setTo 16 = .ok (.getfield 15, 3) := by decide +kernel
theorem dX2_setTo_19 : decode cX2_setTo 19 = .ok (.iconst 0, 1) := by decide +kernel
theorem dX2_setTo_20 : decode cX2_setTo 20 = .ok (.aload_n 0, 1) := by decide +kernel
theorem dX2_setTo_21 : decode cX2_setTo 21 = .ok (.getfield 15, 3) := by decide +kernel
theorem dX2_setTo_24 : decode cX2_setTo 24 = .ok (.iconst 0, 1) := by decide +kernel
theorem dX2_setTo_25 : decode cX2_setTo 25 = .ok (.bipush 16, 2) := by decide +kernel
theorem dX2_setTo_27 : decode cX2_setTo 27 = .ok (.invokestatic 37, 3) := by decide +kernel
theorem dX2_setTo_30 : decode cX2_setTo 30 = .ok (.aload_n 1, 1) := by decide +kernel
theorem dX2_setTo_31 : decode cX2_setTo 31 = .ok (.getfield 18, 3) := by decide +kernel
theorem dX2_setTo_34 : decode cX2_setTo 34 = .ok (.iconst 0, 1) := by decide +kernel
theorem dX2_setTo_35 : decode cX2_setTo 35 = .ok (.aload_n 0, 1) := by decide +kernel
theorem dX2_setTo_36 : decode cX2_setTo 36 = .ok (.getfield 18, 3) := by decide +kernel
theorem dX2_setTo_39 : decode cX2_setTo 39 = .ok (.iconst 0, 1) := by decide +kernel
theorem dX2_setTo_40 : decode cX2_setTo 40 = .ok (.bipush 16, 2) := by decide +kernel
theorem dX2_setTo_42 : decode cX2_setTo 42 = .ok (.invokestatic 37, 3) := by decide +kernel
theorem dX2_setTo_45 : decode cX2_setTo 45 = .ok (.aload_n 0, 1) := by decide +kernel
theorem dX2_setTo_46 : decode cX2_setTo 46 = .ok (.aload_n 1, 1) := by decide +kernel
theorem dX2_setTo_47 : decode cX2_setTo 47 = .ok (.getfield 21, 3) := by decide +kernel
theorem dX2_setTo_50 : decode cX2_setTo 50 = .ok (.putfield 21, 3) := by decide +kernel
theorem dX2_setTo_53 : decode cX2_setTo 53 = .ok (.aload_n 0, 1) := by decide +kernel
theorem dX2_setTo_54 : decode cX2_setTo 54 = .ok (.aload_n 1, 1) := by decide +kernel
theorem dX2_setTo_55 : decode cX2_setTo 55 = .ok (.getfield 25, 3) := by decide +kernel
theorem dX2_setTo_58 : decode cX2_setTo 58 = .ok (.putfield 25, 3) := by decide +kernel
theorem dX2_setTo_61 : decode cX2_setTo 61 = .ok (.aload_n 0, 1) := by decide +kernel
theorem dX2_setTo_62 : decode cX2_setTo 62 = .ok (.aload_n 1, 1) := by decide +kernel
theorem dX2_setTo_63 : decode cX2_setTo 63 = .ok (.getfield 28, 3) := by decide +kernel
theorem dX2_setTo_66 : decode cX2_setTo 66 = .ok (.putfield 28, 3) := by decide +kernel
theorem dX2_setTo_69 : decode cX2_setTo 69 = .ok (.return_, 1) := by decide +kernel
theorem dX2_windOn_0 : decode cX2_windOn 0 = .ok (.iload_n 1, 1) := by decide +kernel
theorem dX2_windOn_1 : decode cX2_windOn 1 = .ok (.invokestatic 43, 3) := by decide +kernel
theorem dX2_windOn_4 : decode cX2_windOn 4 = .ok (.ifCond .ne 5, 3) := by decide +kernel
theorem dX2_windOn_7 : decode cX2_windOn 7 = .ok (.iconst 0, 1) := by decide +kernel
theorem dX2_windOn_8 : decode cX2_windOn 8 = .ok (.ireturn, 1) := by decide +kernel
theorem dX2_windOn_9 : decode cX2_windOn 9 = .ok (.aload_n 0, 1) := by decide +kernel
theorem dX2_windOn_10 : decode cX2_windOn 10 = .ok (.getfield 15, 3) := by decide +kernel
theorem dX2_windOn_13 : decode cX2_windOn 13 = .ok (.iload_n 1, 1) := by decide +kernel
theorem dX2_windOn_14 : decode cX2_windOn 14 = .ok (.iaload, 1) := by decide +kernel
theorem dX2_windOn_15 : decode cX2_windOn 15 = .ok (.istore_n 2, 1) := by decide +kernel
theorem dX2_windOn_16 : decode cX2_windOn 16 = .ok (.aload_n 0, 1) := by decide +kernel
theorem dX2_windOn_17 : decode cX2_windOn 17 = .ok (.getfield 28, 3) := by decide +kernel
theorem dX2_windOn_20 : decode cX2_windOn 20 = .ok (.iconst 3, 1) := by decide +kernel
theorem dX2_windOn_21 : decode cX2_windOn 21 = .ok (.irem, 1) := by decide +kernel
theorem dX2_windOn_22 : decode cX2_windOn 22 = .ok (.iconst 2, 1) := by decide +kernel
theorem dX2_windOn_23 : decode cX2_windOn 23 = .ok (.if_icmp .ne 10, 3) := by decide +kernel
theorem dX2_windOn_26 : decode cX2_windOn 26 = .ok (.iload_n 2, 1) := by decide +kernel
theorem dX2_windOn_27 : decode cX2_windOn 27 = .ok (.aload_n 0, 1) := by decide +kernel
theorem dX2_windOn_28 : decode cX2_windOn 28 = .ok (.getfield 25, 3) := by decide +kernel
theorem dX2_windOn_31 : decode cX2_windOn 31 = .ok (.iadd, 1) := by decide +kernel
theorem dX2_windOn_32 : decode cX2_windOn 32 = .ok (.istore_n 2, 1) := by decide +kernel
theorem dX2_windOn_33 : decode cX2_windOn 33 = .ok (.aload_n 0, 1) := by decide +kernel
theorem dX2_windOn_34 : decode cX2_windOn 34 = .ok (.getfield 18, 3) := by decide +kernel
theorem dX2_windOn_37 : decode cX2_windOn 37 = .ok (.iload_n 1, 1) := by decide +kernel
theorem dX2_windOn_38 : decode cX2_windOn 38 = .ok (.iaload, 1) := by decide +kernel
theorem dX2_windOn_39 : decode cX2_windOn 39 = .ok (.iconst 1, 1) := by decide +kernel
theorem dX2_windOn_40 : decode cX2_windOn 40 = .ok (.if_icmp .ne 9, 3) := by decide +kernel
theorem dX2_windOn_43 : decode cX2_windOn 43 = .ok (.iload_n 2, 1) := by decide +kernel
theorem dX2_windOn_44 : decode cX2_windOn 44 = .ok (.iconst 2, 1) := by decide +kernel
theorem dX2_windOn_45 : decode cX2_windOn 45 = .ok (.idiv, 1) := by decide +kernel
theorem dX2_windOn_46 : decode cX2_windOn 46 = .ok (.goto 4, 3) := by decide +kernel
theorem dX2_windOn_49 : decode cX2_windOn 49 = .ok (.iload_n 2, 1) := by decide +kernel
theorem dX2_windOn_50 : decode cX2_windOn 50 = .ok (.ireturn, 1) := by decide +kernel
theorem dX2_roofs_0 : decode cX2_roofs 0 = .ok (.iconst 0, 1) := by decide +kernel
theorem dX2_roofs_1 : decode cX2_roofs 1 = .ok (.istore_n 1, 1) := by decide +kernel
theorem dX2_roofs_2 : decode cX2_roofs 2 = .ok (.iconst 0, 1) := by decide +kernel
theorem dX2_roofs_3 : decode cX2_roofs 3 = .ok (.istore_n 2, 1) := by decide +kernel
theorem dX2_roofs_4 : decode cX2_roofs 4 = .ok (.iload_n 2, 1) := by decide +kernel
theorem dX2_roofs_5 : decode cX2_roofs 5 = .ok (.bipush 16, 2) := by decide +kernel
theorem dX2_roofs_7 : decode cX2_roofs 7 = .ok (.if_icmp .ge 25, 3) := by decide +kernel
theorem dX2_roofs_10 : decode cX2_roofs 10 = .ok (.aload_n 0, 1) := by decide +kernel
theorem dX2_roofs_11 : decode cX2_roofs 11 = .ok (.getfield 18, 3) := by decide +kernel
theorem dX2_roofs_14 : decode cX2_roofs 14 = .ok (.iload_n 2, 1) := by decide +kernel
theorem dX2_roofs_15 : decode cX2_roofs 15 = .ok (.iaload, 1) := by decide +kernel
theorem dX2_roofs_16 : decode cX2_roofs 16 = .ok (.iconst 1, 1) := by decide +kernel
theorem dX2_roofs_17 : decode cX2_roofs 17 = .ok (.if_icmp .ne 9, 3) := by decide +kernel
theorem dX2_roofs_20 : decode cX2_roofs 20 = .ok (.iload_n 1, 1) := by decide +kernel
theorem dX2_roofs_21 : decode cX2_roofs 21 = .ok (.iconst 1, 1) := by decide +kernel
theorem dX2_roofs_22 : decode cX2_roofs 22 = .ok (.iload_n 2, 1) := by decide +kernel
theorem dX2_roofs_23 : decode cX2_roofs 23 = .ok (.ishl, 1) := by decide +kernel
theorem dX2_roofs_24 : decode cX2_roofs 24 = .ok (.ior, 1) := by decide +kernel
theorem dX2_roofs_25 : decode cX2_roofs 25 = .ok (.istore_n 1, 1) := by decide +kernel
theorem dX2_roofs_26 : decode cX2_roofs 26 = .ok (.iinc 2 1, 3) := by decide +kernel
theorem dX2_roofs_29 : decode cX2_roofs 29 = .ok (.goto (-25), 3) := by decide +kernel
theorem dX2_roofs_32 : decode cX2_roofs 32 = .ok (.iload_n 1, 1) := by decide +kernel
theorem dX2_roofs_33 : decode cX2_roofs 33 = .ok (.ireturn, 1) := by decide +kernel
theorem dX2_nextTick_0 : decode cX2_nextTick 0 = .ok (.aload_n 0, 1) := by decide +kernel
theorem dX2_nextTick_1 : decode cX2_nextTick 1 = .ok (.ldc 47, 2) := by decide +kernel
theorem dX2_nextTick_3 : decode cX2_nextTick 3 = .ok (.aload_n 0, 1) := by decide +kernel
theorem dX2_nextTick_4 : decode cX2_nextTick 4 = .ok (.getfield 28, 3) := by decide +kernel
theorem dX2_nextTick_7 : decode cX2_nextTick 7 = .ok (.iload_n 1, 1) := by decide +kernel
theorem dX2_nextTick_8 : decode cX2_nextTick 8 = .ok (.iadd, 1) := by decide +kernel
theorem dX2_nextTick_9 : decode cX2_nextTick 9 = .ok (.invokestatic 48, 3) := by decide +kernel
theorem dX2_nextTick_12 : decode cX2_nextTick 12 = .ok (.putfield 28, 3) := by decide +kernel
theorem dX2_nextTick_15 : decode cX2_nextTick 15 = .ok (.return_, 1) := by decide +kernel
theorem dX3_init_0 : decode cX3_init 0 = .ok (.aload_n 0, 1) := by decide +kernel
theorem dX3_init_1 : decode cX3_init 1 = .ok (.invokespecial 3, 3) := by decide +kernel
theorem dX3_init_4 : decode cX3_init 4 = .ok (.aload_n 0, 1) := by decide +kernel
theorem dX3_init_5 : decode cX3_init 5 = .ok (.bipush 120, 2) := by decide +kernel
theorem dX3_init_7 : decode cX3_init 7 = .ok (.newarray .int, 2) := by decide +kernel
theorem dX3_init_9 : decode cX3_init 9 = .ok (.putfield 9, 3) := by decide +kernel
theorem dX3_init_12 : decode cX3_init 12 = .ok (.aload_n 0, 1) := by decide +kernel
theorem dX3_init_13 : decode cX3_init 13 = .ok (.iconst 0, 1) := by decide +kernel
theorem dX3_init_14 : decode cX3_init 14 = .ok (.putfield 15, 3) := by decide +kernel
theorem dX3_init_17 : decode cX3_init 17 = .ok (.return_, 1) := by decide +kernel
theorem dX3_append_0 : decode cX3_append 0 = .ok (.iload_n 2, 1) := by decide +kernel
theorem dX3_append_1 : decode cX3_append 1 = .ok (.iconst 1, 1) := by decide +kernel
theorem dX3_append_2 : decode cX3_append 2 = .ok (.isub, 1) := by decide +kernel
theorem dX3_append_3 : decode cX3_append 3 = .ok (.istore_n 3, 1) := by decide +kernel
theorem dX3_append_4 : decode cX3_append 4 = .ok (.iload_n 3, 1) := by decide +kernel
theorem dX3_append_5 : decode cX3_append 5 = .ok (.ifCond .lt 47, 3) := by decide +kernel
theorem dX3_append_8 : decode cX3_append 8 = .ok (.aload_n 0, 1) := by decide +kernel
theorem dX3_append_9 : decode cX3_append 9 = .ok (.getfield 15, 3) := by decide +kernel
theorem dX3_append_12 : decode cX3_append 12 = .ok (.bipush 120, 2) := by decide +kernel
theorem dX3_append_14 : decode cX3_append 14 = .ok (.if_icmp .ge 38, 3) := by decide +kernel
theorem dX3_append_17 : decode cX3_append 17 = .ok (.aload_n 0, 1) := by decide +kernel
theorem dX3_append_18 : decode cX3_append 18 = .ok (.getfield 9, 3) := by decide +kernel
theorem dX3_append_21 : decode cX3_append 21 = .ok (.aload_n 0, 1) := by decide +kernel
theorem dX3_append_22 : decode cX3_append 22 = .ok (.getfield 15, 3) := by decide +kernel
theorem dX3_append_25 : decode cX3_append 25 = .ok (.iload_n 1, 1) := by decide +kernel
theorem dX3_append_26 : decode cX3_append 26 = .ok (.bipush 8, 2) := by decide +kernel
theorem dX3_append_28 : decode cX3_append 28 = .ok (.iload_n 3, 1) := by decide +kernel
theorem dX3_append_29 : decode cX3_append 29 = .ok (.imul, 1) := by decide +kernel
theorem dX3_append_30 : decode cX3_append 30 = .ok (.iushr, 1) := by decide +kernel
theorem dX3_append_31 : decode cX3_append 31 = .ok (.sipush 255, 3) := by decide +kernel
theorem dX3_append_34 : decode cX3_append 34 = .ok (.iand, 1) := by decide +kernel
theorem dX3_append_35 : decode cX3_append 35 = .ok (.iastore, 1) := by decide +kernel
theorem dX3_append_36 : decode cX3_append 36 = .ok (.aload_n 0, 1) := by decide +kernel
theorem dX3_append_37 : decode cX3_append 37 = .ok (.dup, 1) := by decide +kernel
theorem dX3_append_38 : decode cX3_append 38 = .ok (.getfield 15, 3) := by decide +kernel
theorem dX3_append_41 : decode cX3_append 41 = .ok (.iconst 1, 1) := by decide +kernel
theorem dX3_append_42 : decode cX3_append 42 = .ok (.iadd, 1) := by decide +kernel
theorem dX3_append_43 : decode cX3_append 43 = .ok (.putfield 15, 3) := by decide +kernel
theorem dX3_append_46 : decode cX3_append 46 = .ok (.iinc 3 (-1), 3) := by decide +kernel
theorem dX3_append_49 : decode cX3_append 49 = .ok (.goto (-45), 3) := by decide +kernel
theorem dX3_append_52 : decode cX3_append 52 = .ok (.return_, 1) := by decide +kernel
theorem dX3_byteAt_0 : decode cX3_byteAt 0 = .ok (.iload_n 1, 1) := by decide +kernel
theorem dX3_byteAt_1 : decode cX3_byteAt 1 = .ok (.ifCond .lt 20, 3) := by decide +kernel
theorem dX3_byteAt_4 : decode cX3_byteAt 4 = .ok (.iload_n 1, 1) := by decide +kernel
theorem dX3_byteAt_5 : decode cX3_byteAt 5 = .ok (.aload_n 0, 1) := by decide +kernel
theorem dX3_byteAt_6 : decode cX3_byteAt 6 = .ok (.getfield 15, 3) := by decide +kernel
theorem dX3_byteAt_9 : decode cX3_byteAt 9 = .ok (.if_icmp .ge 12, 3) := by decide +kernel
theorem dX3_byteAt_12 : decode cX3_byteAt 12 = .ok (.aload_n 0, 1) := by decide +kernel
theorem dX3_byteAt_13 : decode cX3_byteAt 13 = .ok (.getfield 9, 3) := by decide +kernel
theorem dX3_byteAt_16 : decode cX3_byteAt 16 = .ok (.iload_n 1, 1) := by decide +kernel
theorem dX3_byteAt_17 : decode cX3_byteAt 17 = .ok (.iaload, 1) := by decide +kernel
theorem dX3_byteAt_18 : decode cX3_byteAt 18 = .ok (.goto 4, 3) := by decide +kernel
theorem dX3_byteAt_21 : decode cX3_byteAt 21 = .ok (.iconst (-1), 1) := by decide +kernel
theorem dX3_byteAt_22 : decode cX3_byteAt 22 = .ok (.ireturn, 1) := by decide +kernel
theorem dX4_init_0 : decode cX4_init 0 = .ok (.aload_n 0, 1) := by decide +kernel
theorem dX4_init_1 : decode cX4_init 1 = .ok (.invokespecial 3, 3) := by decide +kernel
theorem dX4_init_4 : decode cX4_init 4 = .ok (.return_, 1) := by decide +kernel
theorem dX4_beNew_0 : decode cX4_beNew 0 = .ok (.aload_n 0, 1) := by decide +kernel
theorem dX4_beNew_1 : decode cX4_beNew 1 = .ok (.iload_n 1, 1) := by decide +kernel
theorem dX4_beNew_2 : decode cX4_beNew 2 = .ok (.putfield 9, 3) := by decide +kernel
theorem dX4_beNew_5 : decode cX4_beNew 5 = .ok (.aload_n 0, 1) := by decide +kernel
theorem dX4_beNew_6 : decode cX4_beNew 6 = .ok (.iconst 0, 1) := by decide +kernel
theorem dX4_beNew_7 : decode cX4_beNew 7 = .ok (.putfield 15, 3) := by decide +kernel
theorem dX4_beNew_10 : decode cX4_beNew 10 = .ok (.aload_n 0, 1) := by decide +kernel
theorem dX4_beNew_11 : decode cX4_beNew 11 = .ok (.iconst 0, 1) := by decide +kernel
theorem dX4_beNew_12 : decode cX4_beNew 12 = .ok (.putfield 18, 3) := by decide +kernel
theorem dX4_beNew_15 : decode cX4_beNew 15 = .ok (.aload_n 0, 1) := by decide +kernel
theorem dX4_beNew_16 : decode cX4_beNew 16 = .ok (.iconst 0, 1) := by decide +kernel
theorem dX4_beNew_17 : decode cX4_beNew 17 = .ok (.putfield 21, 3) := by decide +kernel
theorem dX4_beNew_20 : decode cX4_beNew 20 = .ok (.aload_n 0, 1) := by decide +kernel
theorem dX4_beNew_21 : decode cX4_beNew 21 = .ok (.bipush 8, 2) := by decide +kernel
theorem dX4_beNew_23 : decode cX4_beNew 23 = .ok (.putfield 24, 3) := by decide +kernel
theorem dX4_beNew_26 : decode cX4_beNew 26 = .ok (.aload_n 0, 1) := by decide +kernel
theorem dX4_beNew_27 : decode cX4_beNew 27 = .ok (.iconst 0, 1) := by decide +kernel
theorem dX4_beNew_28 : decode cX4_beNew 28 = .ok (.putfield 27, 3) := by decide +kernel
theorem dX4_beNew_31 : decode cX4_beNew 31 = .ok (.aload_n 0, 1) := by decide +kernel
theorem dX4_beNew_32 : decode cX4_beNew 32 = .ok (.iconst 0, 1) := by decide +kernel
theorem dX4_beNew_33 : decode cX4_beNew 33 = .ok (.putfield 30, 3) := by decide +kernel
theorem dX4_beNew_36 : decode cX4_beNew 36 = .ok (.aload_n 0, 1) := by decide +kernel
theorem dX4_beNew_37 : decode cX4_beNew 37 = .ok (.iconst 0, 1) := by decide +kernel
theorem dX4_beNew_38 : decode cX4_beNew 38 = .ok (.putfield 33, 3) := by decide +kernel
theorem dX4_beNew_41 : decode cX4_beNew 41 = .ok (.return_, 1) := by decide +kernel
theorem dX4_setTo_0 : decode cX4_setTo 0 = .ok (.aload_n 0, 1) := by decide +kernel
theorem dX4_setTo_1 : decode cX4_setTo 1 = .ok (.aload_n 1, 1) := by decide +kernel
theorem dX4_setTo_2 : decode cX4_setTo 2 = .ok (.getfield 9, 3) := by decide +kernel
theorem dX4_setTo_5 : decode cX4_setTo 5 = .ok (.putfield 9, 3) := by decide +kernel
theorem dX4_setTo_8 : decode cX4_setTo 8 = .ok (.aload_n 0, 1) := by decide +kernel
theorem dX4_setTo_9 : decode cX4_setTo 9 = .ok (.aload_n 1, 1) := by decide +kernel
theorem dX4_setTo_10 : decode cX4_setTo 10 = .ok (.getfield 15, 3) := by decide +kernel
theorem dX4_setTo_13 : decode cX4_setTo 13 = .ok (.putfield 15, 3) := by decide +kernel
theorem dX4_setTo_16 : decode cX4_setTo 16 = .ok (.aload_n 0, 1) := by decide +kernel
theorem dX4_setTo_17 : decode cX4_setTo 17 = .ok (.aload_n 1, 1) := by decide +kernel
theorem dX4_setTo_18 : decode cX4_setTo 18 = .ok (.getfield 18, 3) := by decide +kernel
theorem dX4_setTo_21 : decode cX4_setTo 21 = .ok (.putfield 18, 3) := by decide +kernel
theorem dX4_setTo_24 : decode cX4_setTo 24 = .ok (.aload_n 0, 1) := by decide +kernel
theorem dX4_setTo_25 : decode cX4_setTo 25 = .ok (.aload_n 1, 1) := by decide +kernel
theorem dX4_setTo_26 : decode cX4_setTo 26 = .ok (.getfield 21, 3) := by decide +kernel
theorem dX4_setTo_29 : decode cX4_setTo 29 = .ok (.putfield 21, 3) := by decide +kernel
theorem dX4_setTo_32 : decode cX4_setTo 32 = .ok (.aload_n 0, 1) := by decide +kernel
theorem dX4_setTo_33 : decode cX4_setTo 33 = .ok (.aload_n 1, 1) := by decide +kernel
theorem dX4_setTo_34 : decode cX4_setTo 34 = .ok (.getfield 24, 3) := by decide +kernel
theorem dX4_setTo_37 : decode cX4_setTo 37 = .ok (.putfield 24, 3) := by decide +kernel
theorem dX4_setTo_40 : decode cX4_setTo 40 = .ok (.aload_n 0, 1) := by decide +kernel
theorem dX4_setTo_41 : decode cX4_setTo 41 = .ok (.aload_n 1, 1) := by decide +kernel
theorem dX4_setTo_42 : decode cX4_setTo 42 = .ok (.getfield 27, 3) := by decide +kernel
theorem dX4_setTo_45 : decode cX4_setTo 45 = .ok (.putfield 27, 3) := by decide +kernel
theorem dX4_setTo_48 : decode cX4_setTo 48 = .ok (.aload_n 0, 1) := by decide +kernel
theorem dX4_setTo_49 : decode cX4_setTo 49 = .ok (.aload_n 1, 1) := by decide +kernel
theorem dX4_setTo_50 : decode cX4_setTo 50 = .ok (.getfield 30, 3) := by decide +kernel
theorem dX4_setTo_53 : decode cX4_setTo 53 = .ok (.putfield 30, 3) := by decide +kernel
theorem dX4_setTo_56 : decode cX4_setTo 56 = .ok (.aload_n 0, 1) := by decide +kernel
theorem dX4_setTo_57 : decode cX4_setTo 57 = .ok (.aload_n 1, 1) := by decide +kernel
theorem dX4_setTo_58 : decode cX4_setTo 58 = .ok (.getfield 33, 3) := by decide +kernel
theorem dX4_setTo_61 : decode cX4_setTo 61 = .ok (.putfield 33, 3) := by decide +kernel
theorem dX4_setTo_64 : decode cX4_setTo 64 = .ok (.return_, 1) := by decide +kernel
theorem dX4_mark_0 : decode cX4_mark 0 = .ok (.iload_n 1, 1) := by decide +kernel
theorem dX4_mark_1 : decode cX4_mark 1 = .ok (.tableswitch 78 0 6 #[43, 48, 53, 58, 63, 68, 73], 43) := by decide +kernel
theorem dX4_mark_44 : decode cX4_mark 44 = .ok (.aload_n 0, 1) := by decide +kernel
theorem dX4_mark_45 : decode cX4_mark 45 = .ok (.getfield 9, 3) := by decide +kernel
theorem dX4_mark_48 : decode cX4_mark 48 = .ok (.ireturn, 1) := by decide +kernel
theorem dX4_mark_49 : decode cX4_mark 49 = .ok (.aload_n 0, 1) := by decide +kernel
theorem dX4_mark_50 : decode cX4_mark 50 = .ok (.getfield 15, 3) := by decide +kernel
theorem dX4_mark_53 : decode cX4_mark 53 = .ok (.ireturn, 1) := by decide +kernel
theorem dX4_mark_54 : decode cX4_mark 54 = .ok (.aload_n 0, 1) := by decide +kernel
theorem dX4_mark_55 : decode cX4_mark 55 = .ok (.getfield 18, 3) := by decide +kernel
theorem dX4_mark_58 : decode cX4_mark 58 = .ok (.ireturn, 1) := by decide +kernel
theorem dX4_mark_59 : decode cX4_mark 59 = .ok (.aload_n 0, 1) := by decide +kernel
theorem dX4_mark_60 : decode cX4_mark 60 = .ok (.getfield 21, 3) := by decide +kernel
theorem dX4_mark_63 : decode cX4_mark 63 = .ok (.ireturn, 1) := by decide +kernel
theorem dX4_mark_64 : decode cX4_mark 64 = .ok (.aload_n 0, 1) := by decide +kernel
theorem dX4_mark_65 : decode cX4_mark 65 = .ok (.getfield 24, 3) := by decide +kernel
theorem dX4_mark_68 : decode cX4_mark 68 = .ok (.ireturn, 1) := by decide +kernel
theorem dX4_mark_69 : decode cX4_mark 69 = .ok (.aload_n 0, 1) := by decide +kernel
theorem dX4_mark_70 : decode cX4_mark 70 = .ok (.getfield 27, 3) := by decide +kernel
theorem dX4_mark_73 : decode cX4_mark 73 = .ok (.ireturn, 1) := by decide +kernel
theorem dX4_mark_74 : decode cX4_mark 74 = .ok (.aload_n 0, 1) := by decide +kernel
theorem dX4_mark_75 : decode cX4_mark 75 = .ok (.getfield 30, 3) := by decide +kernel
theorem dX4_mark_78 : decode cX4_mark 78 = .ok (.ireturn, 1) := by decide +kernel
theorem dX4_mark_79 : decode cX4_mark 79 = .ok (.aload_n 0, 1) := by decide +kernel
theorem dX4_mark_80 : decode cX4_mark 80 = .ok (.getfield 33, 3) := by decide +kernel
theorem dX4_mark_83 : decode cX4_mark 83 = .ok (.ireturn, 1) := by decide +kernel
theorem dX4_setMark_0 : decode cX4_setMark 0 = .ok (.iload_n 1, 1) := by decide +kernel
theorem dX4_setMark_1 : decode cX4_setMark 1 = .ok (.tableswitch 99 0 6 #[43, 51, 59, 67, 75, 83, 91], 43) := by decide +kernel
theorem dX4_setMark_44 : decode cX4_setMark 44 = .ok (.aload_n 0, 1) := by decide +kernel
theorem dX4_setMark_45 : decode cX4_setMark 45 = .ok (.iload_n 2, 1) := by decide +kernel
theorem dX4_setMark_46 : decode cX4_setMark 46 = .ok (.putfield 9, 3) := by decide +kernel
theorem dX4_setMark_49 : decode cX4_setMark 49 = .ok (.goto 56, 3) := by decide +kernel
theorem dX4_setMark_52 : decode cX4_setMark 52 = .ok (.aload_n 0, 1) := by decide +kernel
theorem dX4_setMark_53 : decode cX4_setMark 53 = .ok (.iload_n 2, 1) := by decide +kernel
theorem dX4_setMark_54 : decode cX4_setMark 54 = .ok (.putfield 15, 3) := by decide +kernel
theorem dX4_setMark_57 : decode cX4_setMark 57 = .ok (.goto 48, 3) := by decide +kernel
theorem dX4_setMark_60 : decode cX4_setMark 60 = .ok (.aload_n 0, 1) := by decide +kernel
theorem dX4_setMark_61 : decode cX4_setMark 61 = .ok (.iload_n 2, 1) := by decide +kernel
theorem dX4_setMark_62 : decode cX4_setMark 62 = .ok (.putfield 18, 3) := by decide +kernel
theorem dX4_setMark_65 : decode cX4_setMark 65 = .ok (.goto 40, 3) := by decide +kernel
theorem dX4_setMark_68 : decode cX4_setMark 68 = .ok (.aload_n 0, 1) := by decide +kernel
theorem dX4_setMark_69 : decode cX4_setMark 69 = .ok (.iload_n 2, 1) := by decide +kernel
theorem dX4_setMark_70 : decode cX4_setMark 70 = .ok (.putfield 21, 3) := by decide +kernel
theorem dX4_setMark_73 : decode cX4_setMark 73 = .ok (.goto 32, 3) := by decide +kernel
theorem dX4_setMark_76 : decode cX4_setMark 76 = .ok (.aload_n 0, 1) := by decide +kernel
theorem dX4_setMark_77 : decode cX4_setMark 77 = .ok (.iload_n 2, 1) := by decide +kernel
theorem dX4_setMark_78 : decode cX4_setMark 78 = .ok (.putfield 24, 3) := by decide +kernel
theorem dX4_setMark_81 : decode cX4_setMark 81 = .ok (.goto 24, 3) := by decide +kernel
theorem dX4_setMark_84 : decode cX4_setMark 84 = .ok (.aload_n 0, 1) := by decide +kernel
theorem dX4_setMark_85 : decode cX4_setMark 85 = .ok (.iload_n 2, 1) := by decide +kernel
theorem dX4_setMark_86 : decode cX4_setMark 86 = .ok (.putfield 27, 3) := by decide +kernel
theorem dX4_setMark_89 : decode cX4_setMark 89 = .ok (.goto 16, 3) := by decide +kernel
theorem dX4_setMark_92 : decode cX4_setMark 92 = .ok (.aload_n 0, 1) := by decide +kernel
theorem dX4_setMark_93 : decode cX4_setMark 93 = .ok (.iload_n 2, 1) := by decide +kernel
theorem dX4_setMark_94 : decode cX4_setMark 94 = .ok (.putfield 30, 3) := by decide +kernel
theorem dX4_setMark_97 : decode cX4_setMark 97 = .ok (.goto 8, 3) := by decide +kernel
theorem dX4_setMark_100 : decode cX4_setMark 100 = .ok (.aload_n 0, 1) := by decide +kernel
theorem dX4_setMark_101 : decode cX4_setMark 101 = .ok (.iload_n 2, 1) := by decide +kernel
theorem dX4_setMark_102 : decode cX4_setMark 102 = .ok (.putfield 33, 3) := by decide +kernel
theorem dX4_setMark_105 : decode cX4_setMark 105 = .ok (.return_, 1) := by decide +kernel
theorem dX4_stiff_0 : decode cX4_stiff 0 = .ok (.iconst 5, 1) := by decide +kernel
theorem dX4_stiff_1 : decode cX4_stiff 1 = .ok (.aload_n 0, 1) := by decide +kernel
theorem dX4_stiff_2 : decode cX4_stiff 2 = .ok (.getfield 24, 3) := by decide +kernel
theorem dX4_stiff_5 : decode cX4_stiff 5 = .ok (.imul, 1) := by decide +kernel
theorem dX4_stiff_6 : decode cX4_stiff 6 = .ok (.istore_n 1, 1) := by decide +kernel
theorem dX4_stiff_7 : decode cX4_stiff 7 = .ok (.iconst 0, 1) := by decide +kernel
theorem dX4_stiff_8 : decode cX4_stiff 8 = .ok (.iload_n 1, 1) := by decide +kernel
theorem dX4_stiff_9 : decode cX4_stiff 9 = .ok (.bipush 10, 2) := by decide +kernel
theorem dX4_stiff_11 : decode cX4_stiff 11 = .ok (.isub, 1) := by decide +kernel
theorem dX4_stiff_12 : decode cX4_stiff 12 = .ok (.invokestatic 36, 3) := by decide +kernel
theorem dX4_stiff_15 : decode cX4_stiff 15 = .ok (.istore_n 2, 1) := by decide +kernel
theorem dX4_stiff_16 : decode cX4_stiff 16 = .ok (.iload_n 1, 1) := by decide +kernel
theorem dX4_stiff_17 : decode cX4_stiff 17 = .ok (.bipush 15, 2) := by decide +kernel
theorem dX4_stiff_19 : decode cX4_stiff 19 = .ok (.iadd, 1) := by decide +kernel
theorem dX4_stiff_20 : decode cX4_stiff 20 = .ok (.istore_n 3, 1) := by decide +kernel
theorem dX4_stiff_21 : decode cX4_stiff 21 = .ok (.iconst 0, 1) := by decide +kernel
theorem dX4_stiff_22 : decode cX4_stiff 22 = .ok (.iload_n 3, 1) := by decide +kernel
theorem dX4_stiff_23 : decode cX4_stiff 23 = .ok (.aload_n 0, 1) := by decide +kernel
theorem dX4_stiff_24 : decode cX4_stiff 24 = .ok (.getfield 33, 3) := by decide +kernel
theorem dX4_stiff_27 : decode cX4_stiff 27 = .ok (.bipush 100, 2) := by decide +kernel
theorem dX4_stiff_29 : decode cX4_stiff 29 = .ok (.idiv, 1) := by decide +kernel
theorem dX4_stiff_30 : decode cX4_stiff 30 = .ok (.isub, 1) := by decide +kernel
theorem dX4_stiff_31 : decode cX4_stiff 31 = .ok (.invokestatic 36, 3) := by decide +kernel
theorem dX4_stiff_34 : decode cX4_stiff 34 = .ok (.istore 4, 2) := by decide +kernel
theorem dX4_stiff_36 : decode cX4_stiff 36 = .ok (.aload_n 0, 1) := by decide +kernel
theorem dX4_stiff_37 : decode cX4_stiff 37 = .ok (.getfield 9, 3) := by decide +kernel
theorem dX4_stiff_40 : decode cX4_stiff 40 = .ok (.tableswitch 58 1 6 #[40, 46, 48, 51, 56, 42], 40) := by decide +kernel
theorem dX4_stiff_80 : decode cX4_stiff 80 = .ok (.iload_n 2, 1) := by decide +kernel
theorem dX4_stiff_81 : decode cX4_stiff 81 = .ok (.ireturn, 1) := by decide +kernel
theorem dX4_stiff_82 : decode cX4_stiff 82 = .ok (.iload_n 2, 1) := by decide +kernel
theorem dX4_stiff_83 : decode cX4_stiff 83 = .ok (.iconst 2, 1) := by decide +kernel
theorem dX4_stiff_84 : decode cX4_stiff 84 = .ok (.idiv, 1) := by decide +kernel
theorem dX4_stiff_85 : decode cX4_stiff 85 = .ok (.ireturn, 1) := by decide +kernel
theorem dX4_stiff_86 : decode cX4_stiff 86 = .ok (.iload_n 3, 1) := by decide +kernel
theorem dX4_stiff_87 : decode cX4_stiff 87 = .ok (.ireturn, 1) := by decide +kernel
theorem dX4_stiff_88 : decode cX4_stiff 88 = .ok (.iload 4, 2) := by decide +kernel
theorem dX4_stiff_90 : decode cX4_stiff 90 = .ok (.ireturn, 1) := by decide +kernel
theorem dX4_stiff_91 : decode cX4_stiff 91 = .ok (.iload 4, 2) := by decide +kernel
theorem dX4_stiff_93 : decode cX4_stiff 93 = .ok (.iconst 2, 1) := by decide +kernel
theorem dX4_stiff_94 : decode cX4_stiff 94 = .ok (.idiv, 1) := by decide +kernel
theorem dX4_stiff_95 : decode cX4_stiff 95 = .ok (.ireturn, 1) := by decide +kernel
theorem dX4_stiff_96 : decode cX4_stiff 96 = .ok (.iconst 5, 1) := by decide +kernel
theorem dX4_stiff_97 : decode cX4_stiff 97 = .ok (.ireturn, 1) := by decide +kernel
theorem dX4_stiff_98 : decode cX4_stiff 98 = .ok (.iload_n 1, 1) := by decide +kernel
theorem dX4_stiff_99 : decode cX4_stiff 99 = .ok (.ireturn, 1) := by decide +kernel
theorem dX4_bearable_0 : decode cX4_bearable 0 = .ok (.iload_n 2, 1) := by decide +kernel
theorem dX4_bearable_1 : decode cX4_bearable 1 = .ok (.iload_n 1, 1) := by decide +kernel
theorem dX4_bearable_2 : decode cX4_bearable 2 = .ok (.if_icmp .ne 7, 3) := by decide +kernel
theorem dX4_bearable_5 : decode cX4_bearable 5 = .ok (.iconst 2, 1) := by decide +kernel
theorem dX4_bearable_6 : decode cX4_bearable 6 = .ok (.iload_n 0, 1) := by decide +kernel
theorem dX4_bearable_7 : decode cX4_bearable 7 = .ok (.imul, 1) := by decide +kernel
theorem dX4_bearable_8 : decode cX4_bearable 8 = .ok (.ireturn, 1) := by decide +kernel
theorem dX4_bearable_9 : decode cX4_bearable 9 = .ok (.iload_n 2, 1) := by decide +kernel
theorem dX4_bearable_10 : decode cX4_bearable 10 = .ok (.ifCond .ne 8, 3) := by decide +kernel
theorem dX4_bearable_13 : decode cX4_bearable 13 = .ok (.iload_n 1, 1) := by decide +kernel
theorem dX4_bearable_14 : decode cX4_bearable 14 = .ok (.iconst 1, 1) := by decide +kernel
theorem dX4_bearable_15 : decode cX4_bearable 15 = .ok (.if_icmp .eq 12, 3) := by decide +kernel
theorem dX4_bearable_18 : decode cX4_bearable 18 = .ok (.iload_n 2, 1) := by decide +kernel
theorem dX4_bearable_19 : decode cX4_bearable 19 = .ok (.iconst 1, 1) := by decide +kernel
theorem dX4_bearable_20 : decode cX4_bearable 20 = .ok (.if_icmp .ne 11, 3) := by decide +kernel
theorem dX4_bearable_23 : decode cX4_bearable 23 = .ok (.iload_n 1, 1) := by decide +kernel
theorem dX4_bearable_24 : decode cX4_bearable 24 = .ok (.ifCond .ne 7, 3) := by decide +kernel
theorem dX4_bearable_27 : decode cX4_bearable 27 = .ok (.iconst 1, 1) := by decide +kernel
theorem dX4_bearable_28 : decode cX4_bearable 28 = .ok (.goto 4, 3) := by decide +kernel
theorem dX4_bearable_31 : decode cX4_bearable 31 = .ok (.iconst 0, 1) := by decide +kernel
theorem dX4_bearable_32 : decode cX4_bearable 32 = .ok (.istore_n 3, 1) := by decide +kernel
theorem dX4_bearable_33 : decode cX4_bearable 33 = .ok (.iload_n 3, 1) := by decide +kernel
theorem dX4_bearable_34 : decode cX4_bearable 34 = .ok (.ifCond .eq 9, 3) := by decide +kernel
theorem dX4_bearable_37 : decode cX4_bearable 37 = .ok (.iload_n 0, 1) := by decide +kernel
theorem dX4_bearable_38 : decode cX4_bearable 38 = .ok (.iconst 2, 1) := by decide +kernel
theorem dX4_bearable_39 : decode cX4_bearable 39 = .ok (.idiv, 1) := by decide +kernel
theorem dX4_bearable_40 : decode cX4_bearable 40 = .ok (.goto 4, 3) := by decide +kernel
theorem dX4_bearable_43 : decode cX4_bearable 43 = .ok (.iload_n 0, 1) := by decide +kernel
theorem dX4_bearable_44 : decode cX4_bearable 44 = .ok (.ireturn, 1) := by decide +kernel
theorem dX4_covers_0 : decode cX4_covers 0 = .ok (.aload_n 1, 1) := by decide +kernel
theorem dX4_covers_1 : decode cX4_covers 1 = .ok (.getfield 42, 3) := by decide +kernel
theorem dX4_covers_4 : decode cX4_covers 4 = .ok (.istore_n 2, 1) := by decide +kernel
theorem dX4_covers_5 : decode cX4_covers 5 = .ok (.iload_n 2, 1) := by decide +kernel
theorem dX4_covers_6 : decode cX4_covers 6 = .ok (.iconst 2, 1) := by decide +kernel
theorem dX4_covers_7 : decode cX4_covers 7 = .ok (.idiv, 1) := by decide +kernel
theorem dX4_covers_8 : decode cX4_covers 8 = .ok (.iload_n 2, 1) := by decide +kernel
theorem dX4_covers_9 : decode cX4_covers 9 = .ok (.iconst 4, 1) := by decide +kernel
theorem dX4_covers_10 : decode cX4_covers 10 = .ok (.idiv, 1) := by decide +kernel
theorem dX4_covers_11 : decode cX4_covers 11 = .ok (.iadd, 1) := by decide +kernel
theorem dX4_covers_12 : decode cX4_covers 12 = .ok (.istore_n 3, 1) := by decide +kernel
theorem dX4_covers_13 : decode cX4_covers 13 = .ok (.iconst 0, 1) := by decide +kernel
theorem dX4_covers_14 : decode cX4_covers 14 = .ok (.iload_n 2, 1) := by decide +kernel
theorem dX4_covers_15 : decode cX4_covers 15 = .ok (.iconst 3, 1) := by decide +kernel
theorem dX4_covers_16 : decode cX4_covers 16 = .ok (.idiv, 1) := by decide +kernel
theorem dX4_covers_17 : decode cX4_covers 17 = .ok (.iconst 1, 1) := by decide +kernel
theorem dX4_covers_18 : decode cX4_covers 18 = .ok (.isub, 1) := by decide +kernel
theorem dX4_covers_19 : decode cX4_covers 19 = .ok (.invokestatic 36, 3) := by decide +kernel
theorem dX4_covers_22 : decode cX4_covers 22 = .ok (.istore 4, 2) := by decide +kernel
theorem dX4_covers_24 : decode cX4_covers 24 = .ok (.aload_n 0, 1) := by decide +kernel
theorem dX4_covers_25 : decode cX4_covers 25 = .ok (.getfield 9, 3) := by decide +kernel
theorem dX4_covers_28 : decode cX4_covers 28 = .ok (.tableswitch 92 1 6 #[40, 50, 54, 57, 73, 42], 40) := by decide +kernel
theorem dX4_covers_68 : decode cX4_covers 68 = .ok (.iload_n 3, 1) := by decide +kernel
theorem dX4_covers_69 : decode cX4_covers 69 = .ok (.ireturn, 1) := by decide +kernel
theorem dX4_covers_70 : decode cX4_covers 70 = .ok (.iload_n 2, 1) := by decide +kernel
theorem dX4_covers_71 : decode cX4_covers 71 = .ok (.iload_n 3, 1) := by decide +kernel
theorem dX4_covers_72 : decode cX4_covers 72 = .ok (.iconst 2, 1) := by decide +kernel
theorem dX4_covers_73 : decode cX4_covers 73 = .ok (.iadd, 1) := by decide +kernel
theorem dX4_covers_74 : decode cX4_covers 74 = .ok (.invokestatic 47, 3) := by decide +kernel
theorem dX4_covers_77 : decode cX4_covers 77 = .ok (.ireturn, 1) := by decide +kernel
theorem dX4_covers_78 : decode cX4_covers 78 = .ok (.iload_n 2, 1) := by decide +kernel
theorem dX4_covers_79 : decode cX4_covers 79 = .ok (.iconst 3, 1) := by decide +kernel
theorem dX4_covers_80 : decode cX4_covers 80 = .ok (.idiv, 1) := by decide +kernel
theorem dX4_covers_81 : decode cX4_covers 81 = .ok (.ireturn, 1) := by decide +kernel
theorem dX4_covers_82 : decode cX4_covers 82 = .ok (.iload 4, 2) := by decide +kernel
theorem dX4_covers_84 : decode cX4_covers 84 = .ok (.ireturn, 1) := by decide +kernel
theorem dX4_covers_85 : decode cX4_covers 85 = .ok (.aload_n 1, 1) := by decide +kernel
theorem dX4_covers_86 : decode cX4_covers 86 = .ok (.getfield 50, 3) := by decide +kernel
theorem dX4_covers_89 : decode cX4_covers 89 = .ok (.iconst 2, 1) := by decide +kernel
theorem dX4_covers_90 : decode cX4_covers 90 = .ok (.irem, 1) := by decide +kernel
theorem dX4_covers_91 : decode cX4_covers 91 = .ok (.ifCond .ne 8, 3) := by decide +kernel
theorem dX4_covers_94 : decode cX4_covers 94 = .ok (.iload 4, 2) := by decide +kernel
theorem dX4_covers_96 : decode cX4_covers 96 = .ok (.goto 4, 3) := by decide +kernel
theorem dX4_covers_99 : decode cX4_covers 99 = .ok (.iconst 0, 1) := by decide +kernel
theorem dX4_covers_100 : decode cX4_covers 100 = .ok (.ireturn, 1) := by decide +kernel
theorem dX4_covers_101 : decode cX4_covers 101 = .ok (.aload_n 0, 1) := by decide +kernel
theorem dX4_covers_102 : decode cX4_covers 102 = .ok (.getfield 33, 3) := by decide +kernel
theorem dX4_covers_105 : decode cX4_covers 105 = .ok (.bipush 50, 2) := by decide +kernel
theorem dX4_covers_107 : decode cX4_covers 107 = .ok (.if_icmp .ge 11, 3) := by decide +kernel
theorem dX4_covers_110 : decode cX4_covers 110 = .ok (.iload_n 2, 1) := by decide +kernel
theorem dX4_covers_111 : decode cX4_covers 111 = .ok (.iconst 4, 1) := by decide +kernel
theorem dX4_covers_112 : decode cX4_covers 112 = .ok (.invokestatic 47, 3) := by decide +kernel
theorem dX4_covers_115 : decode cX4_covers 115 = .ok (.goto 4, 3) := by decide +kernel
theorem dX4_covers_118 : decode cX4_covers 118 = .ok (.iconst 0, 1) := by decide +kernel
theorem dX4_covers_119 : decode cX4_covers 119 = .ok (.ireturn, 1) := by decide +kernel
theorem dX4_covers_120 : decode cX4_covers 120 = .ok (.iload_n 2, 1) := by decide +kernel
theorem dX4_covers_121 : decode cX4_covers 121 = .ok (.iconst 2, 1) := by decide +kernel
theorem dX4_covers_122 : decode cX4_covers 122 = .ok (.idiv, 1) := by decide +kernel
theorem dX4_covers_123 : decode cX4_covers 123 = .ok (.ireturn, 1) := by decide +kernel
theorem dX4_pace_0 : decode cX4_pace 0 = .ok (.aload_n 0, 1) := by decide +kernel
theorem dX4_pace_1 : decode cX4_pace 1 = .ok (.getfield 9, 3) := by decide +kernel
theorem dX4_pace_4 : decode cX4_pace 4 = .ok (.tableswitch 42 4 6 #[40, 40, 28], 28) := by decide +kernel
theorem dX4_pace_32 : decode cX4_pace 32 = .ok (.iload_n 1, 1) := by decide +kernel
theorem dX4_pace_33 : decode cX4_pace 33 = .ok (.iconst 2, 1) := by decide +kernel
theorem dX4_pace_34 : decode cX4_pace 34 = .ok (.irem, 1) := by decide +kernel
theorem dX4_pace_35 : decode cX4_pace 35 = .ok (.ifCond .ne 7, 3) := by decide +kernel
theorem dX4_pace_38 : decode cX4_pace 38 = .ok (.iconst 1, 1) := by decide +kernel
theorem dX4_pace_39 : decode cX4_pace 39 = .ok (.goto 4, 3) := by decide +kernel
theorem dX4_pace_42 : decode cX4_pace 42 = .ok (.iconst 0, 1) := by decide +kernel
theorem dX4_pace_43 : decode cX4_pace 43 = .ok (.ireturn, 1) := by decide +kernel
theorem dX4_pace_44 : decode cX4_pace 44 = .ok (.iconst 2, 1) := by decide +kernel
theorem dX4_pace_45 : decode cX4_pace 45 = .ok (.ireturn, 1) := by decide +kernel
theorem dX4_pace_46 : decode cX4_pace 46 = .ok (.iconst 1, 1) := by decide +kernel
theorem dX4_pace_47 : decode cX4_pace 47 = .ok (.ireturn, 1) := by decide +kernel
theorem dX4_walkOn_0 : decode cX4_walkOn 0 = .ok (.aload_n 0, 1) := by decide +kernel
theorem dX4_walkOn_1 : decode cX4_walkOn 1 = .ok (.getfield 15, 3) := by decide +kernel
theorem dX4_walkOn_4 : decode cX4_walkOn 4 = .ok (.invokestatic 53, 3) := by decide +kernel
theorem dX4_walkOn_7 : decode cX4_walkOn 7 = .ok (.ifCond .ne 5, 3) := by decide +kernel
theorem dX4_walkOn_10 : decode cX4_walkOn 10 = .ok (.iconst 0, 1) := by decide +kernel
theorem dX4_walkOn_11 : decode cX4_walkOn 11 = .ok (.ireturn, 1) := by decide +kernel
theorem dX4_walkOn_12 : decode cX4_walkOn 12 = .ok (.aload_n 1, 1) := by decide +kernel
theorem dX4_walkOn_13 : decode cX4_walkOn 13 = .ok (.getfield 57, 3) := by decide +kernel
theorem dX4_walkOn_16 : decode cX4_walkOn 16 = .ok (.aload_n 0, 1) := by decide +kernel
theorem dX4_walkOn_17 : decode cX4_walkOn 17 = .ok (.getfield 15, 3) := by decide +kernel
theorem dX4_walkOn_20 : decode cX4_walkOn 20 = .ok (.iaload, 1) := by decide +kernel
theorem dX4_walkOn_21 : decode cX4_walkOn 21 = .ok (.istore_n 2, 1) := by decide +kernel
theorem dX4_walkOn_22 : decode cX4_walkOn 22 = .ok (.aload_n 1, 1) := by decide +kernel
theorem dX4_walkOn_23 : decode cX4_walkOn 23 = .ok (.getfield 57, 3) := by decide +kernel
theorem dX4_walkOn_26 : decode cX4_walkOn 26 = .ok (.bipush 15, 2) := by decide +kernel
theorem dX4_walkOn_28 : decode cX4_walkOn 28 = .ok (.aload_n 0, 1) := by decide +kernel
theorem dX4_walkOn_29 : decode cX4_walkOn 29 = .ok (.getfield 15, 3) := by decide +kernel
theorem dX4_walkOn_32 : decode cX4_walkOn 32 = .ok (.iconst 1, 1) := by decide +kernel
theorem dX4_walkOn_33 : decode cX4_walkOn 33 = .ok (.iadd, 1) := by decide +kernel
theorem dX4_walkOn_34 : decode cX4_walkOn 34 = .ok (.invokestatic 47, 3) := by decide +kernel
theorem dX4_walkOn_37 : decode cX4_walkOn 37 = .ok (.iaload, 1) := by decide +kernel
theorem dX4_walkOn_38 : decode cX4_walkOn 38 = .ok (.istore_n 3, 1) := by decide +kernel
theorem dX4_walkOn_39 : decode cX4_walkOn 39 = .ok (.aload_n 1, 1) := by decide +kernel
theorem dX4_walkOn_40 : decode cX4_walkOn 40 = .ok (.aload_n 0, 1) := by decide +kernel
theorem dX4_walkOn_41 : decode cX4_walkOn 41 = .ok (.getfield 15, 3) := by decide +kernel
theorem dX4_walkOn_44 : decode cX4_walkOn 44 = .ok (.invokevirtual 61, 3) := by decide +kernel
theorem dX4_walkOn_47 : decode cX4_walkOn 47 = .ok (.istore 4, 2) := by decide +kernel
theorem dX4_walkOn_49 : decode cX4_walkOn 49 = .ok (.aload_n 0, 1) := by decide +kernel
theorem dX4_walkOn_50 : decode cX4_walkOn 50 = .ok (.invokevirtual 65, 3) := by decide +kernel
theorem dX4_walkOn_53 : decode cX4_walkOn 53 = .ok (.istore 5, 2) := by decide +kernel
theorem dX4_walkOn_55 : decode cX4_walkOn 55 = .ok (.aload_n 0, 1) := by decide +kernel
theorem dX4_walkOn_56 : decode cX4_walkOn 56 = .ok (.iload_n 2, 1) := by decide +kernel
theorem dX4_walkOn_57 : decode cX4_walkOn 57 = .ok (.iload_n 3, 1) := by decide +kernel
theorem dX4_walkOn_58 : decode cX4_walkOn 58 = .ok (.iload 4, 2) := by decide +kernel
theorem dX4_walkOn_60 : decode cX4_walkOn 60 = .ok (.iload 5, 2) := by decide +kernel
theorem dX4_walkOn_62 : decode cX4_walkOn 62 = .ok (.iload_n 2, 1) := by decide +kernel
theorem dX4_walkOn_63 : decode cX4_walkOn 63 = .ok (.iload_n 2, 1) := by decide +kernel
theorem dX4_walkOn_64 : decode cX4_walkOn 64 = .ok (.invokestatic 69, 3) := by decide +kernel
theorem dX4_walkOn_67 : decode cX4_walkOn 67 = .ok (.if_icmp .le 7, 3) := by decide +kernel
theorem dX4_walkOn_70 : decode cX4_walkOn 70 = .ok (.iconst 1, 1) := by decide +kernel
theorem dX4_walkOn_71 : decode cX4_walkOn 71 = .ok (.goto 4, 3) := by decide +kernel
theorem dX4_walkOn_74 : decode cX4_walkOn 74 = .ok (.iconst 0, 1) := by decide +kernel
theorem dX4_walkOn_75 : decode cX4_walkOn 75 = .ok (.invokevirtual 73, 3) := by decide +kernel
theorem dX4_walkOn_78 : decode cX4_walkOn 78 = .ok (.aload_n 0, 1) := by decide +kernel
theorem dX4_walkOn_79 : decode cX4_walkOn 79 = .ok (.iload_n 2, 1) := by decide +kernel
theorem dX4_walkOn_80 : decode cX4_walkOn 80 = .ok (.iload 4, 2) := by decide +kernel
theorem dX4_walkOn_82 : decode cX4_walkOn 82 = .ok (.iload 5, 2) := by decide +kernel
theorem dX4_walkOn_84 : decode cX4_walkOn 84 = .ok (.iload_n 2, 1) := by decide +kernel
theorem dX4_walkOn_85 : decode cX4_walkOn 85 = .ok (.aload_n 0, 1) := by decide +kernel
theorem dX4_walkOn_86 : decode cX4_walkOn 86 = .ok (.getfield 18, 3) := by decide +kernel
theorem dX4_walkOn_89 : decode cX4_walkOn 89 = .ok (.invokestatic 69, 3) := by decide +kernel
theorem dX4_walkOn_92 : decode cX4_walkOn 92 = .ok (.if_icmp .le 7, 3) := by decide +kernel
theorem dX4_walkOn_95 : decode cX4_walkOn 95 = .ok (.iconst 1, 1) := by decide +kernel
theorem dX4_walkOn_96 : decode cX4_walkOn 96 = .ok (.goto 4, 3) := by decide +kernel
theorem dX4_walkOn_99 : decode cX4_walkOn 99 = .ok (.iconst 0, 1) := by decide +kernel
theorem dX4_walkOn_100 : decode cX4_walkOn 100 = .ok (.invokevirtual 77, 3) := by decide +kernel
theorem dX4_walkOn_103 : decode cX4_walkOn 103 = .ok (.istore 6, 2) := by decide +kernel
theorem dX4_walkOn_105 : decode cX4_walkOn 105 = .ok (.aload_n 1, 1) := by decide +kernel
theorem dX4_walkOn_106 : decode cX4_walkOn 106 = .ok (.getfield 81, 3) := by decide +kernel
theorem dX4_walkOn_109 : decode cX4_walkOn 109 = .ok (.aload_n 0, 1) := by decide +kernel
theorem dX4_walkOn_110 : decode cX4_walkOn 110 = .ok (.getfield 15, 3) := by decide +kernel
theorem dX4_walkOn_113 : decode cX4_walkOn 113 = .ok (.iaload, 1) := by decide +kernel
theorem dX4_walkOn_114 : decode cX4_walkOn 114 = .ok (.ifCond .ne 55, 3) := by decide +kernel
theorem dX4_walkOn_117 : decode cX4_walkOn 117 = .ok (.aload_n 0, 1) := by decide +kernel
theorem dX4_walkOn_118 : decode cX4_walkOn 118 = .ok (.getfield 18, 3) := by decide +kernel
theorem dX4_walkOn_121 : decode cX4_walkOn 121 = .ok (.iconst 3, 1) := by decide +kernel
theorem dX4_walkOn_122 : decode cX4_walkOn 122 = .ok (.if_icmp .eq 11, 3) := by decide +kernel
theorem dX4_walkOn_125 : decode cX4_walkOn 125 = .ok (.aload_n 0, 1) := by decide +kernel
theorem dX4_walkOn_126 : decode cX4_walkOn 126 = .ok (.getfield 27, 3) := by decide +kernel
theorem dX4_walkOn_129 : decode cX4_walkOn 129 = .ok (.iconst 1, 1) := by decide +kernel
theorem dX4_walkOn_130 : decode cX4_walkOn 130 = .ok (.if_icmp .ne 7, 3) := by decide +kernel
theorem dX4_walkOn_133 : decode cX4_walkOn 133 = .ok (.iconst 0, 1) := by decide +kernel
theorem dX4_walkOn_134 : decode cX4_walkOn 134 = .ok (.goto 8, 3) := by decide +kernel
theorem dX4_walkOn_137 : decode cX4_walkOn 137 = .ok (.aload_n 0, 1) := by decide +kernel
theorem dX4_walkOn_138 : decode cX4_walkOn 138 = .ok (.aload_n 1, 1) := by decide +kernel
theorem dX4_walkOn_139 : decode cX4_walkOn 139 = .ok (.invokevirtual 84, 3) := by decide +kernel
theorem dX4_walkOn_142 : decode cX4_walkOn 142 = .ok (.istore 7, 2) := by decide +kernel
theorem dX4_walkOn_144 : decode cX4_walkOn 144 = .ok (.aload_n 0, 1) := by decide +kernel
theorem dX4_walkOn_145 : decode cX4_walkOn 145 = .ok (.getstatic 88, 3) := by decide +kernel
theorem dX4_walkOn_148 : decode cX4_walkOn 148 = .ok (.bipush 7, 2) := by decide +kernel
theorem dX4_walkOn_150 : decode cX4_walkOn 150 = .ok (.iaload, 1) := by decide +kernel
theorem dX4_walkOn_151 : decode cX4_walkOn 151 = .ok (.aload_n 0, 1) := by decide +kernel
theorem dX4_walkOn_152 : decode cX4_walkOn 152 = .ok (.getfield 33, 3) := by decide +kernel
theorem dX4_walkOn_155 : decode cX4_walkOn 155 = .ok (.aload_n 1, 1) := by decide +kernel
theorem dX4_walkOn_156 : decode cX4_walkOn 156 = .ok (.getfield 42, 3) := by decide +kernel
theorem dX4_walkOn_159 : decode cX4_walkOn 159 = .ok (.iadd, 1) := by decide +kernel
theorem dX4_walkOn_160 : decode cX4_walkOn 160 = .ok (.iload 7, 2) := by decide +kernel
theorem dX4_walkOn_162 : decode cX4_walkOn 162 = .ok (.isub, 1) := by decide +kernel
theorem dX4_walkOn_163 : decode cX4_walkOn 163 = .ok (.invokestatic 47, 3) := by decide +kernel
theorem dX4_walkOn_166 : decode cX4_walkOn 166 = .ok (.putfield 33, 3) := by decide +kernel
theorem dX4_walkOn_169 : decode cX4_walkOn 169 = .ok (.aload_n 0, 1) := by decide +kernel
theorem dX4_walkOn_170 : decode cX4_walkOn 170 = .ok (.getfield 27, 3) := by decide +kernel
theorem dX4_walkOn_173 : decode cX4_walkOn 173 = .ok (.ifCond .ne 25, 3) := by decide +kernel
theorem dX4_walkOn_176 : decode cX4_walkOn 176 = .ok (.aload_n 0, 1) := by decide +kernel
theorem dX4_walkOn_177 : decode cX4_walkOn 177 = .ok (.bipush 16, 2) := by decide +kernel
theorem dX4_walkOn_179 : decode cX4_walkOn 179 = .ok (.aload_n 0, 1) := by decide +kernel
theorem dX4_walkOn_180 : decode cX4_walkOn 180 = .ok (.getfield 15, 3) := by decide +kernel
theorem dX4_walkOn_183 : decode cX4_walkOn 183 = .ok (.aload_n 0, 1) := by decide +kernel
theorem dX4_walkOn_184 : decode cX4_walkOn 184 = .ok (.aload_n 1, 1) := by decide +kernel
theorem dX4_walkOn_185 : decode cX4_walkOn 185 = .ok (.getfield 50, 3) := by decide +kernel
theorem dX4_walkOn_188 : decode cX4_walkOn 188 = .ok (.invokevirtual 91, 3) := by decide +kernel
theorem dX4_walkOn_191 : decode cX4_walkOn 191 = .ok (.iadd, 1) := by decide +kernel
theorem dX4_walkOn_192 : decode cX4_walkOn 192 = .ok (.invokestatic 47, 3) := by decide +kernel
theorem dX4_walkOn_195 : decode cX4_walkOn 195 = .ok (.putfield 15, 3) := by decide +kernel
theorem dX4_walkOn_198 : decode cX4_walkOn 198 = .ok (.iload 6, 2) := by decide +kernel
theorem dX4_walkOn_200 : decode cX4_walkOn 200 = .ok (.ireturn, 1) := by decide +kernel
theorem dX4_holdByHabit_0 : decode cX4_holdByHabit 0 = .ok (.aload_n 0, 1) := by decide +kernel
theorem dX4_holdByHabit_1 : decode cX4_holdByHabit 1 = .ok (.getfield 21, 3) := by decide +kernel
theorem dX4_holdByHabit_4 : decode cX4_holdByHabit 4 = .ok (.tableswitch 60 1 3 #[28, 36, 44], 28) := by decide +kernel
theorem dX4_holdByHabit_32 : decode cX4_holdByHabit 32 = .ok (.aload_n 0, 1) := by decide +kernel
theorem dX4_holdByHabit_33 : decode cX4_holdByHabit 33 = .ok (.iload_n 1, 1) := by decide +kernel
theorem dX4_holdByHabit_34 : decode cX4_holdByHabit 34 = .ok (.putfield 18, 3) := by decide +kernel
theorem dX4_holdByHabit_37 : decode cX4_holdByHabit 37 = .ok (.goto 27, 3) := by decide +kernel
theorem dX4_holdByHabit_40 : decode cX4_holdByHabit 40 = .ok (.aload_n 0, 1) := by decide +kernel
theorem dX4_holdByHabit_41 : decode cX4_holdByHabit 41 = .ok (.iload_n 2, 1) := by decide +kernel
theorem dX4_holdByHabit_42 : decode cX4_holdByHabit 42 = .ok (.putfield 18, 3) := by decide +kernel
theorem dX4_holdByHabit_45 : decode cX4_holdByHabit 45 = .ok (.goto 19, 3) := by decide +kernel
theorem dX4_holdByHabit_48 : decode cX4_holdByHabit 48 = .ok (.aload_n 0, 1) := by decide +kernel
theorem dX4_holdByHabit_49 : decode cX4_holdByHabit 49 = .ok (.iload_n 3, 1) := by decide +kernel
theorem dX4_holdByHabit_50 : decode cX4_holdByHabit 50 = .ok (.ifCond .eq 7, 3) := by decide +kernel
theorem dX4_holdByHabit_53 : decode cX4_holdByHabit 53 = .ok (.iconst 3, 1) := by decide +kernel
theorem dX4_holdByHabit_54 : decode cX4_holdByHabit 54 = .ok (.goto 4, 3) := by decide +kernel
theorem dX4_holdByHabit_57 : decode cX4_holdByHabit 57 = .ok (.iload_n 1, 1) := by decide +kernel
theorem dX4_holdByHabit_58 : decode cX4_holdByHabit 58 = .ok (.putfield 18, 3) := by decide +kernel
theorem dX4_holdByHabit_61 : decode cX4_holdByHabit 61 = .ok (.goto 3, 3) := by decide +kernel
theorem dX4_holdByHabit_64 : decode cX4_holdByHabit 64 = .ok (.return_, 1) := by decide +kernel
theorem dX4_turn_0 : decode cX4_turn 0 = .ok (.aload_n 0, 1) := by decide +kernel
theorem dX4_turn_1 : decode cX4_turn 1 = .ok (.getfield 27, 3) := by decide +kernel
theorem dX4_turn_4 : decode cX4_turn 4 = .ok (.iconst 1, 1) := by decide +kernel
theorem dX4_turn_5 : decode cX4_turn 5 = .ok (.if_icmp .ne 18, 3) := by decide +kernel
theorem dX4_turn_8 : decode cX4_turn 8 = .ok (.aload_n 0, 1) := by decide +kernel
theorem dX4_turn_9 : decode cX4_turn 9 = .ok (.getfield 18, 3) := by decide +kernel
theorem dX4_turn_12 : decode cX4_turn 12 = .ok (.iload_n 1, 1) := by decide +kernel
theorem dX4_turn_13 : decode cX4_turn 13 = .ok (.if_icmp .ne 8, 3) := by decide +kernel
theorem dX4_turn_16 : decode cX4_turn 16 = .ok (.aload_n 0, 1) := by decide +kernel
theorem dX4_turn_17 : decode cX4_turn 17 = .ok (.iconst 0, 1) := by decide +kernel
theorem dX4_turn_18 : decode cX4_turn 18 = .ok (.putfield 27, 3) := by decide +kernel
theorem dX4_turn_21 : decode cX4_turn 21 = .ok (.iconst 0, 1) := by decide +kernel
theorem dX4_turn_22 : decode cX4_turn 22 = .ok (.ireturn, 1) := by decide +kernel
theorem dX4_turn_23 : decode cX4_turn 23 = .ok (.aload_n 0, 1) := by decide +kernel
theorem dX4_turn_24 : decode cX4_turn 24 = .ok (.getfield 18, 3) := by decide +kernel
theorem dX4_turn_27 : decode cX4_turn 27 = .ok (.iconst 3, 1) := by decide +kernel
theorem dX4_turn_28 : decode cX4_turn 28 = .ok (.if_icmp .eq 7, 3) := by decide +kernel
theorem dX4_turn_31 : decode cX4_turn 31 = .ok (.iload_n 2, 1) := by decide +kernel
theorem dX4_turn_32 : decode cX4_turn 32 = .ok (.ifCond .ne 5, 3) := by decide +kernel
theorem dX4_turn_35 : decode cX4_turn 35 = .ok (.iconst 0, 1) := by decide +kernel
theorem dX4_turn_36 : decode cX4_turn 36 = .ok (.ireturn, 1) := by decide +kernel
theorem dX4_turn_37 : decode cX4_turn 37 = .ok (.aload_n 0, 1) := by decide +kernel
theorem dX4_turn_38 : decode cX4_turn 38 = .ok (.iconst 1, 1) := by decide +kernel
theorem dX4_turn_39 : decode cX4_turn 39 = .ok (.putfield 27, 3) := by decide +kernel
theorem dX4_turn_42 : decode cX4_turn 42 = .ok (.aload_n 0, 1) := by decide +kernel
theorem dX4_turn_43 : decode cX4_turn 43 = .ok (.getstatic 88, 3) := by decide +kernel
theorem dX4_turn_46 : decode cX4_turn 46 = .ok (.bipush 6, 2) := by decide +kernel
theorem dX4_turn_48 : decode cX4_turn 48 = .ok (.iaload, 1) := by decide +kernel
theorem dX4_turn_49 : decode cX4_turn 49 = .ok (.aload_n 0, 1) := by decide +kernel
theorem dX4_turn_50 : decode cX4_turn 50 = .ok (.getfield 30, 3) := by decide +kernel
theorem dX4_turn_53 : decode cX4_turn 53 = .ok (.iconst 1, 1) := by decide +kernel
theorem dX4_turn_54 : decode cX4_turn 54 = .ok (.iadd, 1) := by decide +kernel
theorem dX4_turn_55 : decode cX4_turn 55 = .ok (.invokestatic 47, 3) := by decide +kernel
theorem dX4_turn_58 : decode cX4_turn 58 = .ok (.putfield 30, 3) := by decide +kernel
theorem dX4_turn_61 : decode cX4_turn 61 = .ok (.aload_n 0, 1) := by decide +kernel
theorem dX4_turn_62 : decode cX4_turn 62 = .ok (.iconst 0, 1) := by decide +kernel
theorem dX4_turn_63 : decode cX4_turn 63 = .ok (.aload_n 0, 1) := by decide +kernel
theorem dX4_turn_64 : decode cX4_turn 64 = .ok (.getfield 24, 3) := by decide +kernel
theorem dX4_turn_67 : decode cX4_turn 67 = .ok (.iconst 1, 1) := by decide +kernel
theorem dX4_turn_68 : decode cX4_turn 68 = .ok (.isub, 1) := by decide +kernel
theorem dX4_turn_69 : decode cX4_turn 69 = .ok (.invokestatic 36, 3) := by decide +kernel
theorem dX4_turn_72 : decode cX4_turn 72 = .ok (.putfield 24, 3) := by decide +kernel
theorem dX4_turn_75 : decode cX4_turn 75 = .ok (.iconst 1, 1) := by decide +kernel
theorem dX4_turn_76 : decode cX4_turn 76 = .ok (.ireturn, 1) := by decide +kernel
theorem dX5_init_0 : decode cX5_init 0 = .ok (.aload_n 0, 1) := by decide +kernel
theorem dX5_init_1 : decode cX5_init 1 = .ok (.invokespecial 3, 3) := by decide +kernel
theorem dX5_init_4 : decode cX5_init 4 = .ok (.aload_n 0, 1) := by decide +kernel
theorem dX5_init_5 : decode cX5_init 5 = .ok (.new 9, 3) := by decide +kernel
theorem dX5_init_8 : decode cX5_init 8 = .ok (.dup, 1) := by decide +kernel
theorem dX5_init_9 : decode cX5_init 9 = .ok (.invokespecial 11, 3) := by decide +kernel
theorem dX5_init_12 : decode cX5_init 12 = .ok (.putfield 12, 3) := by decide +kernel
theorem dX5_init_15 : decode cX5_init 15 = .ok (.aload_n 0, 1) := by decide +kernel
theorem dX5_init_16 : decode cX5_init 16 = .ok (.new 18, 3) := by decide +kernel
theorem dX5_init_19 : decode cX5_init 19 = .ok (.dup, 1) := by decide +kernel
theorem dX5_init_20 : decode cX5_init 20 = .ok (.invokespecial 20, 3) := by decide +kernel
theorem dX5_init_23 : decode cX5_init 23 = .ok (.putfield 21, 3) := by decide +kernel
theorem dX5_init_26 : decode cX5_init 26 = .ok (.return_, 1) := by decide +kernel
theorem dX5_start_0 : decode cX5_start 0 = .ok (.aload_n 0, 1) := by decide +kernel
theorem dX5_start_1 : decode cX5_start 1 = .ok (.getfield 12, 3) := by decide +kernel
theorem dX5_start_4 : decode cX5_start 4 = .ok (.aload_n 1, 1) := by decide +kernel
theorem dX5_start_5 : decode cX5_start 5 = .ok (.invokevirtual 25, 3) := by decide +kernel
theorem dX5_start_8 : decode cX5_start 8 = .ok (.aload_n 0, 1) := by decide +kernel
theorem dX5_start_9 : decode cX5_start 9 = .ok (.getfield 21, 3) := by decide +kernel
theorem dX5_start_12 : decode cX5_start 12 = .ok (.aload_n 2, 1) := by decide +kernel
theorem dX5_start_13 : decode cX5_start 13 = .ok (.invokevirtual 29, 3) := by decide +kernel
theorem dX5_start_16 : decode cX5_start 16 = .ok (.return_, 1) := by decide +kernel
theorem dX5_choose_0 : decode cX5_choose 0 = .ok (.iload_n 1, 1) := by decide +kernel
theorem dX5_choose_1 : decode cX5_choose 1 = .ok (.bipush 20, 2) := by decide +kernel
theorem dX5_choose_3 : decode cX5_choose 3 = .ok (.if_icmp .ne 38, 3) := by decide +kernel
theorem dX5_choose_6 : decode cX5_choose 6 = .ok (.iload_n 2, 1) := by decide +kernel
theorem dX5_choose_7 : decode cX5_choose 7 = .ok (.invokestatic 32, 3) := by decide +kernel
theorem dX5_choose_10 : decode cX5_choose 10 = .ok (.ifCond .eq 16, 3) := by decide +kernel
theorem dX5_choose_13 : decode cX5_choose 13 = .ok (.aload_n 0, 1) := by decide +kernel
theorem dX5_choose_14 : decode cX5_choose 14 = .ok (.getfield 12, 3) := by decide +kernel
theorem dX5_choose_17 : decode cX5_choose 17 = .ok (.getfield 36, 3) := by decide +kernel
theorem dX5_choose_20 : decode cX5_choose 20 = .ok (.iload_n 2, 1) := by decide +kernel
theorem dX5_choose_21 : decode cX5_choose 21 = .ok (.iaload, 1) := by decide +kernel
theorem dX5_choose_22 : decode cX5_choose 22 = .ok (.iconst 1, 1) := by decide +kernel
theorem dX5_choose_23 : decode cX5_choose 23 = .ok (.if_icmp .ne 5, 3) := by decide +kernel
theorem dX5_choose_26 : decode cX5_choose 26 = .ok (.iconst 0, 1) := by decide +kernel
theorem dX5_choose_27 : decode cX5_choose 27 = .ok (.ireturn, 1) := by decide +kernel
theorem dX5_choose_28 : decode cX5_choose 28 = .ok (.aload_n 0, 1) := by decide +kernel
theorem dX5_choose_29 : decode cX5_choose 29 = .ok (.getfield 12, 3) := by decide +kernel
theorem dX5_choose_32 : decode cX5_choose 32 = .ok (.getfield 36, 3) := by decide +kernel
theorem dX5_choose_35 : decode cX5_choose 35 = .ok (.iload_n 2, 1) := by decide +kernel
theorem dX5_choose_36 : decode cX5_choose 36 = .ok (.iconst 1, 1) := by decide +kernel
theorem dX5_choose_37 : decode cX5_choose 37 = .ok (.iastore, 1) := by decide +kernel
theorem dX5_choose_38 : decode cX5_choose 38 = .ok (.goto 29, 3) := by decide +kernel
theorem dX5_choose_41 : decode cX5_choose 41 = .ok (.iload_n 1, 1) := by decide +kernel
theorem dX5_choose_42 : decode cX5_choose 42 = .ok (.bipush 21, 2) := by decide +kernel
theorem dX5_choose_44 : decode cX5_choose 44 = .ok (.if_icmp .ne 14, 3) := by decide +kernel
theorem dX5_choose_47 : decode cX5_choose 47 = .ok (.aload_n 0, 1) := by decide +kernel
theorem dX5_choose_48 : decode cX5_choose 48 = .ok (.getfield 12, 3) := by decide +kernel
theorem dX5_choose_51 : decode cX5_choose 51 = .ok (.iload_n 2, 1) := by decide +kernel
theorem dX5_choose_52 : decode cX5_choose 52 = .ok (.invokevirtual 40, 3) := by decide +kernel
theorem dX5_choose_55 : decode cX5_choose 55 = .ok (.goto 12, 3) := by decide +kernel
theorem dX5_choose_58 : decode cX5_choose 58 = .ok (.aload_n 0, 1) := by decide +kernel
theorem dX5_choose_59 : decode cX5_choose 59 = .ok (.getfield 21, 3) := by decide +kernel
theorem dX5_choose_62 : decode cX5_choose 62 = .ok (.iload_n 1, 1) := by decide +kernel
theorem dX5_choose_63 : decode cX5_choose 63 = .ok (.iload_n 2, 1) := by decide +kernel
theorem dX5_choose_64 : decode cX5_choose 64 = .ok (.invokevirtual 44, 3) := by decide +kernel
theorem dX5_choose_67 : decode cX5_choose 67 = .ok (.iconst 1, 1) := by decide +kernel
theorem dX5_choose_68 : decode cX5_choose 68 = .ok (.ireturn, 1) := by decide +kernel
theorem dX5_goOn_0 : decode cX5_goOn 0 = .ok (.aload_n 0, 1) := by decide +kernel
theorem dX5_goOn_1 : decode cX5_goOn 1 = .ok (.getfield 21, 3) := by decide +kernel
theorem dX5_goOn_4 : decode cX5_goOn 4 = .ok (.aload_n 0, 1) := by decide +kernel
theorem dX5_goOn_5 : decode cX5_goOn 5 = .ok (.getfield 12, 3) := by decide +kernel
theorem dX5_goOn_8 : decode cX5_goOn 8 = .ok (.invokevirtual 48, 3) := by decide +kernel
theorem dX5_goOn_11 : decode cX5_goOn 11 = .ok (.pop, 1) := by decide +kernel
theorem dX5_goOn_12 : decode cX5_goOn 12 = .ok (.aload_n 0, 1) := by decide +kernel
theorem dX5_goOn_13 : decode cX5_goOn 13 = .ok (.getfield 12, 3) := by decide +kernel
theorem dX5_goOn_16 : decode cX5_goOn 16 = .ok (.iconst 1, 1) := by decide +kernel
theorem dX5_goOn_17 : decode cX5_goOn 17 = .ok (.invokevirtual 40, 3) := by decide +kernel
theorem dX5_goOn_20 : decode cX5_goOn 20 = .ok (.return_, 1) := by decide +kernel
theorem dX5_ticksHome_0 : decode cX5_ticksHome 0 = .ok (.iconst 0, 1) := by decide +kernel
theorem dX5_ticksHome_1 : decode cX5_ticksHome 1 = .ok (.istore_n 1, 1) := by decide +kernel
theorem dX5_ticksHome_2 : decode cX5_ticksHome 2 = .ok (.iload_n 1, 1) := by decide +kernel
theorem dX5_ticksHome_3 : decode cX5_ticksHome 3 = .ok (.sipush 200, 3) := by decide +kernel
theorem dX5_ticksHome_6 : decode cX5_ticksHome 6 = .ok (.if_icmp .ge 27, 3) := by decide +kernel
theorem dX5_ticksHome_9 : decode cX5_ticksHome 9 = .ok (.aload_n 0, 1) := by decide +kernel
theorem dX5_ticksHome_10 : decode cX5_ticksHome 10 = .ok (.getfield 21, 3) := by decide +kernel
theorem dX5_ticksHome_13 : decode cX5_ticksHome 13 = .ok (.getfield 52, 3) := by decide +kernel
theorem dX5_ticksHome_16 : decode cX5_ticksHome 16 = .ok (.bipush 16, 2) := by decide +kernel
theorem dX5_ticksHome_18 : decode cX5_ticksHome 18 = .ok (.if_icmp .ne 5, 3) := by decide +kernel
theorem dX5_ticksHome_21 : decode cX5_ticksHome 21 = .ok (.iload_n 1, 1) := by decide +kernel
theorem dX5_ticksHome_22 : decode cX5_ticksHome 22 = .ok (.ireturn, 1) := by decide +kernel
theorem dX5_ticksHome_23 : decode cX5_ticksHome 23 = .ok (.aload_n 0, 1) := by decide +kernel
theorem dX5_ticksHome_24 : decode cX5_ticksHome 24 = .ok (.invokevirtual 56, 3) := by decide +kernel
theorem dX5_ticksHome_27 : decode cX5_ticksHome 27 = .ok (.iinc 1 1, 3) := by decide +kernel
theorem dX5_ticksHome_30 : decode cX5_ticksHome 30 = .ok (.goto (-28), 3) := by decide +kernel
theorem dX5_ticksHome_33 : decode cX5_ticksHome 33 = .ok (.aload_n 0, 1) := by decide +kernel
theorem dX5_ticksHome_34 : decode cX5_ticksHome 34 = .ok (.getfield 21, 3) := by decide +kernel
theorem dX5_ticksHome_37 : decode cX5_ticksHome 37 = .ok (.getfield 52, 3) := by decide +kernel
theorem dX5_ticksHome_40 : decode cX5_ticksHome 40 = .ok (.bipush 16, 2) := by decide +kernel
theorem dX5_ticksHome_42 : decode cX5_ticksHome 42 = .ok (.if_icmp .ne 9, 3) := by decide +kernel
theorem dX5_ticksHome_45 : decode cX5_ticksHome 45 = .ok (.sipush 200, 3) := by decide +kernel
theorem dX5_ticksHome_48 : decode cX5_ticksHome 48 = .ok (.goto 4, 3) := by decide +kernel
theorem dX5_ticksHome_51 : decode cX5_ticksHome 51 = .ok (.iconst (-1), 1) := by decide +kernel
theorem dX5_ticksHome_52 : decode cX5_ticksHome 52 = .ok (.ireturn, 1) := by decide +kernel
theorem dX5_ticksTillTurned_0 : decode cX5_ticksTillTurned 0 = .ok (.aload_n 0, 1) := by decide +kernel
theorem dX5_ticksTillTurned_1 : decode cX5_ticksTillTurned 1 = .ok (.getfield 21, 3) := by decide +kernel
theorem dX5_ticksTillTurned_4 : decode cX5_ticksTillTurned 4 = .ok (.getfield 59, 3) := by decide +kernel
theorem dX5_ticksTillTurned_7 : decode cX5_ticksTillTurned 7 = .ok (.istore_n 1, 1) := by decide +kernel
theorem dX5_ticksTillTurned_8 : decode cX5_ticksTillTurned 8 = .ok (.iconst 1, 1) := by decide +kernel
theorem dX5_ticksTillTurned_9 : decode cX5_ticksTillTurned 9 = .ok (.istore_n 2, 1) := by decide +kernel
theorem dX5_ticksTillTurned_10 : decode cX5_ticksTillTurned 10 = .ok (.iload_n 2, 1) := by decide +kernel
theorem dX5_ticksTillTurned_11 : decode cX5_ticksTillTurned 11 = .ok (.sipush 200, 3) := by decide +kernel
theorem dX5_ticksTillTurned_14 : decode cX5_ticksTillTurned 14 = .ok (.if_icmp .gt 26, 3) := by decide +kernel
theorem dX5_ticksTillTurned_17 : decode cX5_ticksTillTurned 17 = .ok (.aload_n 0, 1) := by decide +kernel
theorem dX5_ticksTillTurned_18 : decode cX5_ticksTillTurned 18 = .ok (.invokevirtual 56, 3) := by decide +kernel
theorem dX5_ticksTillTurned_21 : decode cX5_ticksTillTurned 21 = .ok (.aload_n 0, 1) := by decide +kernel
theorem dX5_ticksTillTurned_22 : decode cX5_ticksTillTurned 22 = .ok (.getfield 21, 3) := by decide +kernel
theorem dX5_ticksTillTurned_25 : decode cX5_ticksTillTurned 25 = .ok (.getfield 59, 3) := by decide +kernel
theorem dX5_ticksTillTurned_28 : decode cX5_ticksTillTurned 28 = .ok (.iload_n 1, 1) := by decide +kernel
theorem dX5_ticksTillTurned_29 : decode cX5_ticksTillTurned 29 = .ok (.if_icmp .le 5, 3) := by decide +kernel
theorem dX5_ticksTillTurned_32 : decode cX5_ticksTillTurned 32 = .ok (.iload_n 2, 1) := by decide +kernel
theorem dX5_ticksTillTurned_33 : decode cX5_ticksTillTurned 33 = .ok (.ireturn, 1) := by decide +kernel
theorem dX5_ticksTillTurned_34 : decode cX5_ticksTillTurned 34 = .ok (.iinc 2 1, 3) := by decide +kernel
theorem dX5_ticksTillTurned_37 : decode cX5_ticksTillTurned 37 = .ok (.goto (-27), 3) := by decide +kernel
theorem dX5_ticksTillTurned_40 : decode cX5_ticksTillTurned 40 = .ok (.iconst (-1), 1) := by decide +kernel
theorem dX5_ticksTillTurned_41 : decode cX5_ticksTillTurned 41 = .ok (.ireturn, 1) := by decide +kernel
theorem dX5_comesHomeUnturned_0 : decode cX5_comesHomeUnturned 0 = .ok (.aload_n 0, 1) := by decide +kernel
theorem dX5_comesHomeUnturned_1 : decode cX5_comesHomeUnturned 1 = .ok (.getfield 21, 3) := by decide +kernel
theorem dX5_comesHomeUnturned_4 : decode cX5_comesHomeUnturned 4 = .ok (.getfield 59, 3) := by decide +kernel
theorem dX5_comesHomeUnturned_7 : decode cX5_comesHomeUnturned 7 = .ok (.istore_n 1, 1) := by decide +kernel
theorem dX5_comesHomeUnturned_8 : decode cX5_comesHomeUnturned 8 = .ok (.iconst 0, 1) := by decide +kernel
theorem dX5_comesHomeUnturned_9 : decode cX5_comesHomeUnturned 9 = .ok (.istore_n 2, 1) := by decide +kernel
theorem dX5_comesHomeUnturned_10 : decode cX5_comesHomeUnturned 10 = .ok (.iload_n 2, 1) := by decide +kernel
theorem dX5_comesHomeUnturned_11 : decode cX5_comesHomeUnturned 11 = .ok (.sipush 200, 3) := by decide +kernel
theorem dX5_comesHomeUnturned_14 : decode cX5_comesHomeUnturned 14 = .ok (.if_icmp .ge 38, 3) := by decide +kernel
theorem dX5_comesHomeUnturned_17 : decode cX5_comesHomeUnturned 17 = .ok (.aload_n 0, 1) := by decide +kernel
theorem dX5_comesHomeUnturned_18 : decode cX5_comesHomeUnturned 18 = .ok (.getfield 21, 3) := by decide +kernel
theorem dX5_comesHomeUnturned_21 : decode cX5_comesHomeUnturned 21 = .ok (.getfield 52, 3) := by decide +kernel
theorem dX5_comesHomeUnturned_24 : decode cX5_comesHomeUnturned 24 = .ok (.bipush 16, 2) := by decide +kernel
theorem dX5_comesHomeUnturned_26 : decode cX5_comesHomeUnturned 26 = .ok (.if_icmp .eq 26, 3) := by decide +kernel
theorem dX5_comesHomeUnturned_29 : decode cX5_comesHomeUnturned 29 = .ok (.aload_n 0, 1) := by decide +kernel
theorem dX5_comesHomeUnturned_30 : decode cX5_comesHomeUnturned 30 = .ok (.invokevirtual 56, 3) := by decide +kernel
theorem dX5_comesHomeUnturned_33 : decode cX5_comesHomeUnturned 33 = .ok (.aload_n 0, 1) := by decide +kernel
theorem dX5_comesHomeUnturned_34 : decode cX5_comesHomeUnturned 34 = .ok (.getfield 21, 3) := by decide +kernel
theorem dX5_comesHomeUnturned_37 : decode cX5_comesHomeUnturned 37 = .ok (.getfield 59, 3) := by decide +kernel
theorem dX5_comesHomeUnturned_40 : decode cX5_comesHomeUnturned 40 = .ok (.iload_n 1, 1) := by decide +kernel
theorem dX5_comesHomeUnturned_41 : decode cX5_comesHomeUnturned 41 = .ok (.if_icmp .eq 5, 3) := by decide +kernel
theorem dX5_comesHomeUnturned_44 : decode cX5_comesHomeUnturned 44 = .ok (.iconst 0, 1) := by decide +kernel
theorem dX5_comesHomeUnturned_45 : decode cX5_comesHomeUnturned 45 = .ok (.ireturn, 1) := by decide +kernel
theorem dX5_comesHomeUnturned_46 : decode cX5_comesHomeUnturned 46 = .ok (.iinc 2 1, 3) := by decide +kernel
theorem dX5_comesHomeUnturned_49 : decode cX5_comesHomeUnturned 49 = .ok (.goto (-39), 3) := by decide +kernel
theorem dX5_comesHomeUnturned_52 : decode cX5_comesHomeUnturned 52 = .ok (.aload_n 0, 1) := by decide +kernel
theorem dX5_comesHomeUnturned_53 : decode cX5_comesHomeUnturned 53 = .ok (.getfield 21, 3) := by decide +kernel
theorem dX5_comesHomeUnturned_56 : decode cX5_comesHomeUnturned 56 = .ok (.getfield 52, 3) := by decide +kernel
theorem dX5_comesHomeUnturned_59 : decode cX5_comesHomeUnturned 59 = .ok (.bipush 16, 2) := by decide +kernel
theorem dX5_comesHomeUnturned_61 : decode cX5_comesHomeUnturned 61 = .ok (.if_icmp .ne 7, 3) := by decide +kernel
theorem dX5_comesHomeUnturned_64 : decode cX5_comesHomeUnturned 64 = .ok (.iconst 1, 1) := by decide +kernel
theorem dX5_comesHomeUnturned_65 : decode cX5_comesHomeUnturned 65 = .ok (.goto 4, 3) := by decide +kernel
theorem dX5_comesHomeUnturned_68 : decode cX5_comesHomeUnturned 68 = .ok (.iconst 0, 1) := by decide +kernel
theorem dX5_comesHomeUnturned_69 : decode cX5_comesHomeUnturned 69 = .ok (.ireturn, 1) := by decide +kernel
theorem dX5_follows_0 : decode cX5_follows 0 = .ok (.iconst 0, 1) := by decide +kernel
theorem dX5_follows_1 : decode cX5_follows 1 = .ok (.istore_n 2, 1) := by decide +kernel
theorem dX5_follows_2 : decode cX5_follows 2 = .ok (.iload_n 2, 1) := by decide +kernel
theorem dX5_follows_3 : decode cX5_follows 3 = .ok (.aload_n 1, 1) := by decide +kernel
theorem dX5_follows_4 : decode cX5_follows 4 = .ok (.getfield 62, 3) := by decide +kernel
theorem dX5_follows_7 : decode cX5_follows 7 = .ok (.if_icmp .ge 41, 3) := by decide +kernel
theorem dX5_follows_10 : decode cX5_follows 10 = .ok (.aload_n 1, 1) := by decide +kernel
theorem dX5_follows_11 : decode cX5_follows 11 = .ok (.getfield 67, 3) := by decide +kernel
theorem dX5_follows_14 : decode cX5_follows 14 = .ok (.iload_n 2, 1) := by decide +kernel
theorem dX5_follows_15 : decode cX5_follows 15 = .ok (.iaload, 1) := by decide +kernel
theorem dX5_follows_16 : decode cX5_follows 16 = .ok (.iconst (-1), 1) := by decide +kernel
theorem dX5_follows_17 : decode cX5_follows 17 = .ok (.if_icmp .eq 21, 3) := by decide +kernel
theorem dX5_follows_20 : decode cX5_follows 20 = .ok (.aload_n 1, 1) := by decide +kernel
theorem dX5_follows_21 : decode cX5_follows 21 = .ok (.getfield 67, 3) := by decide +kernel
theorem dX5_follows_24 : decode cX5_follows 24 = .ok (.iload_n 2, 1) := by decide +kernel
theorem dX5_follows_25 : decode cX5_follows 25 = .ok (.iaload, 1) := by decide +kernel
theorem dX5_follows_26 : decode cX5_follows 26 = .ok (.aload_n 0, 1) := by decide +kernel
theorem dX5_follows_27 : decode cX5_follows 27 = .ok (.getfield 21, 3) := by decide +kernel
theorem dX5_follows_30 : decode cX5_follows 30 = .ok (.getfield 52, 3) := by decide +kernel
theorem dX5_follows_33 : decode cX5_follows 33 = .ok (.if_icmp .eq 5, 3) := by decide +kernel
theorem dX5_follows_36 : decode cX5_follows 36 = .ok (.iconst 0, 1) := by decide +kernel
theorem dX5_follows_37 : decode cX5_follows 37 = .ok (.ireturn, 1) := by decide +kernel
theorem dX5_follows_38 : decode cX5_follows 38 = .ok (.aload_n 0, 1) := by decide +kernel
theorem dX5_follows_39 : decode cX5_follows 39 = .ok (.invokevirtual 56, 3) := by decide +kernel
theorem dX5_follows_42 : decode cX5_follows 42 = .ok (.iinc 2 1, 3) := by decide +kernel
theorem dX5_follows_45 : decode cX5_follows 45 = .ok (.goto (-43), 3) := by decide +kernel
theorem dX5_follows_48 : decode cX5_follows 48 = .ok (.iconst 1, 1) := by decide +kernel
theorem dX5_follows_49 : decode cX5_follows 49 = .ok (.ireturn, 1) := by decide +kernel
theorem dX6_init_0 : decode cX6_init 0 = .ok (.aload_n 0, 1) := by decide +kernel
theorem dX6_init_1 : decode cX6_init 1 = .ok (.invokespecial 3, 3) := by decide +kernel
theorem dX6_init_4 : decode cX6_init 4 = .ok (.aload_n 0, 1) := by decide +kernel
theorem dX6_init_5 : decode cX6_init 5 = .ok (.new 9, 3) := by decide +kernel
theorem dX6_init_8 : decode cX6_init 8 = .ok (.dup, 1) := by decide +kernel
theorem dX6_init_9 : decode cX6_init 9 = .ok (.invokespecial 11, 3) := by decide +kernel
theorem dX6_init_12 : decode cX6_init 12 = .ok (.putfield 12, 3) := by decide +kernel
theorem dX6_init_15 : decode cX6_init 15 = .ok (.aload_n 0, 1) := by decide +kernel
theorem dX6_init_16 : decode cX6_init 16 = .ok (.bipush 8, 2) := by decide +kernel
theorem dX6_init_18 : decode cX6_init 18 = .ok (.anewarray 18, 3) := by decide +kernel
theorem dX6_init_21 : decode cX6_init 21 = .ok (.putfield 20, 3) := by decide +kernel
theorem dX6_init_24 : decode cX6_init 24 = .ok (.aload_n 0, 1) := by decide +kernel
theorem dX6_init_25 : decode cX6_init 25 = .ok (.iconst 0, 1) := by decide +kernel
theorem dX6_init_26 : decode cX6_init 26 = .ok (.putfield 24, 3) := by decide +kernel
theorem dX6_init_29 : decode cX6_init 29 = .ok (.aload_n 0, 1) := by decide +kernel
theorem dX6_init_30 : decode cX6_init 30 = .ok (.bipush 10, 2) := by decide +kernel
theorem dX6_init_32 : decode cX6_init 32 = .ok (.newarray .int, 2) := by decide +kernel
theorem dX6_init_34 : decode cX6_init 34 = .ok (.putfield 28, 3) := by decide +kernel
theorem dX6_init_37 : decode cX6_init 37 = .ok (.aload_n 0, 1) := by decide +kernel
theorem dX6_init_38 : decode cX6_init 38 = .ok (.iconst 1, 1) := by decide +kernel
theorem dX6_init_39 : decode cX6_init 39 = .ok (.putfield 32, 3) := by decide +kernel
theorem dX6_init_42 : decode cX6_init 42 = .ok (.iconst 0, 1) := by decide +kernel
theorem dX6_init_43 : decode cX6_init 43 = .ok (.istore_n 1, 1) := by decide +kernel
theorem dX6_init_44 : decode cX6_init 44 = .ok (.iload_n 1, 1) := by decide +kernel
theorem dX6_init_45 : decode cX6_init 45 = .ok (.bipush 8, 2) := by decide +kernel
theorem dX6_init_47 : decode cX6_init 47 = .ok (.if_icmp .ge 22, 3) := by decide +kernel
theorem dX6_init_50 : decode cX6_init 50 = .ok (.aload_n 0, 1) := by decide +kernel
theorem dX6_init_51 : decode cX6_init 51 = .ok (.getfield 20, 3) := by decide +kernel
theorem dX6_init_54 : decode cX6_init 54 = .ok (.iload_n 1, 1) := by decide +kernel
theorem dX6_init_55 : decode cX6_init 55 = .ok (.new 18, 3) := by decide +kernel
theorem dX6_init_58 : decode cX6_init 58 = .ok (.dup, 1) := by decide +kernel
theorem dX6_init_59 : decode cX6_init 59 = .ok (.invokespecial 35, 3) := by decide +kernel
theorem dX6_init_62 : decode cX6_init 62 = .ok (.aastore, 1) := by decide +kernel
theorem dX6_init_63 : decode cX6_init 63 = .ok (.iinc 1 1, 3) := by decide +kernel
theorem dX6_init_66 : decode cX6_init 66 = .ok (.goto (-22), 3) := by decide +kernel
theorem dX6_init_69 : decode cX6_init 69 = .ok (.aload_n 0, 1) := by decide +kernel
theorem dX6_init_70 : decode cX6_init 70 = .ok (.getfield 28, 3) := by decide +kernel
theorem dX6_init_73 : decode cX6_init 73 = .ok (.iconst (-1), 1) := by decide +kernel
theorem dX6_init_74 : decode cX6_init 74 = .ok (.invokestatic 36, 3) := by decide +kernel
theorem dX6_init_77 : decode cX6_init 77 = .ok (.return_, 1) := by decide +kernel
theorem dX6_become_0 : decode cX6_become 0 = .ok (.aload_n 0, 1) := by decide +kernel
theorem dX6_become_1 : decode cX6_become 1 = .ok (.getfield 12, 3) := by decide +kernel
theorem dX6_become_4 : decode cX6_become 4 = .ok (.aload_n 1, 1) := by decide +kernel
theorem dX6_become_5 : decode cX6_become 5 = .ok (.getfield 12, 3) := by decide +kernel
theorem dX6_become_8 : decode cX6_become 8 = .ok (.invokevirtual 42, 3) := by decide +kernel
theorem dX6_become_11 : decode cX6_become 11 = .ok (.iconst 0, 1) := by decide +kernel
theorem dX6_become_12 : decode cX6_become 12 = .ok (.istore_n 2, 1) := by decide +kernel
theorem dX6_become_13 : decode cX6_become 13 = .ok (.iload_n 2, 1) := by decide +kernel
theorem dX6_become_14 : decode cX6_become 14 = .ok (.bipush 8, 2) := by decide +kernel
theorem dX6_become_16 : decode cX6_become 16 = .ok (.if_icmp .ge 24, 3) := by decide +kernel
theorem dX6_become_19 : decode cX6_become 19 = .ok (.aload_n 0, 1) := by decide +kernel
theorem dX6_become_20 : decode cX6_become 20 = .ok (.getfield 20, 3) := by decide +kernel
theorem dX6_become_23 : decode cX6_become 23 = .ok (.iload_n 2, 1) := by decide +kernel
theorem dX6_become_24 : decode cX6_become 24 = .ok (.aaload, 1) := by decide +kernel
theorem dX6_become_25 : decode cX6_become 25 = .ok (.aload_n 1, 1) := by decide +kernel
theorem dX6_become_26 : decode cX6_become 26 = .ok (.getfield 20, 3) := by decide +kernel
theorem dX6_become_29 : decode cX6_become 29 = .ok (.iload_n 2, 1) := by decide +kernel
theorem dX6_become_30 : decode cX6_become 30 = .ok (.aaload, 1) := by decide +kernel
theorem dX6_become_31 : decode cX6_become 31 = .ok (.invokevirtual 46, 3) := by decide +kernel
theorem dX6_become_34 : decode cX6_become 34 = .ok (.iinc 2 1, 3) := by decide +kernel
theorem dX6_become_37 : decode cX6_become 37 = .ok (.goto (-24), 3) := by decide +kernel
theorem dX6_become_40 : decode cX6_become 40 = .ok (.aload_n 0, 1) := by decide +kernel
theorem dX6_become_41 : decode cX6_become 41 = .ok (.aload_n 1, 1) := by decide +kernel
theorem dX6_become_42 : decode cX6_become 42 = .ok (.getfield 24, 3) := by decide +kernel
theorem dX6_become_45 : decode cX6_become 45 = .ok (.putfield 24, 3) := by decide +kernel
theorem dX6_become_48 : decode cX6_become 48 = .ok (.aload_n 1, 1) := by decide +kernel
theorem dX6_become_49 : decode cX6_become 49 = .ok (.getfield 28, 3) := by decide +kernel
theorem dX6_become_52 : decode cX6_become 52 = .ok (.iconst 0, 1) := by decide +kernel
theorem dX6_become_53 : decode cX6_become 53 = .ok (.aload_n 0, 1) := by decide +kernel
theorem dX6_become_54 : decode cX6_become 54 = .ok (.getfield 28, 3) := by decide +kernel
theorem dX6_become_57 : decode cX6_become 57 = .ok (.iconst 0, 1) := by decide +kernel
theorem dX6_become_58 : decode cX6_become 58 = .ok (.bipush 10, 2) := by decide +kernel
theorem dX6_become_60 : decode cX6_become 60 = .ok (.invokestatic 49, 3) := by decide +kernel
theorem dX6_become_63 : decode cX6_become 63 = .ok (.aload_n 0, 1) := by decide +kernel
theorem dX6_become_64 : decode cX6_become 64 = .ok (.aload_n 1, 1) := by decide +kernel
theorem dX6_become_65 : decode cX6_become 65 = .ok (.getfield 32, 3) := by decide +kernel
theorem dX6_become_68 : decode cX6_become 68 = .ok (.putfield 32, 3) := by decide +kernel
theorem dX6_become_71 : decode cX6_become 71 = .ok (.return_, 1) := by decide +kernel
theorem dX6_isFull_0 : decode cX6_isFull 0 = .ok (.aload_n 0, 1) := by decide +kernel
theorem dX6_isFull_1 : decode cX6_isFull 1 = .ok (.getfield 24, 3) := by decide +kernel
theorem dX6_isFull_4 : decode cX6_isFull 4 = .ok (.bipush 8, 2) := by decide +kernel
theorem dX6_isFull_6 : decode cX6_isFull 6 = .ok (.if_icmp .lt 7, 3) := by decide +kernel
theorem dX6_isFull_9 : decode cX6_isFull 9 = .ok (.iconst 1, 1) := by decide +kernel
theorem dX6_isFull_10 : decode cX6_isFull 10 = .ok (.goto 4, 3) := by decide +kernel
theorem dX6_isFull_13 : decode cX6_isFull 13 = .ok (.iconst 0, 1) := by decide +kernel
theorem dX6_isFull_14 : decode cX6_isFull 14 = .ok (.ireturn, 1) := by decide +kernel
theorem dX6_addUmbrella_0 : decode cX6_addUmbrella 0 = .ok (.aload_n 0, 1) := by decide +kernel
theorem dX6_addUmbrella_1 : decode cX6_addUmbrella 1 = .ok (.getfield 24, 3) := by decide +kernel
theorem dX6_addUmbrella_4 : decode cX6_addUmbrella 4 = .ok (.istore_n 2, 1) := by decide +kernel
theorem dX6_addUmbrella_5 : decode cX6_addUmbrella 5 = .ok (.iload_n 2, 1) := by decide +kernel
theorem dX6_addUmbrella_6 : decode cX6_addUmbrella 6 = .ok (.bipush 8, 2) := by decide +kernel
theorem dX6_addUmbrella_8 : decode cX6_addUmbrella 8 = .ok (.if_icmp .ge 20, 3) := by decide +kernel
theorem dX6_addUmbrella_11 : decode cX6_addUmbrella 11 = .ok (.aload_n 0, 1) := by decide +kernel
theorem dX6_addUmbrella_12 : decode cX6_addUmbrella 12 = .ok (.getfield 20, 3) := by decide +kernel
theorem dX6_addUmbrella_15 : decode cX6_addUmbrella 15 = .ok (.iload_n 2, 1) := by decide +kernel
theorem dX6_addUmbrella_16 : decode cX6_addUmbrella 16 = .ok (.aaload, 1) := by decide +kernel
theorem dX6_addUmbrella_17 : decode cX6_addUmbrella 17 = .ok (.iload_n 1, 1) := by decide +kernel
theorem dX6_addUmbrella_18 : decode cX6_addUmbrella 18 = .ok (.invokevirtual 55, 3) := by decide +kernel
theorem dX6_addUmbrella_21 : decode cX6_addUmbrella 21 = .ok (.aload_n 0, 1) := by decide +kernel
theorem dX6_addUmbrella_22 : decode cX6_addUmbrella 22 = .ok (.iload_n 2, 1) := by decide +kernel
theorem dX6_addUmbrella_23 : decode cX6_addUmbrella 23 = .ok (.iconst 1, 1) := by decide +kernel
theorem dX6_addUmbrella_24 : decode cX6_addUmbrella 24 = .ok (.iadd, 1) := by decide +kernel
theorem dX6_addUmbrella_25 : decode cX6_addUmbrella 25 = .ok (.putfield 24, 3) := by decide +kernel
theorem dX6_addUmbrella_28 : decode cX6_addUmbrella 28 = .ok (.iload_n 2, 1) := by decide +kernel
theorem dX6_addUmbrella_29 : decode cX6_addUmbrella 29 = .ok (.ireturn, 1) := by decide +kernel
theorem dX6_passTick_0 : decode cX6_passTick 0 = .ok (.iconst 0, 1) := by decide +kernel
theorem dX6_passTick_1 : decode cX6_passTick 1 = .ok (.istore_n 1, 1) := by decide +kernel
theorem dX6_passTick_2 : decode cX6_passTick 2 = .ok (.iconst 0, 1) := by decide +kernel
theorem dX6_passTick_3 : decode cX6_passTick 3 = .ok (.istore_n 2, 1) := by decide +kernel
theorem dX6_passTick_4 : decode cX6_passTick 4 = .ok (.iload_n 2, 1) := by decide +kernel
theorem dX6_passTick_5 : decode cX6_passTick 5 = .ok (.aload_n 0, 1) := by decide +kernel
theorem dX6_passTick_6 : decode cX6_passTick 6 = .ok (.getfield 24, 3) := by decide +kernel
theorem dX6_passTick_9 : decode cX6_passTick 9 = .ok (.if_icmp .ge 28, 3) := by decide +kernel
theorem dX6_passTick_12 : decode cX6_passTick 12 = .ok (.aload_n 0, 1) := by decide +kernel
theorem dX6_passTick_13 : decode cX6_passTick 13 = .ok (.getfield 20, 3) := by decide +kernel
theorem dX6_passTick_16 : decode cX6_passTick 16 = .ok (.iload_n 2, 1) := by decide +kernel
theorem dX6_passTick_17 : decode cX6_passTick 17 = .ok (.aaload, 1) := by decide +kernel
theorem dX6_passTick_18 : decode cX6_passTick 18 = .ok (.aload_n 0, 1) := by decide +kernel
theorem dX6_passTick_19 : decode cX6_passTick 19 = .ok (.getfield 12, 3) := by decide +kernel
theorem dX6_passTick_22 : decode cX6_passTick 22 = .ok (.invokevirtual 59, 3) := by decide +kernel
theorem dX6_passTick_25 : decode cX6_passTick 25 = .ok (.ifCond .eq 6, 3) := by decide +kernel
theorem dX6_passTick_28 : decode cX6_passTick 28 = .ok (.iinc 1 1, 3) := by decide +kernel
theorem dX6_passTick_31 : decode cX6_passTick 31 = .ok (.iinc 2 1, 3) := by decide +kernel
theorem dX6_passTick_34 : decode cX6_passTick 34 = .ok (.goto (-30), 3) := by decide +kernel
theorem dX6_passTick_37 : decode cX6_passTick 37 = .ok (.aload_n 0, 1) := by decide +kernel
theorem dX6_passTick_38 : decode cX6_passTick 38 = .ok (.getfield 12, 3) := by decide +kernel
theorem dX6_passTick_41 : decode cX6_passTick 41 = .ok (.iconst 1, 1) := by decide +kernel
theorem dX6_passTick_42 : decode cX6_passTick 42 = .ok (.invokevirtual 63, 3) := by decide +kernel
theorem dX6_passTick_45 : decode cX6_passTick 45 = .ok (.iload_n 1, 1) := by decide +kernel
theorem dX6_passTick_46 : decode cX6_passTick 46 = .ok (.ireturn, 1) := by decide +kernel
theorem dX6_draw_0 : decode cX6_draw 0 = .ok (.aload_n 0, 1) := by decide +kernel
theorem dX6_draw_1 : decode cX6_draw 1 = .ok (.aload_n 0, 1) := by decide +kernel
theorem dX6_draw_2 : decode cX6_draw 2 = .ok (.getfield 32, 3) := by decide +kernel
theorem dX6_draw_5 : decode cX6_draw 5 = .ok (.ldc 66, 2) := by decide +kernel
theorem dX6_draw_7 : decode cX6_draw 7 = .ok (.imul, 1) := by decide +kernel
theorem dX6_draw_8 : decode cX6_draw 8 = .ok (.sipush 12345, 3) := by decide +kernel
theorem dX6_draw_11 : decode cX6_draw 11 = .ok (.iadd, 1) := by decide +kernel
theorem dX6_draw_12 : decode cX6_draw 12 = .ok (.putfield 32, 3) := by decide +kernel
theorem dX6_draw_15 : decode cX6_draw 15 = .ok (.aload_n 0, 1) := by decide +kernel
theorem dX6_draw_16 : decode cX6_draw 16 = .ok (.getfield 32, 3) := by decide +kernel
theorem dX6_draw_19 : decode cX6_draw 19 = .ok (.bipush 8, 2) := by decide +kernel
theorem dX6_draw_21 : decode cX6_draw 21 = .ok (.iushr, 1) := by decide +kernel
theorem dX6_draw_22 : decode cX6_draw 22 = .ok (.ireturn, 1) := by decide +kernel
theorem dX6_setOf_0 : decode cX6_setOf 0 = .ok (.iconst 0, 1) := by decide +kernel
theorem dX6_setOf_1 : decode cX6_setOf 1 = .ok (.istore_n 3, 1) := by decide +kernel
theorem dX6_setOf_2 : decode cX6_setOf 2 = .ok (.iconst 0, 1) := by decide +kernel
theorem dX6_setOf_3 : decode cX6_setOf 3 = .ok (.istore 4, 2) := by decide +kernel
theorem dX6_setOf_5 : decode cX6_setOf 5 = .ok (.iload 4, 2) := by decide +kernel
theorem dX6_setOf_7 : decode cX6_setOf 7 = .ok (.aload_n 0, 1) := by decide +kernel
theorem dX6_setOf_8 : decode cX6_setOf 8 = .ok (.getfield 24, 3) := by decide +kernel
theorem dX6_setOf_11 : decode cX6_setOf 11 = .ok (.if_icmp .ge 31, 3) := by decide +kernel
theorem dX6_setOf_14 : decode cX6_setOf 14 = .ok (.aload_n 0, 1) := by decide +kernel
theorem dX6_setOf_15 : decode cX6_setOf 15 = .ok (.getfield 20, 3) := by decide +kernel
theorem dX6_setOf_18 : decode cX6_setOf 18 = .ok (.iload 4, 2) := by decide +kernel
theorem dX6_setOf_20 : decode cX6_setOf 20 = .ok (.aaload, 1) := by decide +kernel
theorem dX6_setOf_21 : decode cX6_setOf 21 = .ok (.iload_n 1, 1) := by decide +kernel
theorem dX6_setOf_22 : decode cX6_setOf 22 = .ok (.invokevirtual 67, 3) := by decide +kernel
theorem dX6_setOf_25 : decode cX6_setOf 25 = .ok (.iload_n 2, 1) := by decide +kernel
theorem dX6_setOf_26 : decode cX6_setOf 26 = .ok (.if_icmp .ne 10, 3) := by decide +kernel
theorem dX6_setOf_29 : decode cX6_setOf 29 = .ok (.iload_n 3, 1) := by decide +kernel
theorem dX6_setOf_30 : decode cX6_setOf 30 = .ok (.iconst 1, 1) := by decide +kernel
theorem dX6_setOf_31 : decode cX6_setOf 31 = .ok (.iload 4, 2) := by decide +kernel
theorem dX6_setOf_33 : decode cX6_setOf 33 = .ok (.ishl, 1) := by decide +kernel
theorem dX6_setOf_34 : decode cX6_setOf 34 = .ok (.ior, 1) := by decide +kernel
theorem dX6_setOf_35 : decode cX6_setOf 35 = .ok (.istore_n 3, 1) := by decide +kernel
theorem dX6_setOf_36 : decode cX6_setOf 36 = .ok (.iinc 4 1, 3) := by decide +kernel
theorem dX6_setOf_39 : decode cX6_setOf 39 = .ok (.goto (-34), 3) := by decide +kernel
theorem dX6_setOf_42 : decode cX6_setOf 42 = .ok (.iload_n 3, 1) := by decide +kernel
theorem dX6_setOf_43 : decode cX6_setOf 43 = .ok (.ireturn, 1) := by decide +kernel
theorem dX6_sumOf_0 : decode cX6_sumOf 0 = .ok (.iconst 0, 1) := by decide +kernel
theorem dX6_sumOf_1 : decode cX6_sumOf 1 = .ok (.istore_n 2, 1) := by decide +kernel
theorem dX6_sumOf_2 : decode cX6_sumOf 2 = .ok (.iconst 0, 1) := by decide +kernel
theorem dX6_sumOf_3 : decode cX6_sumOf 3 = .ok (.istore_n 3, 1) := by decide +kernel
theorem dX6_sumOf_4 : decode cX6_sumOf 4 = .ok (.iload_n 3, 1) := by decide +kernel
theorem dX6_sumOf_5 : decode cX6_sumOf 5 = .ok (.aload_n 0, 1) := by decide +kernel
theorem dX6_sumOf_6 : decode cX6_sumOf 6 = .ok (.getfield 24, 3) := by decide +kernel
theorem dX6_sumOf_9 : decode cX6_sumOf 9 = .ok (.if_icmp .ge 22, 3) := by decide +kernel
theorem dX6_sumOf_12 : decode cX6_sumOf 12 = .ok (.iload_n 2, 1) := by decide +kernel
theorem dX6_sumOf_13 : decode cX6_sumOf 13 = .ok (.aload_n 0, 1) := by decide +kernel
theorem dX6_sumOf_14 : decode cX6_sumOf 14 = .ok (.getfield 20, 3) := by decide +kernel
theorem dX6_sumOf_17 : decode cX6_sumOf 17 = .ok (.iload_n 3, 1) := by decide +kernel
theorem dX6_sumOf_18 : decode cX6_sumOf 18 = .ok (.aaload, 1) := by decide +kernel
theorem dX6_sumOf_19 : decode cX6_sumOf 19 = .ok (.iload_n 1, 1) := by decide +kernel
theorem dX6_sumOf_20 : decode cX6_sumOf 20 = .ok (.invokevirtual 67, 3) := by decide +kernel
theorem dX6_sumOf_23 : decode cX6_sumOf 23 = .ok (.iadd, 1) := by decide +kernel
theorem dX6_sumOf_24 : decode cX6_sumOf 24 = .ok (.istore_n 2, 1) := by decide +kernel
theorem dX6_sumOf_25 : decode cX6_sumOf 25 = .ok (.iinc 3 1, 3) := by decide +kernel
theorem dX6_sumOf_28 : decode cX6_sumOf 28 = .ok (.goto (-24), 3) := by decide +kernel
theorem dX6_sumOf_31 : decode cX6_sumOf 31 = .ok (.iload_n 2, 1) := by decide +kernel
theorem dX6_sumOf_32 : decode cX6_sumOf 32 = .ok (.ireturn, 1) := by decide +kernel
theorem dX6_spotsHolding_0 : decode cX6_spotsHolding 0 = .ok (.iconst 0, 1) := by decide +kernel
theorem dX6_spotsHolding_1 : decode cX6_spotsHolding 1 = .ok (.istore_n 1, 1) := by decide +kernel
theorem dX6_spotsHolding_2 : decode cX6_spotsHolding 2 = .ok (.iconst 0, 1) := by decide +kernel
theorem dX6_spotsHolding_3 : decode cX6_spotsHolding 3 = .ok (.istore_n 2, 1) := by decide +kernel
theorem dX6_spotsHolding_4 : decode cX6_spotsHolding 4 = .ok (.iload_n 2, 1) := by decide +kernel
theorem dX6_spotsHolding_5 : decode cX6_spotsHolding 5 = .ok (.bipush 10, 2) := by decide +kernel
theorem dX6_spotsHolding_7 : decode cX6_spotsHolding 7 = .ok (.if_icmp .ge 22, 3) := by decide +kernel
theorem dX6_spotsHolding_10 : decode cX6_spotsHolding 10 = .ok (.aload_n 0, 1) := by decide +kernel
theorem dX6_spotsHolding_11 : decode cX6_spotsHolding 11 = .ok (.getfield 28, 3) := by decide +kernel
theorem dX6_spotsHolding_14 : decode cX6_spotsHolding 14 = .ok (.iload_n 2, 1) := by decide +kernel
theorem dX6_spotsHolding_15 : decode cX6_spotsHolding 15 = .ok (.iaload, 1) := by decide +kernel
theorem dX6_spotsHolding_16 : decode cX6_spotsHolding 16 = .ok (.iconst (-1), 1) := by decide +kernel
theorem dX6_spotsHolding_17 : decode cX6_spotsHolding 17 = .ok (.if_icmp .eq 6, 3) := by decide +kernel
theorem dX6_spotsHolding_20 : decode cX6_spotsHolding 20 = .ok (.iinc 1 1, 3) := by decide +kernel
theorem dX6_spotsHolding_23 : decode cX6_spotsHolding 23 = .ok (.iinc 2 1, 3) := by decide +kernel
theorem dX6_spotsHolding_26 : decode cX6_spotsHolding 26 = .ok (.goto (-22), 3) := by decide +kernel
theorem dX6_spotsHolding_29 : decode cX6_spotsHolding 29 = .ok (.iload_n 1, 1) := by decide +kernel
theorem dX6_spotsHolding_30 : decode cX6_spotsHolding 30 = .ok (.ireturn, 1) := by decide +kernel
theorem dJ6_bitCount_0f7a4_0 : decode cJ6_bitCount_0f7a4 0 = .ok (.iload_n 0, 1) := by decide +kernel
theorem dJ6_bitCount_0f7a4_1 : decode cJ6_bitCount_0f7a4 1 = .ok (.iload_n 0, 1) := by decide +kernel
theorem dJ6_bitCount_0f7a4_2 : decode cJ6_bitCount_0f7a4 2 = .ok (.iconst 1, 1) := by decide +kernel
theorem dJ6_bitCount_0f7a4_3 : decode cJ6_bitCount_0f7a4 3 = .ok (.iushr, 1) := by decide +kernel
theorem dJ6_bitCount_0f7a4_4 : decode cJ6_bitCount_0f7a4 4 = .ok (.ldc_w 265, 3) := by decide +kernel
theorem dJ6_bitCount_0f7a4_7 : decode cJ6_bitCount_0f7a4 7 = .ok (.iand, 1) := by decide +kernel
theorem dJ6_bitCount_0f7a4_8 : decode cJ6_bitCount_0f7a4 8 = .ok (.isub, 1) := by decide +kernel
theorem dJ6_bitCount_0f7a4_9 : decode cJ6_bitCount_0f7a4 9 = .ok (.istore_n 0, 1) := by decide +kernel
theorem dJ6_bitCount_0f7a4_10 : decode cJ6_bitCount_0f7a4 10 = .ok (.iload_n 0, 1) := by decide +kernel
theorem dJ6_bitCount_0f7a4_11 : decode cJ6_bitCount_0f7a4 11 = .ok (.ldc_w 266, 3) := by decide +kernel
theorem dJ6_bitCount_0f7a4_14 : decode cJ6_bitCount_0f7a4 14 = .ok (.iand, 1) := by decide +kernel
theorem dJ6_bitCount_0f7a4_15 : decode cJ6_bitCount_0f7a4 15 = .ok (.iload_n 0, 1) := by decide +kernel
theorem dJ6_bitCount_0f7a4_16 : decode cJ6_bitCount_0f7a4 16 = .ok (.iconst 2, 1) := by decide +kernel
theorem dJ6_bitCount_0f7a4_17 : decode cJ6_bitCount_0f7a4 17 = .ok (.iushr, 1) := by decide +kernel
theorem dJ6_bitCount_0f7a4_18 : decode cJ6_bitCount_0f7a4 18 = .ok (.ldc_w 266, 3) := by decide +kernel
theorem dJ6_bitCount_0f7a4_21 : decode cJ6_bitCount_0f7a4 21 = .ok (.iand, 1) := by decide +kernel
theorem dJ6_bitCount_0f7a4_22 : decode cJ6_bitCount_0f7a4 22 = .ok (.iadd, 1) := by decide +kernel
theorem dJ6_bitCount_0f7a4_23 : decode cJ6_bitCount_0f7a4 23 = .ok (.istore_n 0, 1) := by decide +kernel
theorem dJ6_bitCount_0f7a4_24 : decode cJ6_bitCount_0f7a4 24 = .ok (.iload_n 0, 1) := by decide +kernel
theorem dJ6_bitCount_0f7a4_25 : decode cJ6_bitCount_0f7a4 25 = .ok (.iload_n 0, 1) := by decide +kernel
theorem dJ6_bitCount_0f7a4_26 : decode cJ6_bitCount_0f7a4 26 = .ok (.iconst 4, 1) := by decide +kernel
theorem dJ6_bitCount_0f7a4_27 : decode cJ6_bitCount_0f7a4 27 = .ok (.iushr, 1) := by decide +kernel
theorem dJ6_bitCount_0f7a4_28 : decode cJ6_bitCount_0f7a4 28 = .ok (.iadd, 1) := by decide +kernel
theorem dJ6_bitCount_0f7a4_29 : decode cJ6_bitCount_0f7a4 29 = .ok (.ldc_w 267, 3) := by decide +kernel
theorem dJ6_bitCount_0f7a4_32 : decode cJ6_bitCount_0f7a4 32 = .ok (.iand, 1) := by decide +kernel
theorem dJ6_bitCount_0f7a4_33 : decode cJ6_bitCount_0f7a4 33 = .ok (.istore_n 0, 1) := by decide +kernel
theorem dJ6_bitCount_0f7a4_34 : decode cJ6_bitCount_0f7a4 34 = .ok (.iload_n 0, 1) := by decide +kernel
theorem dJ6_bitCount_0f7a4_35 : decode cJ6_bitCount_0f7a4 35 = .ok (.iload_n 0, 1) := by decide +kernel
theorem dJ6_bitCount_0f7a4_36 : decode cJ6_bitCount_0f7a4 36 = .ok (.bipush 8, 2) := by decide +kernel
theorem dJ6_bitCount_0f7a4_38 : decode cJ6_bitCount_0f7a4 38 = .ok (.iushr, 1) := by decide +kernel
theorem dJ6_bitCount_0f7a4_39 : decode cJ6_bitCount_0f7a4 39 = .ok (.iadd, 1) := by decide +kernel
theorem dJ6_bitCount_0f7a4_40 : decode cJ6_bitCount_0f7a4 40 = .ok (.istore_n 0, 1) := by decide +kernel
theorem dJ6_bitCount_0f7a4_41 : decode cJ6_bitCount_0f7a4 41 = .ok (.iload_n 0, 1) := by decide +kernel
theorem dJ6_bitCount_0f7a4_42 : decode cJ6_bitCount_0f7a4 42 = .ok (.iload_n 0, 1) := by decide +kernel
theorem dJ6_bitCount_0f7a4_43 : decode cJ6_bitCount_0f7a4 43 = .ok (.bipush 16, 2) := by decide +kernel
theorem dJ6_bitCount_0f7a4_45 : decode cJ6_bitCount_0f7a4 45 = .ok (.iushr, 1) := by decide +kernel
theorem dJ6_bitCount_0f7a4_46 : decode cJ6_bitCount_0f7a4 46 = .ok (.iadd, 1) := by decide +kernel
theorem dJ6_bitCount_0f7a4_47 : decode cJ6_bitCount_0f7a4 47 = .ok (.istore_n 0, 1) := by decide +kernel
theorem dJ6_bitCount_0f7a4_48 : decode cJ6_bitCount_0f7a4 48 = .ok (.iload_n 0, 1) := by decide +kernel
theorem dJ6_bitCount_0f7a4_49 : decode cJ6_bitCount_0f7a4 49 = .ok (.bipush 63, 2) := by decide +kernel
theorem dJ6_bitCount_0f7a4_51 : decode cJ6_bitCount_0f7a4 51 = .ok (.iand, 1) := by decide +kernel
theorem dJ6_bitCount_0f7a4_52 : decode cJ6_bitCount_0f7a4 52 = .ok (.ireturn, 1) := by decide +kernel
theorem dJ9_max_7cf53_0 : decode cJ9_max_7cf53 0 = .ok (.iload_n 0, 1) := by decide +kernel
theorem dJ9_max_7cf53_1 : decode cJ9_max_7cf53 1 = .ok (.iload_n 1, 1) := by decide +kernel
theorem dJ9_max_7cf53_2 : decode cJ9_max_7cf53 2 = .ok (.if_icmp .lt 7, 3) := by decide +kernel
theorem dJ9_max_7cf53_5 : decode cJ9_max_7cf53 5 = .ok (.iload_n 0, 1) := by decide +kernel
theorem dJ9_max_7cf53_6 : decode cJ9_max_7cf53 6 = .ok (.goto 4, 3) := by decide +kernel
theorem dJ9_max_7cf53_9 : decode cJ9_max_7cf53 9 = .ok (.iload_n 1, 1) := by decide +kernel
theorem dJ9_max_7cf53_10 : decode cJ9_max_7cf53 10 = .ok (.ireturn, 1) := by decide +kernel
theorem dJ9_min_7cf53_0 : decode cJ9_min_7cf53 0 = .ok (.iload_n 0, 1) := by decide +kernel
theorem dJ9_min_7cf53_1 : decode cJ9_min_7cf53 1 = .ok (.iload_n 1, 1) := by decide +kernel
theorem dJ9_min_7cf53_2 : decode cJ9_min_7cf53 2 = .ok (.if_icmp .gt 7, 3) := by decide +kernel
theorem dJ9_min_7cf53_5 : decode cJ9_min_7cf53 5 = .ok (.iload_n 0, 1) := by decide +kernel
theorem dJ9_min_7cf53_6 : decode cJ9_min_7cf53 6 = .ok (.goto 4, 3) := by decide +kernel
theorem dJ9_min_7cf53_9 : decode cJ9_min_7cf53 9 = .ok (.iload_n 1, 1) := by decide +kernel
theorem dJ9_min_7cf53_10 : decode cJ9_min_7cf53 10 = .ok (.ireturn, 1) := by decide +kernel
theorem dJ0_length_8abf5_0 : decode cJ0_length_8abf5 0 = .ok (.aload_n 0, 1) := by decide +kernel
theorem dJ0_length_8abf5_1 : decode cJ0_length_8abf5 1 = .ok (.getfield 9, 3) := by decide +kernel
theorem dJ0_length_8abf5_4 : decode cJ0_length_8abf5 4 = .ok (.arraylength, 1) := by decide +kernel
theorem dJ0_length_8abf5_5 : decode cJ0_length_8abf5 5 = .ok (.aload_n 0, 1) := by decide +kernel
theorem dJ0_length_8abf5_6 : decode cJ0_length_8abf5 6 = .ok (.invokevirtual 335, 3) := by decide +kernel
theorem dJ0_length_8abf5_9 : decode cJ0_length_8abf5 9 = .ok (.ishr, 1) := by decide +kernel
theorem dJ0_length_8abf5_10 : decode cJ0_length_8abf5 10 = .ok (.ireturn, 1) := by decide +kernel
theorem dJ0_charAt_5068e_0 : decode cJ0_charAt_5068e 0 = .ok (.aload_n 0, 1) := by decide +kernel
theorem dJ0_charAt_5068e_1 : decode cJ0_charAt_5068e 1 = .ok (.invokevirtual 492, 3) := by decide +kernel
theorem dJ0_charAt_5068e_4 : decode cJ0_charAt_5068e 4 = .ok (.ifCond .eq 12, 3) := by decide +kernel
theorem dJ0_charAt_5068e_7 : decode cJ0_charAt_5068e 7 = .ok (.aload_n 0, 1) := by decide +kernel
theorem dJ0_charAt_5068e_8 : decode cJ0_charAt_5068e 8 = .ok (.getfield 9, 3) := by decide +kernel
theorem dJ0_charAt_5068e_11 : decode cJ0_charAt_5068e 11 = .ok (.iload_n 1, 1) := by decide +kernel
theorem dJ0_charAt_5068e_12 : decode cJ0_charAt_5068e 12 = .ok (.invokestatic 495, 3) := by decide +kernel
theorem dJ0_charAt_5068e_15 : decode cJ0_charAt_5068e 15 = .ok (.ireturn, 1) := by decide +kernel
theorem dJ0_charAt_5068e_16 : decode cJ0_charAt_5068e 16 = .ok (.aload_n 0, 1) := by decide +kernel
theorem dJ0_charAt_5068e_17 : decode cJ0_charAt_5068e 17 = .ok (.getfield 9, 3) := by decide +kernel
theorem dJ0_charAt_5068e_20 : decode cJ0_charAt_5068e 20 = .ok (.iload_n 1, 1) := by decide +kernel
theorem dJ0_charAt_5068e_21 : decode cJ0_charAt_5068e 21 = .ok (.invokestatic 498, 3) := by decide +kernel
theorem dJ0_charAt_5068e_24 : decode cJ0_charAt_5068e 24 = .ok (.ireturn, 1) := by decide +kernel
theorem dJ0_coder_7d493_0 : decode cJ0_coder_7d493 0 = .ok (.getstatic 38, 3) := by decide +kernel
theorem dJ0_coder_7d493_3 : decode cJ0_coder_7d493 3 = .ok (.ifCond .eq 10, 3) := by decide +kernel
theorem dJ0_coder_7d493_6 : decode cJ0_coder_7d493 6 = .ok (.aload_n 0, 1) := by decide +kernel
theorem dJ0_coder_7d493_7 : decode cJ0_coder_7d493 7 = .ok (.getfield 15, 3) := by decide +kernel
theorem dJ0_coder_7d493_10 : decode cJ0_coder_7d493 10 = .ok (.goto 4, 3) := by decide +kernel
theorem dJ0_coder_7d493_13 : decode cJ0_coder_7d493 13 = .ok (.iconst 1, 1) := by decide +kernel
theorem dJ0_coder_7d493_14 : decode cJ0_coder_7d493 14 = .ok (.ireturn, 1) := by decide +kernel
theorem dJ0_isLatin1_aae02_0 : decode cJ0_isLatin1_aae02 0 = .ok (.getstatic 38, 3) := by decide +kernel
theorem dJ0_isLatin1_aae02_3 : decode cJ0_isLatin1_aae02 3 = .ok (.ifCond .eq 14, 3) := by decide +kernel
theorem dJ0_isLatin1_aae02_6 : decode cJ0_isLatin1_aae02 6 = .ok (.aload_n 0, 1) := by decide +kernel
theorem dJ0_isLatin1_aae02_7 : decode cJ0_isLatin1_aae02 7 = .ok (.getfield 15, 3) := by decide +kernel
theorem dJ0_isLatin1_aae02_10 : decode cJ0_isLatin1_aae02 10 = .ok (.ifCond .ne 7, 3) := by decide +kernel
theorem dJ0_isLatin1_aae02_13 : decode cJ0_isLatin1_aae02 13 = .ok (.iconst 1, 1) := by decide +kernel
theorem dJ0_isLatin1_aae02_14 : decode cJ0_isLatin1_aae02 14 = .ok (.goto 4, 3) := by decide +kernel
theorem dJ0_isLatin1_aae02_17 : decode cJ0_isLatin1_aae02 17 = .ok (.iconst 0, 1) := by decide +kernel
theorem dJ0_isLatin1_aae02_18 : decode cJ0_isLatin1_aae02 18 = .ok (.ireturn, 1) := by decide +kernel
theorem dJ0_checkIndex_df160_0 : decode cJ0_checkIndex_df160 0 = .ok (.iload_n 0, 1) := by decide +kernel
theorem dJ0_checkIndex_df160_1 : decode cJ0_checkIndex_df160 1 = .ok (.iload_n 1, 1) := by decide +kernel
theorem dJ0_checkIndex_df160_2 : decode cJ0_checkIndex_df160 2 = .ok (.getstatic 1053, 3) := by decide +kernel
theorem dJ0_checkIndex_df160_5 : decode cJ0_checkIndex_df160 5 = .ok (.invokestatic 1059, 3) := by decide +kernel
theorem dJ0_checkIndex_df160_8 : decode cJ0_checkIndex_df160 8 = .ok (.pop, 1) := by decide +kernel
theorem dJ0_checkIndex_df160_9 : decode cJ0_checkIndex_df160 9 = .ok (.return_, 1) := by decide +kernel
theorem dJ1_charAt_3b067_0 : decode cJ1_charAt_3b067 0 = .ok (.iload_n 1, 1) := by decide +kernel
theorem dJ1_charAt_3b067_1 : decode cJ1_charAt_3b067 1 = .ok (.aload_n 0, 1) := by decide +kernel
theorem dJ1_charAt_3b067_2 : decode cJ1_charAt_3b067 2 = .ok (.arraylength, 1) := by decide +kernel
theorem dJ1_charAt_3b067_3 : decode cJ1_charAt_3b067 3 = .ok (.invokestatic 9, 3) := by decide +kernel
theorem dJ1_charAt_3b067_6 : decode cJ1_charAt_3b067 6 = .ok (.aload_n 0, 1) := by decide +kernel
theorem dJ1_charAt_3b067_7 : decode cJ1_charAt_3b067 7 = .ok (.iload_n 1, 1) := by decide +kernel
theorem dJ1_charAt_3b067_8 : decode cJ1_charAt_3b067 8 = .ok (.baload, 1) := by decide +kernel
theorem dJ1_charAt_3b067_9 : decode cJ1_charAt_3b067 9 = .ok (.sipush 255, 3) := by decide +kernel
theorem dJ1_charAt_3b067_12 : decode cJ1_charAt_3b067 12 = .ok (.iand, 1) := by decide +kernel
theorem dJ1_charAt_3b067_13 : decode cJ1_charAt_3b067 13 = .ok (.i2c, 1) := by decide +kernel
theorem dJ1_charAt_3b067_14 : decode cJ1_charAt_3b067 14 = .ok (.ireturn, 1) := by decide +kernel
theorem dJ2_getChar_3b067_0 : decode cJ2_getChar_3b067 0 = .ok (.getstatic 44, 3) := by decide +kernel
theorem dJ2_getChar_3b067_3 : decode cJ2_getChar_3b067 3 = .ok (.ifCond .ne 25, 3) := by decide +kernel
theorem dJ2_getChar_3b067_6 : decode cJ2_getChar_3b067 6 = .ok (.iload_n 1, 1) := by decide +kernel
theorem dJ2_getChar_3b067_7 : decode cJ2_getChar_3b067 7 = .ok (.ifCond .lt 11, 3) := by decide +kernel
theorem dJ2_getChar_3b067_10 : decode cJ2_getChar_3b067 10 = .ok (.iload_n 1, 1) := by decide +kernel
theorem dJ2_getChar_3b067_11 : decode cJ2_getChar_3b067 11 = .ok (.aload_n 0, 1) := by decide +kernel
theorem dJ2_getChar_3b067_12 : decode cJ2_getChar_3b067 12 = .ok (.invokestatic 48, 3) := by decide +kernel
theorem dJ2_getChar_3b067_15 : decode cJ2_getChar_3b067 15 = .ok (.if_icmp .lt 13, 3) := by decide +kernel
theorem dJ2_getChar_3b067_18 : decode cJ2_getChar_3b067 18 = .ok (.new 52, 3) := by decide +kernel
theorem dJ2_getChar_3b067_21 : decode cJ2_getChar_3b067 21 = .ok (.dup, 1) := by decide +kernel
theorem dJ2_getChar_3b067_22 : decode cJ2_getChar_3b067 22 = .ok (.ldc 54, 2) := by decide +kernel
theorem dJ2_getChar_3b067_24 : decode cJ2_getChar_3b067 24 = .ok (.invokespecial 56, 3) := by decide +kernel
theorem dJ2_getChar_3b067_27 : decode cJ2_getChar_3b067 27 = .ok (.athrow, 1) := by decide +kernel
theorem dJ2_getChar_3b067_28 : decode cJ2_getChar_3b067 28 = .ok (.iload_n 1, 1) := by decide +kernel
theorem dJ2_getChar_3b067_29 : decode cJ2_getChar_3b067 29 = .ok (.iconst 1, 1) := by decide +kernel
theorem dJ2_getChar_3b067_30 : decode cJ2_getChar_3b067 30 = .ok (.ishl, 1) := by decide +kernel
theorem dJ2_getChar_3b067_31 : decode cJ2_getChar_3b067 31 = .ok (.istore_n 1, 1) := by decide +kernel
theorem dJ2_getChar_3b067_32 : decode cJ2_getChar_3b067 32 = .ok (.aload_n 0, 1) := by decide +kernel
theorem dJ2_getChar_3b067_33 : decode cJ2_getChar_3b067 33 = .ok (.iload_n 1, 1) := by decide +kernel
theorem dJ2_getChar_3b067_34 : decode cJ2_getChar_3b067 34 = .ok (.iinc 1 1, 3) := by decide +kernel
theorem dJ2_getChar_3b067_37 : decode cJ2_getChar_3b067 37 = .ok (.baload, 1) := by decide +kernel
theorem dJ2_getChar_3b067_38 : decode cJ2_getChar_3b067 38 = .ok (.sipush 255, 3) := by decide +kernel
theorem dJ2_getChar_3b067_41 : decode cJ2_getChar_3b067 41 = .ok (.iand, 1) := by decide +kernel
theorem dJ2_getChar_3b067_42 : decode cJ2_getChar_3b067 42 = .ok (.getstatic 59, 3) := by decide +kernel
theorem dJ2_getChar_3b067_45 : decode cJ2_getChar_3b067 45 = .ok (.ishl, 1) := by decide +kernel
theorem dJ2_getChar_3b067_46 : decode cJ2_getChar_3b067 46 = .ok (.aload_n 0, 1) := by decide +kernel
theorem dJ2_getChar_3b067_47 : decode cJ2_getChar_3b067 47 = .ok (.iload_n 1, 1) := by decide +kernel
theorem dJ2_getChar_3b067_48 : decode cJ2_getChar_3b067 48 = .ok (.baload, 1) := by decide +kernel
theorem dJ2_getChar_3b067_49 : decode cJ2_getChar_3b067 49 = .ok (.sipush 255, 3) := by decide +kernel
theorem dJ2_getChar_3b067_52 : decode cJ2_getChar_3b067 52 = .ok (.iand, 1) := by decide +kernel
theorem dJ2_getChar_3b067_53 : decode cJ2_getChar_3b067 53 = .ok (.getstatic 63, 3) := by decide +kernel
theorem dJ2_getChar_3b067_56 : decode cJ2_getChar_3b067 56 = .ok (.ishl, 1) := by decide +kernel
theorem dJ2_getChar_3b067_57 : decode cJ2_getChar_3b067 57 = .ok (.ior, 1) := by decide +kernel
theorem dJ2_getChar_3b067_58 : decode cJ2_getChar_3b067 58 = .ok (.i2c, 1) := by decide +kernel
theorem dJ2_getChar_3b067_59 : decode cJ2_getChar_3b067 59 = .ok (.ireturn, 1) := by decide +kernel
theorem dJ2_length_9d52b_0 : decode cJ2_length_9d52b 0 = .ok (.aload_n 0, 1) := by decide +kernel
theorem dJ2_length_9d52b_1 : decode cJ2_length_9d52b 1 = .ok (.arraylength, 1) := by decide +kernel
theorem dJ2_length_9d52b_2 : decode cJ2_length_9d52b 2 = .ok (.iconst 1, 1) := by decide +kernel
theorem dJ2_length_9d52b_3 : decode cJ2_length_9d52b 3 = .ok (.ishr, 1) := by decide +kernel
theorem dJ2_length_9d52b_4 : decode cJ2_length_9d52b 4 = .ok (.ireturn, 1) := by decide +kernel
theorem dJ2_charAt_3b067_0 : decode cJ2_charAt_3b067 0 = .ok (.iload_n 1, 1) := by decide +kernel
theorem dJ2_charAt_3b067_1 : decode cJ2_charAt_3b067 1 = .ok (.aload_n 0, 1) := by decide +kernel
theorem dJ2_charAt_3b067_2 : decode cJ2_charAt_3b067 2 = .ok (.invokestatic 67, 3) := by decide +kernel
theorem dJ2_charAt_3b067_5 : decode cJ2_charAt_3b067 5 = .ok (.aload_n 0, 1) := by decide +kernel
theorem dJ2_charAt_3b067_6 : decode cJ2_charAt_3b067 6 = .ok (.iload_n 1, 1) := by decide +kernel
theorem dJ2_charAt_3b067_7 : decode cJ2_charAt_3b067 7 = .ok (.invokestatic 71, 3) := by decide +kernel
theorem dJ2_charAt_3b067_10 : decode cJ2_charAt_3b067 10 = .ok (.ireturn, 1) := by decide +kernel
theorem dJ2_checkIndex_2214a_0 : decode cJ2_checkIndex_2214a 0 = .ok (.iload_n 0, 1) := by decide +kernel
theorem dJ2_checkIndex_2214a_1 : decode cJ2_checkIndex_2214a 1 = .ok (.aload_n 1, 1) := by decide +kernel
theorem dJ2_checkIndex_2214a_2 : decode cJ2_checkIndex_2214a 2 = .ok (.invokestatic 48, 3) := by decide +kernel
theorem dJ2_checkIndex_2214a_5 : decode cJ2_checkIndex_2214a 5 = .ok (.invokestatic 414, 3) := by decide +kernel
theorem dJ2_checkIndex_2214a_8 : decode cJ2_checkIndex_2214a 8 = .ok (.return_, 1) := by decide +kernel
theorem dJ7_fill_53178_0 : decode cJ7_fill_53178 0 = .ok (.iconst 0, 1) := by decide +kernel
theorem dJ7_fill_53178_1 : decode cJ7_fill_53178 1 = .ok (.istore_n 2, 1) := by decide +kernel
theorem dJ7_fill_53178_2 : decode cJ7_fill_53178 2 = .ok (.aload_n 0, 1) := by decide +kernel
theorem dJ7_fill_53178_3 : decode cJ7_fill_53178 3 = .ok (.arraylength, 1) := by decide +kernel
theorem dJ7_fill_53178_4 : decode cJ7_fill_53178 4 = .ok (.istore_n 3, 1) := by decide +kernel
theorem dJ7_fill_53178_5 : decode cJ7_fill_53178 5 = .ok (.iload_n 2, 1) := by decide +kernel
theorem dJ7_fill_53178_6 : decode cJ7_fill_53178 6 = .ok (.iload_n 3, 1) := by decide +kernel
theorem dJ7_fill_53178_7 : decode cJ7_fill_53178 7 = .ok (.if_icmp .ge 13, 3) := by decide +kernel
theorem dJ7_fill_53178_10 : decode cJ7_fill_53178 10 = .ok (.aload_n 0, 1) := by decide +kernel
theorem dJ7_fill_53178_11 : decode cJ7_fill_53178 11 = .ok (.iload_n 2, 1) := by decide +kernel
theorem dJ7_fill_53178_12 : decode cJ7_fill_53178 12 = .ok (.iload_n 1, 1) := by decide +kernel
theorem dJ7_fill_53178_13 : decode cJ7_fill_53178 13 = .ok (.iastore, 1) := by decide +kernel
theorem dJ7_fill_53178_14 : decode cJ7_fill_53178 14 = .ok (.iinc 2 1, 3) := by decide +kernel
theorem dJ7_fill_53178_17 : decode cJ7_fill_53178 17 = .ok (.goto (-12), 3) := by decide +kernel
theorem dJ7_fill_53178_20 : decode cJ7_fill_53178 20 = .ok (.return_, 1) := by decide +kernel
theorem dJ3_checkIndex_8e157_0 : decode cJ3_checkIndex_8e157 0 = .ok (.iload_n 0, 1) := by decide +kernel
theorem dJ3_checkIndex_8e157_1 : decode cJ3_checkIndex_8e157 1 = .ok (.ifCond .lt 8, 3) := by decide +kernel
theorem dJ3_checkIndex_8e157_4 : decode cJ3_checkIndex_8e157 4 = .ok (.iload_n 0, 1) := by decide +kernel
theorem dJ3_checkIndex_8e157_5 : decode cJ3_checkIndex_8e157 5 = .ok (.iload_n 1, 1) := by decide +kernel
theorem dJ3_checkIndex_8e157_6 : decode cJ3_checkIndex_8e157 6 = .ok (.if_icmp .lt 10, 3) := by decide +kernel
theorem dJ3_checkIndex_8e157_9 : decode cJ3_checkIndex_8e157 9 = .ok (.aload_n 2, 1) := by decide +kernel
theorem dJ3_checkIndex_8e157_10 : decode cJ3_checkIndex_8e157 10 = .ok (.iload_n 0, 1) := by decide +kernel
theorem dJ3_checkIndex_8e157_11 : decode cJ3_checkIndex_8e157 11 = .ok (.iload_n 1, 1) := by decide +kernel
theorem dJ3_checkIndex_8e157_12 : decode cJ3_checkIndex_8e157 12 = .ok (.invokestatic 95, 3) := by decide +kernel
theorem dJ3_checkIndex_8e157_15 : decode cJ3_checkIndex_8e157 15 = .ok (.athrow, 1) := by decide +kernel
theorem dJ3_checkIndex_8e157_16 : decode cJ3_checkIndex_8e157 16 = .ok (.iload_n 0, 1) := by decide +kernel
theorem dJ3_checkIndex_8e157_17 : decode cJ3_checkIndex_8e157 17 = .ok (.ireturn, 1) := by decide +kernel
end
