section
-- ===== PART A: goes FIRST, ahead of the names: the tables' words, and 'selects' of the private methods out of them =====
/-- a private method of a class that the tables say can be made, by its rows of tables_1 -/
def lw_okq (q : MethodName × Nat) : Prop := (q.1.cls ≠ "java/lang/invoke/MethodHandle" ∧ q.1.cls ≠ "java/lang/invoke/VarHandle") ∧ Cond.instantiable q.1.cls q.2 ∈ tables_1 ∧ Cond.privateMethod q.1 ∈ tables_1 ∧ Cond.instanceMethod q.1 ∈ tables_1
theorem lw_p0 : lw_okq (⟨"TypeLoom", "leaf", "(IIZ)I"⟩, 8) := ⟨⟨by decide +kernel, by decide +kernel⟩, List.mem_of_getElem? (i := 15) (by decide +kernel), List.mem_of_getElem? (i := 519) (by decide +kernel), List.mem_of_getElem? (i := 520) (by decide +kernel)⟩
theorem lw_p1 : lw_okq (⟨"TypeLoom$Unifier", "begin", "()V"⟩, 18) := ⟨⟨by decide +kernel, by decide +kernel⟩, List.mem_of_getElem? (i := 250) (by decide +kernel), List.mem_of_getElem? (i := 539) (by decide +kernel), List.mem_of_getElem? (i := 540) (by decide +kernel)⟩
theorem lw_p2 : lw_okq (⟨"TypeLoom$Unifier", "meet", "(II)Z"⟩, 18) := ⟨⟨by decide +kernel, by decide +kernel⟩, List.mem_of_getElem? (i := 250) (by decide +kernel), List.mem_of_getElem? (i := 543) (by decide +kernel), List.mem_of_getElem? (i := 544) (by decide +kernel)⟩
theorem lw_p3 : lw_okq (⟨"TypeLoom$Unifier", "bind", "(II)Z"⟩, 18) := ⟨⟨by decide +kernel, by decide +kernel⟩, List.mem_of_getElem? (i := 250) (by decide +kernel), List.mem_of_getElem? (i := 552) (by decide +kernel), List.mem_of_getElem? (i := 553) (by decide +kernel)⟩
theorem lw_p4 : lw_okq (⟨"TypeLoom$Unifier", "canBeIn", "(III)Z"⟩, 18) := ⟨⟨by decide +kernel, by decide +kernel⟩, List.mem_of_getElem? (i := 250) (by decide +kernel), List.mem_of_getElem? (i := 556) (by decide +kernel), List.mem_of_getElem? (i := 557) (by decide +kernel)⟩
theorem lw_p5 : lw_okq (⟨"TypeLoom$Unifier", "join", "(III)V"⟩, 18) := ⟨⟨by decide +kernel, by decide +kernel⟩, List.mem_of_getElem? (i := 250) (by decide +kernel), List.mem_of_getElem? (i := 560) (by decide +kernel), List.mem_of_getElem? (i := 561) (by decide +kernel)⟩
theorem lw_p6 : lw_okq (⟨"TypeLoom$Unifier", "change", "(IIII)V"⟩, 18) := ⟨⟨by decide +kernel, by decide +kernel⟩, List.mem_of_getElem? (i := 250) (by decide +kernel), List.mem_of_getElem? (i := 565) (by decide +kernel), List.mem_of_getElem? (i := 566) (by decide +kernel)⟩
theorem lw_p7 : lw_okq (⟨"TypeLoom$Unifier", "joinVariables", "(II)Z"⟩, 18) := ⟨⟨by decide +kernel, by decide +kernel⟩, List.mem_of_getElem? (i := 250) (by decide +kernel), List.mem_of_getElem? (i := 570) (by decide +kernel), List.mem_of_getElem? (i := 571) (by decide +kernel)⟩
theorem lw_p8 : lw_okq (⟨"TypeLoom$Unifier", "meetRows", "(II)Z"⟩, 18) := ⟨⟨by decide +kernel, by decide +kernel⟩, List.mem_of_getElem? (i := 250) (by decide +kernel), List.mem_of_getElem? (i := 574) (by decide +kernel), List.mem_of_getElem? (i := 575) (by decide +kernel)⟩
theorem lw_p9 : lw_okq (⟨"TypeLoom$Unifier", "copyMissing", "(II)I"⟩, 18) := ⟨⟨by decide +kernel, by decide +kernel⟩, List.mem_of_getElem? (i := 250) (by decide +kernel), List.mem_of_getElem? (i := 587) (by decide +kernel), List.mem_of_getElem? (i := 588) (by decide +kernel)⟩
theorem lw_p10 : lw_okq (⟨"TypeLoom$Unifier", "bindRow", "(IIII)V"⟩, 18) := ⟨⟨by decide +kernel, by decide +kernel⟩, List.mem_of_getElem? (i := 250) (by decide +kernel), List.mem_of_getElem? (i := 600) (by decide +kernel), List.mem_of_getElem? (i := 601) (by decide +kernel)⟩
theorem lw_p11 : lw_okq (⟨"TypeLoom$Unifier", "settle", "(I)Z"⟩, 18) := ⟨⟨by decide +kernel, by decide +kernel⟩, List.mem_of_getElem? (i := 250) (by decide +kernel), List.mem_of_getElem? (i := 605) (by decide +kernel), List.mem_of_getElem? (i := 606) (by decide +kernel)⟩
theorem lw_p12 : lw_okq (⟨"TypeLoom$Walk", "enter", "(II)I"⟩, 9) := ⟨⟨by decide +kernel, by decide +kernel⟩, List.mem_of_getElem? (i := 176) (by decide +kernel), List.mem_of_getElem? (i := 618) (by decide +kernel), List.mem_of_getElem? (i := 619) (by decide +kernel)⟩
theorem lw_p13 : lw_okq (⟨"TypeLoom$Unifier", "handDown", "(I)Z"⟩, 18) := ⟨⟨by decide +kernel, by decide +kernel⟩, List.mem_of_getElem? (i := 250) (by decide +kernel), List.mem_of_getElem? (i := 633) (by decide +kernel), List.mem_of_getElem? (i := 634) (by decide +kernel)⟩
theorem lw_p14 : lw_okq (⟨"TypeLoom$Unifier", "narrow", "(I)Z"⟩, 18) := ⟨⟨by decide +kernel, by decide +kernel⟩, List.mem_of_getElem? (i := 250) (by decide +kernel), List.mem_of_getElem? (i := 645) (by decide +kernel), List.mem_of_getElem? (i := 646) (by decide +kernel)⟩
theorem lw_p15 : lw_okq (⟨"TypeLoom$Unifier", "give", "(III)Z"⟩, 18) := ⟨⟨by decide +kernel, by decide +kernel⟩, List.mem_of_getElem? (i := 250) (by decide +kernel), List.mem_of_getElem? (i := 658) (by decide +kernel), List.mem_of_getElem? (i := 659) (by decide +kernel)⟩
def lw_privs_1 : List (MethodName × Nat) := [(⟨"TypeLoom", "leaf", "(IIZ)I"⟩, 8), (⟨"TypeLoom$Unifier", "begin", "()V"⟩, 18), (⟨"TypeLoom$Unifier", "meet", "(II)Z"⟩, 18), (⟨"TypeLoom$Unifier", "bind", "(II)Z"⟩, 18), (⟨"TypeLoom$Unifier", "canBeIn", "(III)Z"⟩, 18), (⟨"TypeLoom$Unifier", "join", "(III)V"⟩, 18), (⟨"TypeLoom$Unifier", "change", "(IIII)V"⟩, 18), (⟨"TypeLoom$Unifier", "joinVariables", "(II)Z"⟩, 18), (⟨"TypeLoom$Unifier", "meetRows", "(II)Z"⟩, 18), (⟨"TypeLoom$Unifier", "copyMissing", "(II)I"⟩, 18), (⟨"TypeLoom$Unifier", "bindRow", "(IIII)V"⟩, 18), (⟨"TypeLoom$Unifier", "settle", "(I)Z"⟩, 18), (⟨"TypeLoom$Walk", "enter", "(II)I"⟩, 9), (⟨"TypeLoom$Unifier", "handDown", "(I)Z"⟩, 18), (⟨"TypeLoom$Unifier", "narrow", "(I)Z"⟩, 18), (⟨"TypeLoom$Unifier", "give", "(III)Z"⟩, 18)]
theorem lw_r1 : ∀ q ∈ lw_privs_1, lw_okq q := List.forall_mem_cons.mpr ⟨lw_p0, List.forall_mem_cons.mpr ⟨lw_p1, List.forall_mem_cons.mpr ⟨lw_p2, List.forall_mem_cons.mpr ⟨lw_p3, List.forall_mem_cons.mpr ⟨lw_p4, List.forall_mem_cons.mpr ⟨lw_p5, List.forall_mem_cons.mpr ⟨lw_p6, List.forall_mem_cons.mpr ⟨lw_p7, List.forall_mem_cons.mpr ⟨lw_p8, List.forall_mem_cons.mpr ⟨lw_p9, List.forall_mem_cons.mpr ⟨lw_p10, List.forall_mem_cons.mpr ⟨lw_p11, List.forall_mem_cons.mpr ⟨lw_p12, List.forall_mem_cons.mpr ⟨lw_p13, List.forall_mem_cons.mpr ⟨lw_p14, List.forall_mem_cons.mpr ⟨lw_p15, fun _ h => absurd h List.not_mem_nil⟩⟩⟩⟩⟩⟩⟩⟩⟩⟩⟩⟩⟩⟩⟩⟩
theorem lw_p16 : lw_okq (⟨"TypeLoom$Unifier", "takeBack", "()V"⟩, 18) := ⟨⟨by decide +kernel, by decide +kernel⟩, List.mem_of_getElem? (i := 250) (by decide +kernel), List.mem_of_getElem? (i := 662) (by decide +kernel), List.mem_of_getElem? (i := 663) (by decide +kernel)⟩
theorem lw_p17 : lw_okq (⟨"TypeLoom$Shapes", "hash", "(I)I"⟩, 7) := ⟨⟨by decide +kernel, by decide +kernel⟩, List.mem_of_getElem? (i := 216) (by decide +kernel), List.mem_of_getElem? (i := 692) (by decide +kernel), List.mem_of_getElem? (i := 693) (by decide +kernel)⟩
theorem lw_p18 : lw_okq (⟨"TypeLoom$Shapes", "isLeaf", "(I)Z"⟩, 7) := ⟨⟨by decide +kernel, by decide +kernel⟩, List.mem_of_getElem? (i := 216) (by decide +kernel), List.mem_of_getElem? (i := 696) (by decide +kernel), List.mem_of_getElem? (i := 697) (by decide +kernel)⟩
theorem lw_p19 : lw_okq (⟨"TypeLoom$Shapes", "rankOf", "(II)I"⟩, 7) := ⟨⟨by decide +kernel, by decide +kernel⟩, List.mem_of_getElem? (i := 216) (by decide +kernel), List.mem_of_getElem? (i := 708) (by decide +kernel), List.mem_of_getElem? (i := 709) (by decide +kernel)⟩
theorem lw_p20 : lw_okq (⟨"TypeLoom$Shapes", "isLike", "(II)Z"⟩, 7) := ⟨⟨by decide +kernel, by decide +kernel⟩, List.mem_of_getElem? (i := 216) (by decide +kernel), List.mem_of_getElem? (i := 712) (by decide +kernel), List.mem_of_getElem? (i := 713) (by decide +kernel)⟩
theorem lw_p21 : lw_okq (⟨"TypeLoom$Walk", "isFree", "(I)Z"⟩, 9) := ⟨⟨by decide +kernel, by decide +kernel⟩, List.mem_of_getElem? (i := 176) (by decide +kernel), List.mem_of_getElem? (i := 727) (by decide +kernel), List.mem_of_getElem? (i := 728) (by decide +kernel)⟩
theorem lw_p22 : lw_okq (⟨"TypeLoom", "levelOf", "(I)I"⟩, 8) := ⟨⟨by decide +kernel, by decide +kernel⟩, List.mem_of_getElem? (i := 15) (by decide +kernel), List.mem_of_getElem? (i := 732) (by decide +kernel), List.mem_of_getElem? (i := 733) (by decide +kernel)⟩
theorem lw_p23 : lw_okq (⟨"TypeLoom$Schemes", "isBarred", "(II)Z"⟩, 18) := ⟨⟨by decide +kernel, by decide +kernel⟩, List.mem_of_getElem? (i := 313) (by decide +kernel), List.mem_of_getElem? (i := 752) (by decide +kernel), List.mem_of_getElem? (i := 753) (by decide +kernel)⟩
theorem lw_p24 : lw_okq (⟨"TypeLoom$Schemes", "write", "(II)V"⟩, 18) := ⟨⟨by decide +kernel, by decide +kernel⟩, List.mem_of_getElem? (i := 313) (by decide +kernel), List.mem_of_getElem? (i := 759) (by decide +kernel), List.mem_of_getElem? (i := 760) (by decide +kernel)⟩
theorem lw_p25 : lw_okq (⟨"TypeLoom$Schemes", "putType", "(III)V"⟩, 18) := ⟨⟨by decide +kernel, by decide +kernel⟩, List.mem_of_getElem? (i := 313) (by decide +kernel), List.mem_of_getElem? (i := 763) (by decide +kernel), List.mem_of_getElem? (i := 764) (by decide +kernel)⟩
theorem lw_p26 : lw_okq (⟨"TypeLoom$Schemes", "spawnOne", "(II)I"⟩, 18) := ⟨⟨by decide +kernel, by decide +kernel⟩, List.mem_of_getElem? (i := 313) (by decide +kernel), List.mem_of_getElem? (i := 790) (by decide +kernel), List.mem_of_getElem? (i := 791) (by decide +kernel)⟩
theorem lw_p27 : lw_okq (⟨"TypeLoom$Schemes", "matchOne", "(II)Z"⟩, 18) := ⟨⟨by decide +kernel, by decide +kernel⟩, List.mem_of_getElem? (i := 313) (by decide +kernel), List.mem_of_getElem? (i := 805) (by decide +kernel), List.mem_of_getElem? (i := 806) (by decide +kernel)⟩
theorem lw_p28 : lw_okq (⟨"TypeLoomModel", "isType", "(I)Z"⟩, 73) := ⟨⟨by decide +kernel, by decide +kernel⟩, List.mem_of_getElem? (i := 830) (by decide +kernel), List.mem_of_getElem? (i := 1072) (by decide +kernel), List.mem_of_getElem? (i := 1073) (by decide +kernel)⟩
theorem lw_p29 : lw_okq (⟨"TypeLoomModel", "areAll", "(Z)Z"⟩, 73) := ⟨⟨by decide +kernel, by decide +kernel⟩, List.mem_of_getElem? (i := 830) (by decide +kernel), List.mem_of_getElem? (i := 1080) (by decide +kernel), List.mem_of_getElem? (i := 1081) (by decide +kernel)⟩
theorem lw_p30 : lw_okq (⟨"TypeLoomModel", "make", "(II)I"⟩, 73) := ⟨⟨by decide +kernel, by decide +kernel⟩, List.mem_of_getElem? (i := 830) (by decide +kernel), List.mem_of_getElem? (i := 1084) (by decide +kernel), List.mem_of_getElem? (i := 1085) (by decide +kernel)⟩
theorem lw_p31 : lw_okq (⟨"TypeLoomModel", "addPart", "(III)V"⟩, 73) := ⟨⟨by decide +kernel, by decide +kernel⟩, List.mem_of_getElem? (i := 830) (by decide +kernel), List.mem_of_getElem? (i := 1088) (by decide +kernel), List.mem_of_getElem? (i := 1089) (by decide +kernel)⟩
def lw_privs_2 : List (MethodName × Nat) := [(⟨"TypeLoom$Unifier", "takeBack", "()V"⟩, 18), (⟨"TypeLoom$Shapes", "hash", "(I)I"⟩, 7), (⟨"TypeLoom$Shapes", "isLeaf", "(I)Z"⟩, 7), (⟨"TypeLoom$Shapes", "rankOf", "(II)I"⟩, 7), (⟨"TypeLoom$Shapes", "isLike", "(II)Z"⟩, 7), (⟨"TypeLoom$Walk", "isFree", "(I)Z"⟩, 9), (⟨"TypeLoom", "levelOf", "(I)I"⟩, 8), (⟨"TypeLoom$Schemes", "isBarred", "(II)Z"⟩, 18), (⟨"TypeLoom$Schemes", "write", "(II)V"⟩, 18), (⟨"TypeLoom$Schemes", "putType", "(III)V"⟩, 18), (⟨"TypeLoom$Schemes", "spawnOne", "(II)I"⟩, 18), (⟨"TypeLoom$Schemes", "matchOne", "(II)Z"⟩, 18), (⟨"TypeLoomModel", "isType", "(I)Z"⟩, 73), (⟨"TypeLoomModel", "areAll", "(Z)Z"⟩, 73), (⟨"TypeLoomModel", "make", "(II)I"⟩, 73), (⟨"TypeLoomModel", "addPart", "(III)V"⟩, 73)]
theorem lw_r2 : ∀ q ∈ lw_privs_2, lw_okq q := List.forall_mem_cons.mpr ⟨lw_p16, List.forall_mem_cons.mpr ⟨lw_p17, List.forall_mem_cons.mpr ⟨lw_p18, List.forall_mem_cons.mpr ⟨lw_p19, List.forall_mem_cons.mpr ⟨lw_p20, List.forall_mem_cons.mpr ⟨lw_p21, List.forall_mem_cons.mpr ⟨lw_p22, List.forall_mem_cons.mpr ⟨lw_p23, List.forall_mem_cons.mpr ⟨lw_p24, List.forall_mem_cons.mpr ⟨lw_p25, List.forall_mem_cons.mpr ⟨lw_p26, List.forall_mem_cons.mpr ⟨lw_p27, List.forall_mem_cons.mpr ⟨lw_p28, List.forall_mem_cons.mpr ⟨lw_p29, List.forall_mem_cons.mpr ⟨lw_p30, List.forall_mem_cons.mpr ⟨lw_p31, fun _ h => absurd h List.not_mem_nil⟩⟩⟩⟩⟩⟩⟩⟩⟩⟩⟩⟩⟩⟩⟩⟩
theorem lw_p32 : lw_okq (⟨"TypeLoomModel", "makeRow", "(IZ)I"⟩, 73) := ⟨⟨by decide +kernel, by decide +kernel⟩, List.mem_of_getElem? (i := 830) (by decide +kernel), List.mem_of_getElem? (i := 1096) (by decide +kernel), List.mem_of_getElem? (i := 1097) (by decide +kernel)⟩
theorem lw_p33 : lw_okq (⟨"TypeLoomModel", "equalOnes", "(I)I"⟩, 73) := ⟨⟨by decide +kernel, by decide +kernel⟩, List.mem_of_getElem? (i := 830) (by decide +kernel), List.mem_of_getElem? (i := 1108) (by decide +kernel), List.mem_of_getElem? (i := 1109) (by decide +kernel)⟩
theorem lw_p34 : lw_okq (⟨"TypeLoomModel", "save", "()V"⟩, 73) := ⟨⟨by decide +kernel, by decide +kernel⟩, List.mem_of_getElem? (i := 830) (by decide +kernel), List.mem_of_getElem? (i := 1124) (by decide +kernel), List.mem_of_getElem? (i := 1125) (by decide +kernel)⟩
theorem lw_p35 : lw_okq (⟨"TypeLoomModel", "equate", "(II)V"⟩, 73) := ⟨⟨by decide +kernel, by decide +kernel⟩, List.mem_of_getElem? (i := 830) (by decide +kernel), List.mem_of_getElem? (i := 1128) (by decide +kernel), List.mem_of_getElem? (i := 1129) (by decide +kernel)⟩
theorem lw_p36 : lw_okq (⟨"TypeLoomModel", "now", "(I)I"⟩, 73) := ⟨⟨by decide +kernel, by decide +kernel⟩, List.mem_of_getElem? (i := 830) (by decide +kernel), List.mem_of_getElem? (i := 1132) (by decide +kernel), List.mem_of_getElem? (i := 1133) (by decide +kernel)⟩
theorem lw_p37 : lw_okq (⟨"TypeLoomModel", "hold", "(II)Z"⟩, 73) := ⟨⟨by decide +kernel, by decide +kernel⟩, List.mem_of_getElem? (i := 830) (by decide +kernel), List.mem_of_getElem? (i := 1136) (by decide +kernel), List.mem_of_getElem? (i := 1137) (by decide +kernel)⟩
theorem lw_p38 : lw_okq (⟨"TypeLoomModel", "standForVariable", "(II)Z"⟩, 73) := ⟨⟨by decide +kernel, by decide +kernel⟩, List.mem_of_getElem? (i := 830) (by decide +kernel), List.mem_of_getElem? (i := 1140) (by decide +kernel), List.mem_of_getElem? (i := 1141) (by decide +kernel)⟩
theorem lw_p39 : lw_okq (⟨"TypeLoomModel", "standFor", "(II)Z"⟩, 73) := ⟨⟨by decide +kernel, by decide +kernel⟩, List.mem_of_getElem? (i := 830) (by decide +kernel), List.mem_of_getElem? (i := 1144) (by decide +kernel), List.mem_of_getElem? (i := 1145) (by decide +kernel)⟩
theorem lw_p40 : lw_okq (⟨"TypeLoomModel", "joined", "(I)I"⟩, 73) := ⟨⟨by decide +kernel, by decide +kernel⟩, List.mem_of_getElem? (i := 830) (by decide +kernel), List.mem_of_getElem? (i := 1148) (by decide +kernel), List.mem_of_getElem? (i := 1149) (by decide +kernel)⟩
theorem lw_p41 : lw_okq (⟨"TypeLoomModel", "equateRecords", "(II)Z"⟩, 73) := ⟨⟨by decide +kernel, by decide +kernel⟩, List.mem_of_getElem? (i := 830) (by decide +kernel), List.mem_of_getElem? (i := 1152) (by decide +kernel), List.mem_of_getElem? (i := 1153) (by decide +kernel)⟩
theorem lw_p42 : lw_okq (⟨"TypeLoomModel", "gather", "(IZ)I"⟩, 73) := ⟨⟨by decide +kernel, by decide +kernel⟩, List.mem_of_getElem? (i := 830) (by decide +kernel), List.mem_of_getElem? (i := 1156) (by decide +kernel), List.mem_of_getElem? (i := 1157) (by decide +kernel)⟩
theorem lw_p43 : lw_okq (⟨"TypeLoomModel", "lay", "(IIZ)V"⟩, 73) := ⟨⟨by decide +kernel, by decide +kernel⟩, List.mem_of_getElem? (i := 830) (by decide +kernel), List.mem_of_getElem? (i := 1160) (by decide +kernel), List.mem_of_getElem? (i := 1161) (by decide +kernel)⟩
theorem lw_p44 : lw_okq (⟨"TypeLoomModel", "beyond", "(Z)I"⟩, 73) := ⟨⟨by decide +kernel, by decide +kernel⟩, List.mem_of_getElem? (i := 830) (by decide +kernel), List.mem_of_getElem? (i := 1164) (by decide +kernel), List.mem_of_getElem? (i := 1165) (by decide +kernel)⟩
theorem lw_p45 : lw_okq (⟨"TypeLoomModel", "place", "(IZ)I"⟩, 73) := ⟨⟨by decide +kernel, by decide +kernel⟩, List.mem_of_getElem? (i := 830) (by decide +kernel), List.mem_of_getElem? (i := 1168) (by decide +kernel), List.mem_of_getElem? (i := 1169) (by decide +kernel)⟩
theorem lw_p46 : lw_okq (⟨"TypeLoomModel", "settleRow", "(IZI)V"⟩, 73) := ⟨⟨by decide +kernel, by decide +kernel⟩, List.mem_of_getElem? (i := 830) (by decide +kernel), List.mem_of_getElem? (i := 1172) (by decide +kernel), List.mem_of_getElem? (i := 1173) (by decide +kernel)⟩
theorem lw_p47 : lw_okq (⟨"TypeLoomModel", "areRings", "()Z"⟩, 73) := ⟨⟨by decide +kernel, by decide +kernel⟩, List.mem_of_getElem? (i := 830) (by decide +kernel), List.mem_of_getElem? (i := 1176) (by decide +kernel), List.mem_of_getElem? (i := 1177) (by decide +kernel)⟩
def lw_privs_3 : List (MethodName × Nat) := [(⟨"TypeLoomModel", "makeRow", "(IZ)I"⟩, 73), (⟨"TypeLoomModel", "equalOnes", "(I)I"⟩, 73), (⟨"TypeLoomModel", "save", "()V"⟩, 73), (⟨"TypeLoomModel", "equate", "(II)V"⟩, 73), (⟨"TypeLoomModel", "now", "(I)I"⟩, 73), (⟨"TypeLoomModel", "hold", "(II)Z"⟩, 73), (⟨"TypeLoomModel", "standForVariable", "(II)Z"⟩, 73), (⟨"TypeLoomModel", "standFor", "(II)Z"⟩, 73), (⟨"TypeLoomModel", "joined", "(I)I"⟩, 73), (⟨"TypeLoomModel", "equateRecords", "(II)Z"⟩, 73), (⟨"TypeLoomModel", "gather", "(IZ)I"⟩, 73), (⟨"TypeLoomModel", "lay", "(IIZ)V"⟩, 73), (⟨"TypeLoomModel", "beyond", "(Z)I"⟩, 73), (⟨"TypeLoomModel", "place", "(IZ)I"⟩, 73), (⟨"TypeLoomModel", "settleRow", "(IZI)V"⟩, 73), (⟨"TypeLoomModel", "areRings", "()Z"⟩, 73)]
theorem lw_r3 : ∀ q ∈ lw_privs_3, lw_okq q := List.forall_mem_cons.mpr ⟨lw_p32, List.forall_mem_cons.mpr ⟨lw_p33, List.forall_mem_cons.mpr ⟨lw_p34, List.forall_mem_cons.mpr ⟨lw_p35, List.forall_mem_cons.mpr ⟨lw_p36, List.forall_mem_cons.mpr ⟨lw_p37, List.forall_mem_cons.mpr ⟨lw_p38, List.forall_mem_cons.mpr ⟨lw_p39, List.forall_mem_cons.mpr ⟨lw_p40, List.forall_mem_cons.mpr ⟨lw_p41, List.forall_mem_cons.mpr ⟨lw_p42, List.forall_mem_cons.mpr ⟨lw_p43, List.forall_mem_cons.mpr ⟨lw_p44, List.forall_mem_cons.mpr ⟨lw_p45, List.forall_mem_cons.mpr ⟨lw_p46, List.forall_mem_cons.mpr ⟨lw_p47, fun _ h => absurd h List.not_mem_nil⟩⟩⟩⟩⟩⟩⟩⟩⟩⟩⟩⟩⟩⟩⟩⟩
theorem lw_p48 : lw_okq (⟨"TypeLoomModel", "clearMarks", "()V"⟩, 73) := ⟨⟨by decide +kernel, by decide +kernel⟩, List.mem_of_getElem? (i := 830) (by decide +kernel), List.mem_of_getElem? (i := 1180) (by decide +kernel), List.mem_of_getElem? (i := 1181) (by decide +kernel)⟩
theorem lw_p49 : lw_okq (⟨"TypeLoomModel", "isRing", "(I)Z"⟩, 73) := ⟨⟨by decide +kernel, by decide +kernel⟩, List.mem_of_getElem? (i := 830) (by decide +kernel), List.mem_of_getElem? (i := 1184) (by decide +kernel), List.mem_of_getElem? (i := 1185) (by decide +kernel)⟩
theorem lw_p50 : lw_okq (⟨"TypeLoomModel", "put", "(I)V"⟩, 73) := ⟨⟨by decide +kernel, by decide +kernel⟩, List.mem_of_getElem? (i := 830) (by decide +kernel), List.mem_of_getElem? (i := 1188) (by decide +kernel), List.mem_of_getElem? (i := 1189) (by decide +kernel)⟩
theorem lw_p51 : lw_okq (⟨"TypeLoomModel", "putParts", "(I)I"⟩, 73) := ⟨⟨by decide +kernel, by decide +kernel⟩, List.mem_of_getElem? (i := 830) (by decide +kernel), List.mem_of_getElem? (i := 1192) (by decide +kernel), List.mem_of_getElem? (i := 1193) (by decide +kernel)⟩
theorem lw_p52 : lw_okq (⟨"TypeLoomModel", "settle", "()Z"⟩, 73) := ⟨⟨by decide +kernel, by decide +kernel⟩, List.mem_of_getElem? (i := 830) (by decide +kernel), List.mem_of_getElem? (i := 1196) (by decide +kernel), List.mem_of_getElem? (i := 1197) (by decide +kernel)⟩
theorem lw_p53 : lw_okq (⟨"TypeLoomModel", "bringDown", "(II)Z"⟩, 73) := ⟨⟨by decide +kernel, by decide +kernel⟩, List.mem_of_getElem? (i := 830) (by decide +kernel), List.mem_of_getElem? (i := 1200) (by decide +kernel), List.mem_of_getElem? (i := 1201) (by decide +kernel)⟩
theorem lw_p54 : lw_okq (⟨"TypeLoomModel", "wishFor", "(I)Z"⟩, 73) := ⟨⟨by decide +kernel, by decide +kernel⟩, List.mem_of_getElem? (i := 830) (by decide +kernel), List.mem_of_getElem? (i := 1204) (by decide +kernel), List.mem_of_getElem? (i := 1205) (by decide +kernel)⟩
theorem lw_p55 : lw_okq (⟨"TypeLoomModel", "settleFields", "(I)Z"⟩, 73) := ⟨⟨by decide +kernel, by decide +kernel⟩, List.mem_of_getElem? (i := 830) (by decide +kernel), List.mem_of_getElem? (i := 1208) (by decide +kernel), List.mem_of_getElem? (i := 1209) (by decide +kernel)⟩
theorem lw_p56 : lw_okq (⟨"TypeLoomModel", "restore", "(II)V"⟩, 73) := ⟨⟨by decide +kernel, by decide +kernel⟩, List.mem_of_getElem? (i := 830) (by decide +kernel), List.mem_of_getElem? (i := 1212) (by decide +kernel), List.mem_of_getElem? (i := 1213) (by decide +kernel)⟩
theorem lw_p57 : lw_okq (⟨"TypeLoomModel", "follow", "(IJ)I"⟩, 73) := ⟨⟨by decide +kernel, by decide +kernel⟩, List.mem_of_getElem? (i := 830) (by decide +kernel), List.mem_of_getElem? (i := 1220) (by decide +kernel), List.mem_of_getElem? (i := 1221) (by decide +kernel)⟩
theorem lw_p58 : lw_okq (⟨"TypeLoomModel", "partOf", "(II)I"⟩, 73) := ⟨⟨by decide +kernel, by decide +kernel⟩, List.mem_of_getElem? (i := 830) (by decide +kernel), List.mem_of_getElem? (i := 1225) (by decide +kernel), List.mem_of_getElem? (i := 1226) (by decide +kernel)⟩
theorem lw_p59 : lw_okq (⟨"TypeLoomModel", "areSame", "(II)Z"⟩, 73) := ⟨⟨by decide +kernel, by decide +kernel⟩, List.mem_of_getElem? (i := 830) (by decide +kernel), List.mem_of_getElem? (i := 1229) (by decide +kernel), List.mem_of_getElem? (i := 1230) (by decide +kernel)⟩
theorem lw_p60 : lw_okq (⟨"TypeLoomModel", "areSameParts", "(II)Z"⟩, 73) := ⟨⟨by decide +kernel, by decide +kernel⟩, List.mem_of_getElem? (i := 830) (by decide +kernel), List.mem_of_getElem? (i := 1233) (by decide +kernel), List.mem_of_getElem? (i := 1234) (by decide +kernel)⟩
theorem lw_p61 : lw_okq (⟨"TypeLoomModel", "countParts", "(I)I"⟩, 73) := ⟨⟨by decide +kernel, by decide +kernel⟩, List.mem_of_getElem? (i := 830) (by decide +kernel), List.mem_of_getElem? (i := 1241) (by decide +kernel), List.mem_of_getElem? (i := 1242) (by decide +kernel)⟩
theorem lw_p62 : lw_okq (⟨"TypeLoomModel", "admits", "(I)Z"⟩, 73) := ⟨⟨by decide +kernel, by decide +kernel⟩, List.mem_of_getElem? (i := 830) (by decide +kernel), List.mem_of_getElem? (i := 1245) (by decide +kernel), List.mem_of_getElem? (i := 1246) (by decide +kernel)⟩
theorem lw_p63 : lw_okq (⟨"TypeLoomModel", "hasSuch", "(I)Z"⟩, 73) := ⟨⟨by decide +kernel, by decide +kernel⟩, List.mem_of_getElem? (i := 830) (by decide +kernel), List.mem_of_getElem? (i := 1257) (by decide +kernel), List.mem_of_getElem? (i := 1258) (by decide +kernel)⟩
def lw_privs_4 : List (MethodName × Nat) := [(⟨"TypeLoomModel", "clearMarks", "()V"⟩, 73), (⟨"TypeLoomModel", "isRing", "(I)Z"⟩, 73), (⟨"TypeLoomModel", "put", "(I)V"⟩, 73), (⟨"TypeLoomModel", "putParts", "(I)I"⟩, 73), (⟨"TypeLoomModel", "settle", "()Z"⟩, 73), (⟨"TypeLoomModel", "bringDown", "(II)Z"⟩, 73), (⟨"TypeLoomModel", "wishFor", "(I)Z"⟩, 73), (⟨"TypeLoomModel", "settleFields", "(I)Z"⟩, 73), (⟨"TypeLoomModel", "restore", "(II)V"⟩, 73), (⟨"TypeLoomModel", "follow", "(IJ)I"⟩, 73), (⟨"TypeLoomModel", "partOf", "(II)I"⟩, 73), (⟨"TypeLoomModel", "areSame", "(II)Z"⟩, 73), (⟨"TypeLoomModel", "areSameParts", "(II)Z"⟩, 73), (⟨"TypeLoomModel", "countParts", "(I)I"⟩, 73), (⟨"TypeLoomModel", "admits", "(I)Z"⟩, 73), (⟨"TypeLoomModel", "hasSuch", "(I)Z"⟩, 73)]
theorem lw_r4 : ∀ q ∈ lw_privs_4, lw_okq q := List.forall_mem_cons.mpr ⟨lw_p48, List.forall_mem_cons.mpr ⟨lw_p49, List.forall_mem_cons.mpr ⟨lw_p50, List.forall_mem_cons.mpr ⟨lw_p51, List.forall_mem_cons.mpr ⟨lw_p52, List.forall_mem_cons.mpr ⟨lw_p53, List.forall_mem_cons.mpr ⟨lw_p54, List.forall_mem_cons.mpr ⟨lw_p55, List.forall_mem_cons.mpr ⟨lw_p56, List.forall_mem_cons.mpr ⟨lw_p57, List.forall_mem_cons.mpr ⟨lw_p58, List.forall_mem_cons.mpr ⟨lw_p59, List.forall_mem_cons.mpr ⟨lw_p60, List.forall_mem_cons.mpr ⟨lw_p61, List.forall_mem_cons.mpr ⟨lw_p62, List.forall_mem_cons.mpr ⟨lw_p63, fun _ h => absurd h List.not_mem_nil⟩⟩⟩⟩⟩⟩⟩⟩⟩⟩⟩⟩⟩⟩⟩⟩
theorem lw_p64 : lw_okq (⟨"TypeLoomModel", "enter", "(II)V"⟩, 73) := ⟨⟨by decide +kernel, by decide +kernel⟩, List.mem_of_getElem? (i := 830) (by decide +kernel), List.mem_of_getElem? (i := 1261) (by decide +kernel), List.mem_of_getElem? (i := 1262) (by decide +kernel)⟩
theorem lw_p65 : lw_okq (⟨"TypeLoomModel", "find", "(III)I"⟩, 73) := ⟨⟨by decide +kernel, by decide +kernel⟩, List.mem_of_getElem? (i := 830) (by decide +kernel), List.mem_of_getElem? (i := 1265) (by decide +kernel), List.mem_of_getElem? (i := 1266) (by decide +kernel)⟩
theorem lw_p66 : lw_okq (⟨"TypeLoomModel", "keepEqualities", "(I)V"⟩, 73) := ⟨⟨by decide +kernel, by decide +kernel⟩, List.mem_of_getElem? (i := 830) (by decide +kernel), List.mem_of_getElem? (i := 1269) (by decide +kernel), List.mem_of_getElem? (i := 1270) (by decide +kernel)⟩
theorem lw_p67 : lw_okq (⟨"TypeLoomModel", "isScheme", "(I)Z"⟩, 73) := ⟨⟨by decide +kernel, by decide +kernel⟩, List.mem_of_getElem? (i := 830) (by decide +kernel), List.mem_of_getElem? (i := 1277) (by decide +kernel), List.mem_of_getElem? (i := 1278) (by decide +kernel)⟩
theorem lw_p68 : lw_okq (⟨"TypeLoomModel", "renew", "(I)I"⟩, 73) := ⟨⟨by decide +kernel, by decide +kernel⟩, List.mem_of_getElem? (i := 830) (by decide +kernel), List.mem_of_getElem? (i := 1285) (by decide +kernel), List.mem_of_getElem? (i := 1286) (by decide +kernel)⟩
def lw_privs_5 : List (MethodName × Nat) := [(⟨"TypeLoomModel", "enter", "(II)V"⟩, 73), (⟨"TypeLoomModel", "find", "(III)I"⟩, 73), (⟨"TypeLoomModel", "keepEqualities", "(I)V"⟩, 73), (⟨"TypeLoomModel", "isScheme", "(I)Z"⟩, 73), (⟨"TypeLoomModel", "renew", "(I)I"⟩, 73)]
theorem lw_r5 : ∀ q ∈ lw_privs_5, lw_okq q := List.forall_mem_cons.mpr ⟨lw_p64, List.forall_mem_cons.mpr ⟨lw_p65, List.forall_mem_cons.mpr ⟨lw_p66, List.forall_mem_cons.mpr ⟨lw_p67, List.forall_mem_cons.mpr ⟨lw_p68, fun _ h => absurd h List.not_mem_nil⟩⟩⟩⟩⟩
def lw_privs : List (MethodName × Nat) := lw_privs_1 ++ (lw_privs_2 ++ (lw_privs_3 ++ (lw_privs_4 ++ (lw_privs_5))))
def lw_tbl : List Cond := k2_sels lw_privs ++ tables_1
theorem lw_privs_ok : ∀ q ∈ lw_privs, lw_okq q := by
  show ∀ q ∈ lw_privs_1 ++ (lw_privs_2 ++ (lw_privs_3 ++ (lw_privs_4 ++ (lw_privs_5)))), lw_okq q
  exact List.forall_mem_append.mpr ⟨lw_r1, List.forall_mem_append.mpr ⟨lw_r2, List.forall_mem_append.mpr ⟨lw_r3, List.forall_mem_append.mpr ⟨lw_r4, lw_r5⟩⟩⟩⟩

/-- the words that go with every call -/
def gx_T : List Cond := lw_tbl.filter goodWord
theorem gx_mem {w : Cond} {i : Nat} (h : lw_tbl[i]? = some w) (hg : goodWord w = true) : w ∈ gx_T := List.mem_filter.mpr ⟨List.mem_of_getElem? h, hg⟩
theorem gx_good (w : Cond) (h : w ∈ gx_T) : (w.onTables && w.keeps) = true ∨ ∃ ty, w = .arrayClass ty := good_of_word (List.mem_filter.mp h).2
theorem gx_sub : ∀ w ∈ gx_T, w ∈ lw_tbl := fun _ h => (List.mem_filter.mp h).1
end
section

/-! THE JUDGEMENT gx_G. A system of fixed objects: its int fields by number, its arrays by number, their lengths: a state gx_S. The meaning of a method is a function to gx_R (none: nothing is said); gx_G V X res σ pc lv st says: from the state σ, at pc, with the locals lv and the stack st, the machine comes to the method's end, and there the state and the answer are what res says, if it says something. -/
abbrev gx_S : Type := (Nat → Int32) × (Nat → Nat → Int32) × (Nat → Nat)
abbrev gx_R : Type := Option (gx_S × Int32)
abbrev gx_U : Type := ((Nat → Nat) → gx_S → va_W) × (gx_S → Prop) × (gx_S → Nat) × (gx_S → Nat)
abbrev gx_V : Type := (va_G × List vw_C × List (ClassId × FieldType)) × gx_U
abbrev gx_X : Type := (Program × Launch × Env × Room × State × MethodId × Array Value × List Frame × Method × Code) × (Nat → Prop) × gx_S × Bool
def gx_Q (V : gx_V) (vd : Bool) (A : Nat → Prop) (σ : gx_S) (out : gx_S × Int32) : Array Value → State → Outcome → State → Prop := fun _ st oc t =>
  oc = .returned (if vd then none else some (.int out.2)) ∧ V.2.2.1 out.1 ∧ V.2.2.2.1 out.1 ≤ V.2.2.2.1 σ ∧ V.2.2.2.2 out.1 ≤ V.2.2.2.2 σ ∧ (∃ ar : Nat → Nat, va_P V.1.1 V.1.2.1 (V.2.1 ar out.1) t.heap ∧ va_D A (V.2.1 ar out.1)) ∧ va_F A st t
/-- what is fixed while a method runs -/
def gx_K (V : gx_V) (X : gx_X) (cc : ByteArray) (own : String) (nL fr lo : Nat) (rt : Option FieldType) : Prop := match X with
  | ((p, _, _, R, s, m, args, _, meth, c), A, σ0, vd) =>
    p.tables.exec = Jvm.exec ∧ c.code = cc ∧ c.maxLocals = nL ∧ s.vm.findClass own = some m.cls ∧ (∀ w ∈ gx_T, w.before args s = true) ∧ meth.sig.returnType = rt ∧ meth.locks = false ∧ va_K V.1.1 V.1.2.1 V.1.2.2 s ∧ (∀ q : Nat, s.heap.size ≤ q → A q) ∧ fr ≤ R.frames ∧ lo ≤ R.locals ∧ V.2.2.2.1 σ0 ≤ R.cells ∧ V.2.2.2.2 σ0 ≤ R.slots ∧ vd = rt.isNone
def gx_G (V : gx_V) (X : gx_X) (res : gx_R) (σ : gx_S) (pc : Nat) (lv : List (Nat × Value)) (st : List Value) : Prop := match X with
  | ((p, l, e, R, s, m, args, below, meth, c), A, σ0, vd) =>
    ∀ out, res = some out → V.2.2.1 σ → ∀ (ar : Nat → Nat) (H : Heap) (locs : List Loc) (cells slots : Nat) (ls : Array Slot), lv_has ls c.maxLocals lv → va_P V.1.1 V.1.2.1 (V.2.1 ar σ) H → va_D A (V.2.1 ar σ) → va_S A s.heap H locs → cells + V.2.2.2.1 σ ≤ V.2.2.2.1 σ0 → slots + V.2.2.2.2 σ ≤ V.2.2.2.2 σ0 →
      W p l e R s m args below meth c H locs cells slots (MQ below (gx_Q V vd A σ0 out) args s (V.2.2.2.1 σ0 - V.2.2.2.1 out.1) (V.2.2.2.2 σ0 - V.2.2.2.2 out.1) A) (F0 m pc ls st)
theorem gx_none {V : gx_V} {X : gx_X} {σ : gx_S} {pc : Nat} {lv : List (Nat × Value)} {st : List Value} : gx_G V X none σ pc lv st := by
  obtain ⟨⟨p, l, e, R, s, m, args, below, meth, c⟩, A, σ0, vd⟩ := X
  intro out h
  cases h
/-- loops and joins in the meaning of a method -/
def gx_lp {α : Type} (d : α) (f : α → α) : Nat → α
  | 0 => d
  | n + 1 => f (gx_lp d f n)
theorem gx_lpI {α : Type} {d : α} {f : α → α} (P : α → Prop) (h0 : P d) (hs : ∀ a, P a → P (f a)) : ∀ n, P (gx_lp d f n)
  | 0 => h0
  | n + 1 => hs _ (gx_lpI P h0 hs n)
def gx_jn {α : Type} (j : α) (k : α → gx_R) : gx_R := k j
def gx_bd (x : gx_R) (k : gx_S → Int32 → gx_R) : gx_R := match x with
  | none => none
  | some o => k o.1 o.2
def gx_bv (x : Int32) (k : Int32 → gx_R) : gx_R := k x
def gx_bw (x : Int64) (k : Int64 → gx_R) : gx_R := k x
def gx_sb (σ : gx_S) (k : gx_S → gx_R) : gx_R := k σ
def gx_F : Nat := 4294967296
def gx_rz (σ : gx_S) (v : Int32) : gx_R := if v = 0 ∨ v = 1 then some (σ, v) else none
section GX
variable {V : gx_V} {X : gx_X} {cc : ByteArray} {own : String} {nL fr lo : Nat} {rt : Option FieldType} {res r1 r2 : gx_R} {σ : gx_S} {pc : Nat} {lv : List (Nat × Value)} {st : List Value}
theorem gx_jnI {α : Type} {j : α} {k : α → gx_R} (P : α → Prop) (hj : P j) (hk : ∀ j, P j → gx_G V X (k j) σ pc lv st) : gx_G V X (gx_jn j k) σ pc lv st := hk j hj
theorem gx_pick (hX : gx_K V X cc own nL fr lo rt) {lv' : List (Nat × Value)} (ks : List Nat) (hl : lv_pick lv ks = lv') (k : gx_G V X res σ pc lv' st) : gx_G V X res σ pc lv st := by
  obtain ⟨⟨p, l, e, R, s, m, args, below, meth, c⟩, A, σ0, vd⟩ := X
  intro out h1 h2 ar H locs cells slots ls hls
  exact k out h1 h2 ar H locs cells slots ls (lv_sub hls ks hl)
/-- a row that moves no cell -/
theorem gx_lv (hX : gx_K V X cc own nL fr lo rt) {pc' : Nat} {lv' : List (Nat × Value)} {st' : List Value}
    (h : ∀ {p : Program} {l : Launch} {e : Env} {R : Room} {s : State} {m : MethodId} {args : Array Value} {below : List Frame} {meth : Method} {c : Code} {H : Heap} {locs : List Loc} {cells slots : Nat} {Q : State → Prop} {ls : Array Slot}, p.tables.exec = Jvm.exec → c.code = cc → lv_has ls nL lv → (∀ ls', lv_has ls' nL lv' → W p l e R s m args below meth c H locs cells slots Q (F0 m pc' ls' st')) → W p l e R s m args below meth c H locs cells slots Q (F0 m pc ls st))
    (k : gx_G V X res σ pc' lv' st') : gx_G V X res σ pc lv st := by
  obtain ⟨⟨p, l, e, R, s, m, args, below, meth, c⟩, A, σ0, vd⟩ := X
  obtain ⟨hx, hb, hml, -⟩ := hX
  intro out h1 h2 ar H locs cells slots ls hls hP hD hS hc hs
  refine h hx hb (by rw [← hml]; exact hls) (fun ls' hls' => k out h1 h2 ar H locs cells slots ls' (by rw [hml]; exact hls') hP hD hS hc hs)
/-- a branch -/
theorem gx_br (hX : gx_K V X cc own nL fr lo rt) {P : Prop} [Decidable P] {p1 p2 : Nat} {st' : List Value}
    (h : ∀ {p : Program} {l : Launch} {e : Env} {R : Room} {s : State} {m : MethodId} {args : Array Value} {below : List Frame} {meth : Method} {c : Code} {H : Heap} {locs : List Loc} {cells slots : Nat} {Q : State → Prop} {ls : Array Slot}, p.tables.exec = Jvm.exec → c.code = cc → (P → W p l e R s m args below meth c H locs cells slots Q (F0 m p1 ls st')) → (¬ P → W p l e R s m args below meth c H locs cells slots Q (F0 m p2 ls st')) → W p l e R s m args below meth c H locs cells slots Q (F0 m pc ls st))
    (k1 : P → gx_G V X r1 σ p1 lv st') (k2 : ¬ P → gx_G V X r2 σ p2 lv st') : gx_G V X (if P then r1 else r2) σ pc lv st := by
  obtain ⟨⟨p, l, e, R, s, m, args, below, meth, c⟩, A, σ0, vd⟩ := X
  obtain ⟨hx, hb, hml, -⟩ := hX
  intro out h1 h2 ar H locs cells slots ls hls hP hD hS hc hs
  refine h hx hb (fun hp => ?_) (fun hp => ?_)
  · rw [if_pos hp] at h1
    exact k1 hp out h1 h2 ar H locs cells slots ls hls hP hD hS hc hs
  · rw [if_neg hp] at h1
    exact k2 hp out h1 h2 ar H locs cells slots ls hls hP hD hS hc hs
theorem gx_iconst (hX : gx_K V X cc own nL fr lo rt) {z : Int} (v : Int32) (n : Nat) (hd : decode cc pc = .ok (.iconst z, 1)) (hv : Int32.ofInt z = v) (hn : pc + 1 = n) (k : gx_G V X res σ n lv (.int v :: st)) : gx_G V X res σ pc lv (st) := by
  subst hn
  exact gx_lv hX (fun hx hb hl kk => lv_iconst hx hb hd hv (kk _ hl)) k
theorem gx_bipush (hX : gx_K V X cc own nL fr lo rt) {z : Int} (v : Int32) (n : Nat) (hd : decode cc pc = .ok (.bipush z, 2)) (hv : (Int8.ofInt z).toInt32 = v) (hn : pc + 2 = n) (k : gx_G V X res σ n lv (.int v :: st)) : gx_G V X res σ pc lv (st) := by
  subst hn
  exact gx_lv hX (fun hx hb hl kk => lv_bipush hx hb hd hv (kk _ hl)) k
theorem gx_sipush (hX : gx_K V X cc own nL fr lo rt) {z : Int} (v : Int32) (n : Nat) (hd : decode cc pc = .ok (.sipush z, 3)) (hv : (Int16.ofInt z).toInt32 = v) (hn : pc + 3 = n) (k : gx_G V X res σ n lv (.int v :: st)) : gx_G V X res σ pc lv (st) := by
  subst hn
  exact gx_lv hX (fun hx hb hl kk => lv_sipush hx hb hd hv (kk _ hl)) k
theorem gx_lconst (hX : gx_K V X cc own nL fr lo rt) {z : Fin 2} (v : Int64) (n : Nat) (hd : decode cc pc = .ok (.lconst z, 1)) (hv : Int64.ofNat (z : Nat) = v) (hn : pc + 1 = n) (k : gx_G V X res σ n lv (.long v :: st)) : gx_G V X res σ pc lv (st) := by
  subst hn
  exact gx_lv hX (fun hx hb hl kk => lv_lconst hx hb hd hv (kk _ hl)) k
theorem gx_iload_n (hX : gx_K V X cc own nL fr lo rt) {z : Fin 4} {i : Nat} (q : Nat) {x : Int32} (n : Nat) (hd : decode cc pc = .ok (.iload_n z, 1)) (hi : (z : Nat) = i) (hq : lv[q]? = some (i, .int x)) (hn : pc + 1 = n) (k : gx_G V X res σ n lv (.int x :: st)) : gx_G V X res σ pc lv (st) := by
  subst hn
  exact gx_lv hX (fun hx hb hl kk => lv_iload_n hx hb hd hi (lv_at hl q hq) (kk _ hl)) k
theorem gx_iload (hX : gx_K V X cc own nL fr lo rt) {i : Nat} (q : Nat) {x : Int32} (n : Nat) (hd : decode cc pc = .ok (.iload i, 2)) (hq : lv[q]? = some (i, .int x)) (hn : pc + 2 = n) (k : gx_G V X res σ n lv (.int x :: st)) : gx_G V X res σ pc lv (st) := by
  subst hn
  exact gx_lv hX (fun hx hb hl kk => lv_iload hx hb hd (lv_at hl q hq) (kk _ hl)) k
theorem gx_lload_n (hX : gx_K V X cc own nL fr lo rt) {z : Fin 4} {i : Nat} (q : Nat) {x : Int64} (n : Nat) (hd : decode cc pc = .ok (.lload_n z, 1)) (hi : (z : Nat) = i) (hq : lv[q]? = some (i, .long x)) (hn : pc + 1 = n) (k : gx_G V X res σ n lv (.long x :: st)) : gx_G V X res σ pc lv (st) := by
  subst hn
  exact gx_lv hX (fun hx hb hl kk => lv_lload_n hx hb hd hi (lv_at hl q hq) (kk _ hl)) k
theorem gx_lload (hX : gx_K V X cc own nL fr lo rt) {i : Nat} (q : Nat) {x : Int64} (n : Nat) (hd : decode cc pc = .ok (.lload i, 2)) (hq : lv[q]? = some (i, .long x)) (hn : pc + 2 = n) (k : gx_G V X res σ n lv (.long x :: st)) : gx_G V X res σ pc lv (st) := by
  subst hn
  exact gx_lv hX (fun hx hb hl kk => lv_lload hx hb hd (lv_at hl q hq) (kk _ hl)) k
theorem gx_aload_n (hX : gx_K V X cc own nL fr lo rt) {z : Fin 4} {i : Nat} (q : Nat) {x : Nat} (n : Nat) (hd : decode cc pc = .ok (.aload_n z, 1)) (hi : (z : Nat) = i) (hq : lv[q]? = some (i, .ref x)) (hn : pc + 1 = n) (k : gx_G V X res σ n lv (.ref x :: st)) : gx_G V X res σ pc lv (st) := by
  subst hn
  exact gx_lv hX (fun hx hb hl kk => lv_aload_n hx hb hd hi (lv_at hl q hq) (kk _ hl)) k
theorem gx_aload (hX : gx_K V X cc own nL fr lo rt) {i : Nat} (q : Nat) {x : Nat} (n : Nat) (hd : decode cc pc = .ok (.aload i, 2)) (hq : lv[q]? = some (i, .ref x)) (hn : pc + 2 = n) (k : gx_G V X res σ n lv (.ref x :: st)) : gx_G V X res σ pc lv (st) := by
  subst hn
  exact gx_lv hX (fun hx hb hl kk => lv_aload hx hb hd (lv_at hl q hq) (kk _ hl)) k
theorem gx_istore_n (hX : gx_K V X cc own nL fr lo rt) {z : Fin 4} {i : Nat} {x : Int32} (lv' : List (Nat × Value)) (n : Nat) (hd : decode cc pc = .ok (.istore_n z, 1)) (hi : (z : Nat) = i) (hi2 : i < nL) (hl' : (i, Value.int x) :: lv.filter (fun q => !(q.1 == i) && !(q.1 + 1 == i && q.2.category == 2)) = lv') (hn : pc + 1 = n) (k : gx_G V X res σ n lv' st) : gx_G V X res σ pc lv (.int x :: st) := by
  subst hn
  exact gx_lv hX (fun hx hb hl kk => lv_istore_n hx hb hd hi hl hi2 hl' (fun ls' h' => kk ls' h')) k
theorem gx_istore (hX : gx_K V X cc own nL fr lo rt) {i : Nat} {x : Int32} (lv' : List (Nat × Value)) (n : Nat) (hd : decode cc pc = .ok (.istore i, 2)) (hi2 : i < nL) (hl' : (i, Value.int x) :: lv.filter (fun q => !(q.1 == i) && !(q.1 + 1 == i && q.2.category == 2)) = lv') (hn : pc + 2 = n) (k : gx_G V X res σ n lv' st) : gx_G V X res σ pc lv (.int x :: st) := by
  subst hn
  exact gx_lv hX (fun hx hb hl kk => lv_istore hx hb hd hl hi2 hl' (fun ls' h' => kk ls' h')) k
theorem gx_lstore_n (hX : gx_K V X cc own nL fr lo rt) {z : Fin 4} {i : Nat} {x : Int64} (lv' : List (Nat × Value)) (n : Nat) (hd : decode cc pc = .ok (.lstore_n z, 1)) (hi : (z : Nat) = i) (hi2 : i + 1 < nL) (hl' : (i, Value.long x) :: lv.filter (fun q => !(q.1 == i) && (!(q.1 == i + 1) && !(q.1 + 1 == i && q.2.category == 2))) = lv') (hn : pc + 1 = n) (k : gx_G V X res σ n lv' st) : gx_G V X res σ pc lv (.long x :: st) := by
  subst hn
  exact gx_lv hX (fun hx hb hl kk => lv_lstore_n hx hb hd hi hl hi2 hl' (fun ls' h' => kk ls' h')) k
theorem gx_lstore (hX : gx_K V X cc own nL fr lo rt) {i : Nat} {x : Int64} (lv' : List (Nat × Value)) (n : Nat) (hd : decode cc pc = .ok (.lstore i, 2)) (hi2 : i + 1 < nL) (hl' : (i, Value.long x) :: lv.filter (fun q => !(q.1 == i) && (!(q.1 == i + 1) && !(q.1 + 1 == i && q.2.category == 2))) = lv') (hn : pc + 2 = n) (k : gx_G V X res σ n lv' st) : gx_G V X res σ pc lv (.long x :: st) := by
  subst hn
  exact gx_lv hX (fun hx hb hl kk => lv_lstore hx hb hd hl hi2 hl' (fun ls' h' => kk ls' h')) k
theorem gx_astore_n (hX : gx_K V X cc own nL fr lo rt) {z : Fin 4} {i : Nat} {x : Nat} (lv' : List (Nat × Value)) (n : Nat) (hd : decode cc pc = .ok (.astore_n z, 1)) (hi : (z : Nat) = i) (hi2 : i < nL) (hl' : (i, Value.ref x) :: lv.filter (fun q => !(q.1 == i) && !(q.1 + 1 == i && q.2.category == 2)) = lv') (hn : pc + 1 = n) (k : gx_G V X res σ n lv' st) : gx_G V X res σ pc lv (.ref x :: st) := by
  subst hn
  exact gx_lv hX (fun hx hb hl kk => lv_astore_n hx hb hd hi hl hi2 hl' (fun ls' h' => kk ls' h')) k
theorem gx_astore (hX : gx_K V X cc own nL fr lo rt) {i : Nat} {x : Nat} (lv' : List (Nat × Value)) (n : Nat) (hd : decode cc pc = .ok (.astore i, 2)) (hi2 : i < nL) (hl' : (i, Value.ref x) :: lv.filter (fun q => !(q.1 == i) && !(q.1 + 1 == i && q.2.category == 2)) = lv') (hn : pc + 2 = n) (k : gx_G V X res σ n lv' st) : gx_G V X res σ pc lv (.ref x :: st) := by
  subst hn
  exact gx_lv hX (fun hx hb hl kk => lv_astore hx hb hd hl hi2 hl' (fun ls' h' => kk ls' h')) k
theorem gx_iinc (hX : gx_K V X cc own nL fr lo rt) {i q : Nat} {z : Int} {x : Int32} (v : Int32) (lv' : List (Nat × Value)) (n : Nat) (hd : decode cc pc = .ok (.iinc i z, 3)) (hq : lv[q]? = some (i, .int x)) (hv : x + Int32.ofInt z = v) (hi2 : i < nL) (hl' : (i, Value.int v) :: lv.filter (fun q => !(q.1 == i) && !(q.1 + 1 == i && q.2.category == 2)) = lv') (hn : pc + 3 = n) (k : gx_G V X res σ n lv' st) : gx_G V X res σ pc lv st := by
  subst hn
  exact gx_lv hX (fun hx hb hl kk => lv_iinc hx hb hd hl hq hv hi2 hl' (fun ls' h' => kk ls' h')) k
theorem gx_iadd (hX : gx_K V X cc own nL fr lo rt) {x y : Int32} (n : Nat) (hd : decode cc pc = .ok (.iadd, 1)) (hn : pc + 1 = n) (k : gx_G V X res σ n lv (.int (x + y) :: st)) : gx_G V X res σ pc lv (.int y :: .int x :: st) := by
  subst hn
  exact gx_lv hX (fun hx hb hl kk => lv_iadd hx hb hd (kk _ hl)) k
theorem gx_isub (hX : gx_K V X cc own nL fr lo rt) {x y : Int32} (n : Nat) (hd : decode cc pc = .ok (.isub, 1)) (hn : pc + 1 = n) (k : gx_G V X res σ n lv (.int (x - y) :: st)) : gx_G V X res σ pc lv (.int y :: .int x :: st) := by
  subst hn
  exact gx_lv hX (fun hx hb hl kk => lv_isub hx hb hd (kk _ hl)) k
theorem gx_imul (hX : gx_K V X cc own nL fr lo rt) {x y : Int32} (n : Nat) (hd : decode cc pc = .ok (.imul, 1)) (hn : pc + 1 = n) (k : gx_G V X res σ n lv (.int (x * y) :: st)) : gx_G V X res σ pc lv (.int y :: .int x :: st) := by
  subst hn
  exact gx_lv hX (fun hx hb hl kk => lv_imul hx hb hd (kk _ hl)) k
theorem gx_iand (hX : gx_K V X cc own nL fr lo rt) {x y : Int32} (n : Nat) (hd : decode cc pc = .ok (.iand, 1)) (hn : pc + 1 = n) (k : gx_G V X res σ n lv (.int (x &&& y) :: st)) : gx_G V X res σ pc lv (.int y :: .int x :: st) := by
  subst hn
  exact gx_lv hX (fun hx hb hl kk => lv_iand hx hb hd (kk _ hl)) k
theorem gx_ior (hX : gx_K V X cc own nL fr lo rt) {x y : Int32} (n : Nat) (hd : decode cc pc = .ok (.ior, 1)) (hn : pc + 1 = n) (k : gx_G V X res σ n lv (.int (x ||| y) :: st)) : gx_G V X res σ pc lv (.int y :: .int x :: st) := by
  subst hn
  exact gx_lv hX (fun hx hb hl kk => lv_ior hx hb hd (kk _ hl)) k
theorem gx_ixor (hX : gx_K V X cc own nL fr lo rt) {x y : Int32} (n : Nat) (hd : decode cc pc = .ok (.ixor, 1)) (hn : pc + 1 = n) (k : gx_G V X res σ n lv (.int (x ^^^ y) :: st)) : gx_G V X res σ pc lv (.int y :: .int x :: st) := by
  subst hn
  exact gx_lv hX (fun hx hb hl kk => lv_ixor hx hb hd (kk _ hl)) k
theorem gx_ishl (hX : gx_K V X cc own nL fr lo rt) {x y : Int32} (n : Nat) (hd : decode cc pc = .ok (.ishl, 1)) (hn : pc + 1 = n) (k : gx_G V X res σ n lv (.int (x <<< (y &&& 31)) :: st)) : gx_G V X res σ pc lv (.int y :: .int x :: st) := by
  subst hn
  exact gx_lv hX (fun hx hb hl kk => lv_ishl hx hb hd (kk _ hl)) k
theorem gx_ishr (hX : gx_K V X cc own nL fr lo rt) {x y : Int32} (n : Nat) (hd : decode cc pc = .ok (.ishr, 1)) (hn : pc + 1 = n) (k : gx_G V X res σ n lv (.int (x >>> (y &&& 31)) :: st)) : gx_G V X res σ pc lv (.int y :: .int x :: st) := by
  subst hn
  exact gx_lv hX (fun hx hb hl kk => lv_ishr hx hb hd (kk _ hl)) k
theorem gx_ineg (hX : gx_K V X cc own nL fr lo rt) {x : Int32} (n : Nat) (hd : decode cc pc = .ok (.ineg, 1)) (hn : pc + 1 = n) (k : gx_G V X res σ n lv (.int (-x) :: st)) : gx_G V X res σ pc lv (.int x :: st) := by
  subst hn
  exact gx_lv hX (fun hx hb hl kk => lv_ineg hx hb hd (kk _ hl)) k
theorem gx_iushr (hX : gx_K V X cc own nL fr lo rt) {x y : Int32} (n : Nat) (hd : decode cc pc = .ok (.iushr, 1)) (hn : pc + 1 = n) (k : gx_G V X res σ n lv (.int ((x.toUInt32 >>> (y.toUInt32 &&& Int32.toUInt32 31)).toInt32) :: st)) : gx_G V X res σ pc lv (.int y :: .int x :: st) := by
  subst hn
  exact gx_lv hX (fun hx hb hl kk => lv_iushr hx hb hd rfl (kk _ hl)) k
theorem gx_land (hX : gx_K V X cc own nL fr lo rt) {x y : Int64} (n : Nat) (hd : decode cc pc = .ok (.land, 1)) (hn : pc + 1 = n) (k : gx_G V X res σ n lv (.long (x &&& y) :: st)) : gx_G V X res σ pc lv (.long y :: .long x :: st) := by
  subst hn
  exact gx_lv hX (fun hx hb hl kk => lv_land hx hb hd (kk _ hl)) k
theorem gx_lor (hX : gx_K V X cc own nL fr lo rt) {x y : Int64} (n : Nat) (hd : decode cc pc = .ok (.lor, 1)) (hn : pc + 1 = n) (k : gx_G V X res σ n lv (.long (x ||| y) :: st)) : gx_G V X res σ pc lv (.long y :: .long x :: st) := by
  subst hn
  exact gx_lv hX (fun hx hb hl kk => lv_lor hx hb hd (kk _ hl)) k
theorem gx_lxor (hX : gx_K V X cc own nL fr lo rt) {x y : Int64} (n : Nat) (hd : decode cc pc = .ok (.lxor, 1)) (hn : pc + 1 = n) (k : gx_G V X res σ n lv (.long (x ^^^ y) :: st)) : gx_G V X res σ pc lv (.long y :: .long x :: st) := by
  subst hn
  exact gx_lv hX (fun hx hb hl kk => lv_lxor hx hb hd (kk _ hl)) k
theorem gx_ladd (hX : gx_K V X cc own nL fr lo rt) {x y : Int64} (n : Nat) (hd : decode cc pc = .ok (.ladd, 1)) (hn : pc + 1 = n) (k : gx_G V X res σ n lv (.long (x + y) :: st)) : gx_G V X res σ pc lv (.long y :: .long x :: st) := by
  subst hn
  exact gx_lv hX (fun hx hb hl kk => lv_ladd hx hb hd (kk _ hl)) k
theorem gx_lsub (hX : gx_K V X cc own nL fr lo rt) {x y : Int64} (n : Nat) (hd : decode cc pc = .ok (.lsub, 1)) (hn : pc + 1 = n) (k : gx_G V X res σ n lv (.long (x - y) :: st)) : gx_G V X res σ pc lv (.long y :: .long x :: st) := by
  subst hn
  exact gx_lv hX (fun hx hb hl kk => lv_lsub hx hb hd (kk _ hl)) k
theorem gx_lmul (hX : gx_K V X cc own nL fr lo rt) {x y : Int64} (n : Nat) (hd : decode cc pc = .ok (.lmul, 1)) (hn : pc + 1 = n) (k : gx_G V X res σ n lv (.long (x * y) :: st)) : gx_G V X res σ pc lv (.long y :: .long x :: st) := by
  subst hn
  exact gx_lv hX (fun hx hb hl kk => lv_lmul hx hb hd (kk _ hl)) k
theorem gx_lushr (hX : gx_K V X cc own nL fr lo rt) {x : Int64} {y : Int32} (n : Nat) (hd : decode cc pc = .ok (.lushr, 1)) (hn : pc + 1 = n) (k : gx_G V X res σ n lv (.long ((x.toUInt64 >>> (y.toInt64.toUInt64 &&& Int64.toUInt64 63)).toInt64) :: st)) : gx_G V X res σ pc lv (.int y :: .long x :: st) := by
  subst hn
  exact gx_lv hX (fun hx hb hl kk => lv_lushr hx hb hd rfl (kk _ hl)) k
theorem gx_lshl (hX : gx_K V X cc own nL fr lo rt) {x : Int64} {y : Int32} (n : Nat) (hd : decode cc pc = .ok (.lshl, 1)) (hn : pc + 1 = n) (k : gx_G V X res σ n lv (.long (x <<< (y.toInt64 &&& 63)) :: st)) : gx_G V X res σ pc lv (.int y :: .long x :: st) := by
  subst hn
  exact gx_lv hX (fun hx hb hl kk => lv_lshl hx hb hd rfl (kk _ hl)) k
theorem gx_lshr (hX : gx_K V X cc own nL fr lo rt) {x : Int64} {y : Int32} (n : Nat) (hd : decode cc pc = .ok (.lshr, 1)) (hn : pc + 1 = n) (k : gx_G V X res σ n lv (.long (x >>> (y.toInt64 &&& 63)) :: st)) : gx_G V X res σ pc lv (.int y :: .long x :: st) := by
  subst hn
  exact gx_lv hX (fun hx hb hl kk => lv_lshr hx hb hd rfl (kk _ hl)) k
theorem gx_i2l (hX : gx_K V X cc own nL fr lo rt) {x : Int32} (n : Nat) (hd : decode cc pc = .ok (.i2l, 1)) (hn : pc + 1 = n) (k : gx_G V X res σ n lv (.long x.toInt64 :: st)) : gx_G V X res σ pc lv (.int x :: st) := by
  subst hn
  exact gx_lv hX (fun hx hb hl kk => lv_i2l hx hb hd rfl (kk _ hl)) k
theorem gx_l2i (hX : gx_K V X cc own nL fr lo rt) {x : Int64} (n : Nat) (hd : decode cc pc = .ok (.l2i, 1)) (hn : pc + 1 = n) (k : gx_G V X res σ n lv (.int x.toInt32 :: st)) : gx_G V X res σ pc lv (.long x :: st) := by
  subst hn
  exact gx_lv hX (fun hx hb hl kk => lv_l2i hx hb hd rfl (kk _ hl)) k
theorem gx_i2b (hX : gx_K V X cc own nL fr lo rt) {x : Int32} (n : Nat) (hd : decode cc pc = .ok (.i2b, 1)) (hn : pc + 1 = n) (k : gx_G V X res σ n lv (.int x.toInt8.toInt32 :: st)) : gx_G V X res σ pc lv (.int x :: st) := by
  subst hn
  exact gx_lv hX (fun hx hb hl kk => lv_i2b hx hb hd rfl (kk _ hl)) k
theorem gx_i2s (hX : gx_K V X cc own nL fr lo rt) {x : Int32} (n : Nat) (hd : decode cc pc = .ok (.i2s, 1)) (hn : pc + 1 = n) (k : gx_G V X res σ n lv (.int x.toInt16.toInt32 :: st)) : gx_G V X res σ pc lv (.int x :: st) := by
  subst hn
  exact gx_lv hX (fun hx hb hl kk => lv_i2s hx hb hd rfl (kk _ hl)) k
theorem gx_dup (hX : gx_K V X cc own nL fr lo rt) {a : Value} (n : Nat) (hd : decode cc pc = .ok (.dup, 1)) (ha : a.category = 1) (hn : pc + 1 = n) (k : gx_G V X res σ n lv (a :: a :: st)) : gx_G V X res σ pc lv (a :: st) := by
  subst hn
  exact gx_lv hX (fun hx hb hl kk => lv_dup hx hb hd ha (kk _ hl)) k
theorem gx_pop (hX : gx_K V X cc own nL fr lo rt) {a : Value} (n : Nat) (hd : decode cc pc = .ok (.pop, 1)) (ha : a.category = 1) (hn : pc + 1 = n) (k : gx_G V X res σ n lv (st)) : gx_G V X res σ pc lv (a :: st) := by
  subst hn
  exact gx_lv hX (fun hx hb hl kk => lv_pop hx hb hd ha (kk _ hl)) k
theorem gx_dup_x1 (hX : gx_K V X cc own nL fr lo rt) {a b : Value} (n : Nat) (hd : decode cc pc = .ok (.dup_x1, 1)) (ha : a.category = 1) (hb2 : b.category = 1) (hn : pc + 1 = n) (k : gx_G V X res σ n lv (a :: b :: a :: st)) : gx_G V X res σ pc lv (a :: b :: st) := by
  subst hn
  exact gx_lv hX (fun hx hb hl kk => lv_dup_x1 hx hb hd ha hb2 (kk _ hl)) k
theorem gx_dup2 (hX : gx_K V X cc own nL fr lo rt) {a b : Value} (n : Nat) (hd : decode cc pc = .ok (.dup2, 1)) (ha : a.category = 1) (hb2 : b.category = 1) (hn : pc + 1 = n) (k : gx_G V X res σ n lv (a :: b :: a :: b :: st)) : gx_G V X res σ pc lv (a :: b :: st) := by
  subst hn
  exact gx_lv hX (fun hx hb hl kk => lv_dup2_11 hx hb hd ha hb2 (kk _ hl)) k
theorem gx_icmp_eq (hX : gx_K V X cc own nL fr lo rt) {x y : Int32} {off : Int} (tgt n : Nat) (hd : decode cc pc = .ok (.if_icmp .eq off, 3)) (ht : (pc : Int) + off = (tgt : Int)) (hn : pc + 3 = n) (k1 : x = y → gx_G V X r1 σ tgt lv st) (k2 : ¬ x = y → gx_G V X r2 σ n lv st) : gx_G V X (if x = y then r1 else r2) σ pc lv (.int y :: .int x :: st) := by
  subst hn
  exact gx_br hX (fun hx hb a b => lv_icmp_eq hx hb hd ht a b) k1 k2
theorem gx_if_eq (hX : gx_K V X cc own nL fr lo rt) {x : Int32} {off : Int} (tgt n : Nat) (hd : decode cc pc = .ok (.ifCond .eq off, 3)) (ht : (pc : Int) + off = (tgt : Int)) (hn : pc + 3 = n) (k1 : x = 0 → gx_G V X r1 σ tgt lv st) (k2 : ¬ x = 0 → gx_G V X r2 σ n lv st) : gx_G V X (if x = 0 then r1 else r2) σ pc lv (.int x :: st) := by
  subst hn
  exact gx_br hX (fun hx hb a b => lv_if_eq hx hb hd ht a b) k1 k2
theorem gx_icmp_ne (hX : gx_K V X cc own nL fr lo rt) {x y : Int32} {off : Int} (tgt n : Nat) (hd : decode cc pc = .ok (.if_icmp .ne off, 3)) (ht : (pc : Int) + off = (tgt : Int)) (hn : pc + 3 = n) (k1 : ¬ x = y → gx_G V X r1 σ tgt lv st) (k2 : x = y → gx_G V X r2 σ n lv st) : gx_G V X (if x = y then r2 else r1) σ pc lv (.int y :: .int x :: st) := by
  subst hn
  exact gx_br hX (fun hx hb a b => lv_icmp_ne hx hb hd ht b a) k2 k1
theorem gx_if_ne (hX : gx_K V X cc own nL fr lo rt) {x : Int32} {off : Int} (tgt n : Nat) (hd : decode cc pc = .ok (.ifCond .ne off, 3)) (ht : (pc : Int) + off = (tgt : Int)) (hn : pc + 3 = n) (k1 : ¬ x = 0 → gx_G V X r1 σ tgt lv st) (k2 : x = 0 → gx_G V X r2 σ n lv st) : gx_G V X (if x = 0 then r2 else r1) σ pc lv (.int x :: st) := by
  subst hn
  exact gx_br hX (fun hx hb a b => lv_if_ne hx hb hd ht b a) k2 k1
theorem gx_icmp_lt (hX : gx_K V X cc own nL fr lo rt) {x y : Int32} {off : Int} (tgt n : Nat) (hd : decode cc pc = .ok (.if_icmp .lt off, 3)) (ht : (pc : Int) + off = (tgt : Int)) (hn : pc + 3 = n) (k1 : x < y → gx_G V X r1 σ tgt lv st) (k2 : ¬ x < y → gx_G V X r2 σ n lv st) : gx_G V X (if x < y then r1 else r2) σ pc lv (.int y :: .int x :: st) := by
  subst hn
  exact gx_br hX (fun hx hb a b => lv_icmp_lt hx hb hd ht a b) k1 k2
theorem gx_if_lt (hX : gx_K V X cc own nL fr lo rt) {x : Int32} {off : Int} (tgt n : Nat) (hd : decode cc pc = .ok (.ifCond .lt off, 3)) (ht : (pc : Int) + off = (tgt : Int)) (hn : pc + 3 = n) (k1 : x < 0 → gx_G V X r1 σ tgt lv st) (k2 : ¬ x < 0 → gx_G V X r2 σ n lv st) : gx_G V X (if x < 0 then r1 else r2) σ pc lv (.int x :: st) := by
  subst hn
  exact gx_br hX (fun hx hb a b => lv_if_lt hx hb hd ht a b) k1 k2
theorem gx_icmp_ge (hX : gx_K V X cc own nL fr lo rt) {x y : Int32} {off : Int} (tgt n : Nat) (hd : decode cc pc = .ok (.if_icmp .ge off, 3)) (ht : (pc : Int) + off = (tgt : Int)) (hn : pc + 3 = n) (k1 : y ≤ x → gx_G V X r1 σ tgt lv st) (k2 : ¬ y ≤ x → gx_G V X r2 σ n lv st) : gx_G V X (if y ≤ x then r1 else r2) σ pc lv (.int y :: .int x :: st) := by
  subst hn
  exact gx_br hX (fun hx hb a b => lv_icmp_ge hx hb hd ht a b) k1 k2
theorem gx_if_ge (hX : gx_K V X cc own nL fr lo rt) {x : Int32} {off : Int} (tgt n : Nat) (hd : decode cc pc = .ok (.ifCond .ge off, 3)) (ht : (pc : Int) + off = (tgt : Int)) (hn : pc + 3 = n) (k1 : 0 ≤ x → gx_G V X r1 σ tgt lv st) (k2 : ¬ 0 ≤ x → gx_G V X r2 σ n lv st) : gx_G V X (if 0 ≤ x then r1 else r2) σ pc lv (.int x :: st) := by
  subst hn
  exact gx_br hX (fun hx hb a b => lv_if_ge hx hb hd ht a b) k1 k2
theorem gx_icmp_gt (hX : gx_K V X cc own nL fr lo rt) {x y : Int32} {off : Int} (tgt n : Nat) (hd : decode cc pc = .ok (.if_icmp .gt off, 3)) (ht : (pc : Int) + off = (tgt : Int)) (hn : pc + 3 = n) (k1 : y < x → gx_G V X r1 σ tgt lv st) (k2 : ¬ y < x → gx_G V X r2 σ n lv st) : gx_G V X (if y < x then r1 else r2) σ pc lv (.int y :: .int x :: st) := by
  subst hn
  exact gx_br hX (fun hx hb a b => lv_icmp_gt hx hb hd ht a b) k1 k2
theorem gx_if_gt (hX : gx_K V X cc own nL fr lo rt) {x : Int32} {off : Int} (tgt n : Nat) (hd : decode cc pc = .ok (.ifCond .gt off, 3)) (ht : (pc : Int) + off = (tgt : Int)) (hn : pc + 3 = n) (k1 : 0 < x → gx_G V X r1 σ tgt lv st) (k2 : ¬ 0 < x → gx_G V X r2 σ n lv st) : gx_G V X (if 0 < x then r1 else r2) σ pc lv (.int x :: st) := by
  subst hn
  exact gx_br hX (fun hx hb a b => lv_if_gt hx hb hd ht a b) k1 k2
theorem gx_icmp_le (hX : gx_K V X cc own nL fr lo rt) {x y : Int32} {off : Int} (tgt n : Nat) (hd : decode cc pc = .ok (.if_icmp .le off, 3)) (ht : (pc : Int) + off = (tgt : Int)) (hn : pc + 3 = n) (k1 : x ≤ y → gx_G V X r1 σ tgt lv st) (k2 : ¬ x ≤ y → gx_G V X r2 σ n lv st) : gx_G V X (if x ≤ y then r1 else r2) σ pc lv (.int y :: .int x :: st) := by
  subst hn
  exact gx_br hX (fun hx hb a b => lv_icmp_le hx hb hd ht a b) k1 k2
theorem gx_if_le (hX : gx_K V X cc own nL fr lo rt) {x : Int32} {off : Int} (tgt n : Nat) (hd : decode cc pc = .ok (.ifCond .le off, 3)) (ht : (pc : Int) + off = (tgt : Int)) (hn : pc + 3 = n) (k1 : x ≤ 0 → gx_G V X r1 σ tgt lv st) (k2 : ¬ x ≤ 0 → gx_G V X r2 σ n lv st) : gx_G V X (if x ≤ 0 then r1 else r2) σ pc lv (.int x :: st) := by
  subst hn
  exact gx_br hX (fun hx hb a b => lv_if_le hx hb hd ht a b) k1 k2
theorem gx_goto (hX : gx_K V X cc own nL fr lo rt) {off : Int} (tgt : Nat) (hd : decode cc pc = .ok (.goto off, 3)) (ht : (pc : Int) + off = (tgt : Int)) (k : gx_G V X res σ tgt lv st) : gx_G V X res σ pc lv st := gx_lv hX (fun hx hb hl kk => lv_goto hx hb hd ht (kk _ hl)) k
theorem gx_bvN {e : Int32} {k : Int32 → gx_R} (kk : ∀ x, gx_G V X (k x) σ pc lv (.int x :: st)) : gx_G V X (gx_bv e k) σ pc lv (.int e :: st) := kk e
theorem gx_bwN {e : Int64} {k : Int64 → gx_R} (kk : ∀ x, gx_G V X (k x) σ pc lv (.long x :: st)) : gx_G V X (gx_bw e k) σ pc lv (.long e :: st) := kk e
theorem gx_iincN (hX : gx_K V X cc own nL fr lo rt) {i q : Nat} {z : Int} {x e : Int32} {k : Int32 → gx_R} (lv' : Int32 → List (Nat × Value)) (n : Nat) (hd : decode cc pc = .ok (.iinc i z, 3)) (hq : lv[q]? = some (i, .int x)) (hv : x + Int32.ofInt z = e) (hi2 : i < nL) (hl' : ∀ v, (i, Value.int v) :: lv.filter (fun q => !(q.1 == i) && !(q.1 + 1 == i && q.2.category == 2)) = lv' v) (hn : pc + 3 = n) (kk : ∀ v, gx_G V X (k v) σ n (lv' v) st) : gx_G V X (gx_bv e k) σ pc lv st := gx_iinc hX e (lv' e) n hd hq hv hi2 (hl' e) hn (kk e)
theorem gx_ldc (hX : gx_K V X cc own nL fr lo rt) {idx : Nat} (v : Int32) (n : Nat) (hd : decode cc pc = .ok (.ldc idx, 2)) (hw : Cond.constant own idx v ∈ gx_T) (hn : pc + 2 = n) (k : gx_G V X res σ n lv (.int v :: st)) : gx_G V X res σ pc lv st := by
  subst hn
  obtain ⟨⟨p, l, e, R, s, m, args, below, meth, c⟩, A, σ0, vd⟩ := X
  obtain ⟨hx, hb, hml, hown, hts, -⟩ := hX
  intro out h1 h2 ar H locs cells slots ls hls hP hD hS hc hs
  exact lv_ldc hx hb hown (hts _ hw) hd (k out h1 h2 ar H locs cells slots ls hls hP hD hS hc hs)
theorem gx_ldc2 (hX : gx_K V X cc own nL fr lo rt) {idx : Nat} (v : Int64) (n : Nat) (hd : decode cc pc = .ok (.ldc2_w idx, 3)) (hw : Cond.constantLong own idx v ∈ gx_T) (hn : pc + 3 = n) (k : gx_G V X res σ n lv (.long v :: st)) : gx_G V X res σ pc lv st := by
  subst hn
  obtain ⟨⟨p, l, e, R, s, m, args, below, meth, c⟩, A, σ0, vd⟩ := X
  obtain ⟨hx, hb, hml, hown, hts, -⟩ := hX
  intro out h1 h2 ar H locs cells slots ls hls hP hD hS hc hs
  exact lv_ldc2 hx hb hown (hts _ hw) hd (k out h1 h2 ar H locs cells slots ls hls hP hD hS hc hs)
theorem gx_tsw3 (hX : gx_K V X cc own nL fr lo rt) {x : Int32} {dflt : Int} {offs : Array Int} {len : Nat} {z0 z1 z2 zd : gx_R} (t0 t1 t2 td : Nat) (hd : decode cc pc = .ok (.tableswitch dflt 0 2 offs, len)) (h0 : offs[0]?.map (fun o => (pc : Int) + o) = some (t0 : Int)) (h1 : offs[1]?.map (fun o => (pc : Int) + o) = some (t1 : Int)) (h2 : offs[2]?.map (fun o => (pc : Int) + o) = some (t2 : Int)) (hdf : (pc : Int) + dflt = (td : Int)) (k0 : gx_G V X z0 σ t0 lv st) (k1 : gx_G V X z1 σ t1 lv st) (k2 : gx_G V X z2 σ t2 lv st) (kd : gx_G V X zd σ td lv st) : gx_G V X (if x = 0 then z0 else if x = 1 then z1 else if x = 2 then z2 else zd) σ pc lv (.int x :: st) := by
  obtain ⟨o0, e0, f0⟩ : ∃ o, offs[0]? = some o ∧ (pc : Int) + o = (t0 : Int) := by
    cases hq : offs[0]? with
    | none => rw [hq] at h0; cases h0
    | some o => rw [hq] at h0; exact ⟨o, rfl, Option.some.inj h0⟩
  obtain ⟨o1, e1, f1⟩ : ∃ o, offs[1]? = some o ∧ (pc : Int) + o = (t1 : Int) := by
    cases hq : offs[1]? with
    | none => rw [hq] at h1; cases h1
    | some o => rw [hq] at h1; exact ⟨o, rfl, Option.some.inj h1⟩
  obtain ⟨o2, e2, f2⟩ : ∃ o, offs[2]? = some o ∧ (pc : Int) + o = (t2 : Int) := by
    cases hq : offs[2]? with
    | none => rw [hq] at h2; cases h2
    | some o => rw [hq] at h2; exact ⟨o, rfl, Option.some.inj h2⟩
  by_cases c0 : x = 0
  · subst c0
    rw [if_pos (rfl : (0 : Int32) = 0)]
    exact gx_lv hX (fun hx hb hl kk => lv_tableIn hx hb hd (by decide) (by decide) (show offs[(Int32.toInt 0 - 0).toNat]? = some o0 from e0) f0 (kk _ hl)) k0
  by_cases c1 : x = 1
  · subst c1
    rw [if_neg (show ¬ (1 : Int32) = 0 by decide)]; rw [if_pos (rfl : (1 : Int32) = 1)]
    exact gx_lv hX (fun hx hb hl kk => lv_tableIn hx hb hd (by decide) (by decide) (show offs[(Int32.toInt 1 - 0).toNat]? = some o1 from e1) f1 (kk _ hl)) k1
  by_cases c2 : x = 2
  · subst c2
    rw [if_neg (show ¬ (2 : Int32) = 0 by decide)]; rw [if_neg (show ¬ (2 : Int32) = 1 by decide)]; rw [if_pos (rfl : (2 : Int32) = 2)]
    exact gx_lv hX (fun hx hb hl kk => lv_tableIn hx hb hd (by decide) (by decide) (show offs[(Int32.toInt 2 - 0).toNat]? = some o2 from e2) f2 (kk _ hl)) k2
  rw [if_neg c0]
  rw [if_neg c1]
  rw [if_neg c2]
  refine gx_lv hX (fun hx hb hl kk => lv_tableOut hx hb hd ?_ hdf (kk _ hl)) kd
  have n0 : ¬ x.toInt = 0 := lv_neT (k := 0) c0 (by decide)
  have n1 : ¬ x.toInt = 1 := lv_neT (k := 1) c1 (by decide)
  have n2 : ¬ x.toInt = 2 := lv_neT (k := 2) c2 (by decide)
  omega
theorem gx_tsw7 (hX : gx_K V X cc own nL fr lo rt) {x : Int32} {dflt : Int} {offs : Array Int} {len : Nat} {z0 z1 z2 z3 z4 z5 z6 zd : gx_R} (t0 t1 t2 t3 t4 t5 t6 td : Nat) (hd : decode cc pc = .ok (.tableswitch dflt 0 6 offs, len)) (h0 : offs[0]?.map (fun o => (pc : Int) + o) = some (t0 : Int)) (h1 : offs[1]?.map (fun o => (pc : Int) + o) = some (t1 : Int)) (h2 : offs[2]?.map (fun o => (pc : Int) + o) = some (t2 : Int)) (h3 : offs[3]?.map (fun o => (pc : Int) + o) = some (t3 : Int)) (h4 : offs[4]?.map (fun o => (pc : Int) + o) = some (t4 : Int)) (h5 : offs[5]?.map (fun o => (pc : Int) + o) = some (t5 : Int)) (h6 : offs[6]?.map (fun o => (pc : Int) + o) = some (t6 : Int)) (hdf : (pc : Int) + dflt = (td : Int)) (k0 : gx_G V X z0 σ t0 lv st) (k1 : gx_G V X z1 σ t1 lv st) (k2 : gx_G V X z2 σ t2 lv st) (k3 : gx_G V X z3 σ t3 lv st) (k4 : gx_G V X z4 σ t4 lv st) (k5 : gx_G V X z5 σ t5 lv st) (k6 : gx_G V X z6 σ t6 lv st) (kd : gx_G V X zd σ td lv st) : gx_G V X (if x = 0 then z0 else if x = 1 then z1 else if x = 2 then z2 else if x = 3 then z3 else if x = 4 then z4 else if x = 5 then z5 else if x = 6 then z6 else zd) σ pc lv (.int x :: st) := by
  obtain ⟨o0, e0, f0⟩ : ∃ o, offs[0]? = some o ∧ (pc : Int) + o = (t0 : Int) := by
    cases hq : offs[0]? with
    | none => rw [hq] at h0; cases h0
    | some o => rw [hq] at h0; exact ⟨o, rfl, Option.some.inj h0⟩
  obtain ⟨o1, e1, f1⟩ : ∃ o, offs[1]? = some o ∧ (pc : Int) + o = (t1 : Int) := by
    cases hq : offs[1]? with
    | none => rw [hq] at h1; cases h1
    | some o => rw [hq] at h1; exact ⟨o, rfl, Option.some.inj h1⟩
  obtain ⟨o2, e2, f2⟩ : ∃ o, offs[2]? = some o ∧ (pc : Int) + o = (t2 : Int) := by
    cases hq : offs[2]? with
    | none => rw [hq] at h2; cases h2
    | some o => rw [hq] at h2; exact ⟨o, rfl, Option.some.inj h2⟩
  obtain ⟨o3, e3, f3⟩ : ∃ o, offs[3]? = some o ∧ (pc : Int) + o = (t3 : Int) := by
    cases hq : offs[3]? with
    | none => rw [hq] at h3; cases h3
    | some o => rw [hq] at h3; exact ⟨o, rfl, Option.some.inj h3⟩
  obtain ⟨o4, e4, f4⟩ : ∃ o, offs[4]? = some o ∧ (pc : Int) + o = (t4 : Int) := by
    cases hq : offs[4]? with
    | none => rw [hq] at h4; cases h4
    | some o => rw [hq] at h4; exact ⟨o, rfl, Option.some.inj h4⟩
  obtain ⟨o5, e5, f5⟩ : ∃ o, offs[5]? = some o ∧ (pc : Int) + o = (t5 : Int) := by
    cases hq : offs[5]? with
    | none => rw [hq] at h5; cases h5
    | some o => rw [hq] at h5; exact ⟨o, rfl, Option.some.inj h5⟩
  obtain ⟨o6, e6, f6⟩ : ∃ o, offs[6]? = some o ∧ (pc : Int) + o = (t6 : Int) := by
    cases hq : offs[6]? with
    | none => rw [hq] at h6; cases h6
    | some o => rw [hq] at h6; exact ⟨o, rfl, Option.some.inj h6⟩
  by_cases c0 : x = 0
  · subst c0
    rw [if_pos (rfl : (0 : Int32) = 0)]
    exact gx_lv hX (fun hx hb hl kk => lv_tableIn hx hb hd (by decide) (by decide) (show offs[(Int32.toInt 0 - 0).toNat]? = some o0 from e0) f0 (kk _ hl)) k0
  by_cases c1 : x = 1
  · subst c1
    rw [if_neg (show ¬ (1 : Int32) = 0 by decide)]; rw [if_pos (rfl : (1 : Int32) = 1)]
    exact gx_lv hX (fun hx hb hl kk => lv_tableIn hx hb hd (by decide) (by decide) (show offs[(Int32.toInt 1 - 0).toNat]? = some o1 from e1) f1 (kk _ hl)) k1
  by_cases c2 : x = 2
  · subst c2
    rw [if_neg (show ¬ (2 : Int32) = 0 by decide)]; rw [if_neg (show ¬ (2 : Int32) = 1 by decide)]; rw [if_pos (rfl : (2 : Int32) = 2)]
    exact gx_lv hX (fun hx hb hl kk => lv_tableIn hx hb hd (by decide) (by decide) (show offs[(Int32.toInt 2 - 0).toNat]? = some o2 from e2) f2 (kk _ hl)) k2
  by_cases c3 : x = 3
  · subst c3
    rw [if_neg (show ¬ (3 : Int32) = 0 by decide)]; rw [if_neg (show ¬ (3 : Int32) = 1 by decide)]; rw [if_neg (show ¬ (3 : Int32) = 2 by decide)]; rw [if_pos (rfl : (3 : Int32) = 3)]
    exact gx_lv hX (fun hx hb hl kk => lv_tableIn hx hb hd (by decide) (by decide) (show offs[(Int32.toInt 3 - 0).toNat]? = some o3 from e3) f3 (kk _ hl)) k3
  by_cases c4 : x = 4
  · subst c4
    rw [if_neg (show ¬ (4 : Int32) = 0 by decide)]; rw [if_neg (show ¬ (4 : Int32) = 1 by decide)]; rw [if_neg (show ¬ (4 : Int32) = 2 by decide)]; rw [if_neg (show ¬ (4 : Int32) = 3 by decide)]; rw [if_pos (rfl : (4 : Int32) = 4)]
    exact gx_lv hX (fun hx hb hl kk => lv_tableIn hx hb hd (by decide) (by decide) (show offs[(Int32.toInt 4 - 0).toNat]? = some o4 from e4) f4 (kk _ hl)) k4
  by_cases c5 : x = 5
  · subst c5
    rw [if_neg (show ¬ (5 : Int32) = 0 by decide)]; rw [if_neg (show ¬ (5 : Int32) = 1 by decide)]; rw [if_neg (show ¬ (5 : Int32) = 2 by decide)]; rw [if_neg (show ¬ (5 : Int32) = 3 by decide)]; rw [if_neg (show ¬ (5 : Int32) = 4 by decide)]; rw [if_pos (rfl : (5 : Int32) = 5)]
    exact gx_lv hX (fun hx hb hl kk => lv_tableIn hx hb hd (by decide) (by decide) (show offs[(Int32.toInt 5 - 0).toNat]? = some o5 from e5) f5 (kk _ hl)) k5
  by_cases c6 : x = 6
  · subst c6
    rw [if_neg (show ¬ (6 : Int32) = 0 by decide)]; rw [if_neg (show ¬ (6 : Int32) = 1 by decide)]; rw [if_neg (show ¬ (6 : Int32) = 2 by decide)]; rw [if_neg (show ¬ (6 : Int32) = 3 by decide)]; rw [if_neg (show ¬ (6 : Int32) = 4 by decide)]; rw [if_neg (show ¬ (6 : Int32) = 5 by decide)]; rw [if_pos (rfl : (6 : Int32) = 6)]
    exact gx_lv hX (fun hx hb hl kk => lv_tableIn hx hb hd (by decide) (by decide) (show offs[(Int32.toInt 6 - 0).toNat]? = some o6 from e6) f6 (kk _ hl)) k6
  rw [if_neg c0]
  rw [if_neg c1]
  rw [if_neg c2]
  rw [if_neg c3]
  rw [if_neg c4]
  rw [if_neg c5]
  rw [if_neg c6]
  refine gx_lv hX (fun hx hb hl kk => lv_tableOut hx hb hd ?_ hdf (kk _ hl)) kd
  have n0 : ¬ x.toInt = 0 := lv_neT (k := 0) c0 (by decide)
  have n1 : ¬ x.toInt = 1 := lv_neT (k := 1) c1 (by decide)
  have n2 : ¬ x.toInt = 2 := lv_neT (k := 2) c2 (by decide)
  have n3 : ¬ x.toInt = 3 := lv_neT (k := 3) c3 (by decide)
  have n4 : ¬ x.toInt = 4 := lv_neT (k := 4) c4 (by decide)
  have n5 : ¬ x.toInt = 5 := lv_neT (k := 5) c5 (by decide)
  have n6 : ¬ x.toInt = 6 := lv_neT (k := 6) c6 (by decide)
  omega
theorem gx_tsw9 (hX : gx_K V X cc own nL fr lo rt) {x : Int32} {dflt : Int} {offs : Array Int} {len : Nat} {z0 z1 z2 z3 z4 z5 z6 z7 z8 zd : gx_R} (t0 t1 t2 t3 t4 t5 t6 t7 t8 td : Nat) (hd : decode cc pc = .ok (.tableswitch dflt 0 8 offs, len)) (h0 : offs[0]?.map (fun o => (pc : Int) + o) = some (t0 : Int)) (h1 : offs[1]?.map (fun o => (pc : Int) + o) = some (t1 : Int)) (h2 : offs[2]?.map (fun o => (pc : Int) + o) = some (t2 : Int)) (h3 : offs[3]?.map (fun o => (pc : Int) + o) = some (t3 : Int)) (h4 : offs[4]?.map (fun o => (pc : Int) + o) = some (t4 : Int)) (h5 : offs[5]?.map (fun o => (pc : Int) + o) = some (t5 : Int)) (h6 : offs[6]?.map (fun o => (pc : Int) + o) = some (t6 : Int)) (h7 : offs[7]?.map (fun o => (pc : Int) + o) = some (t7 : Int)) (h8 : offs[8]?.map (fun o => (pc : Int) + o) = some (t8 : Int)) (hdf : (pc : Int) + dflt = (td : Int)) (k0 : gx_G V X z0 σ t0 lv st) (k1 : gx_G V X z1 σ t1 lv st) (k2 : gx_G V X z2 σ t2 lv st) (k3 : gx_G V X z3 σ t3 lv st) (k4 : gx_G V X z4 σ t4 lv st) (k5 : gx_G V X z5 σ t5 lv st) (k6 : gx_G V X z6 σ t6 lv st) (k7 : gx_G V X z7 σ t7 lv st) (k8 : gx_G V X z8 σ t8 lv st) (kd : gx_G V X zd σ td lv st) : gx_G V X (if x = 0 then z0 else if x = 1 then z1 else if x = 2 then z2 else if x = 3 then z3 else if x = 4 then z4 else if x = 5 then z5 else if x = 6 then z6 else if x = 7 then z7 else if x = 8 then z8 else zd) σ pc lv (.int x :: st) := by
  obtain ⟨o0, e0, f0⟩ : ∃ o, offs[0]? = some o ∧ (pc : Int) + o = (t0 : Int) := by
    cases hq : offs[0]? with
    | none => rw [hq] at h0; cases h0
    | some o => rw [hq] at h0; exact ⟨o, rfl, Option.some.inj h0⟩
  obtain ⟨o1, e1, f1⟩ : ∃ o, offs[1]? = some o ∧ (pc : Int) + o = (t1 : Int) := by
    cases hq : offs[1]? with
    | none => rw [hq] at h1; cases h1
    | some o => rw [hq] at h1; exact ⟨o, rfl, Option.some.inj h1⟩
  obtain ⟨o2, e2, f2⟩ : ∃ o, offs[2]? = some o ∧ (pc : Int) + o = (t2 : Int) := by
    cases hq : offs[2]? with
    | none => rw [hq] at h2; cases h2
    | some o => rw [hq] at h2; exact ⟨o, rfl, Option.some.inj h2⟩
  obtain ⟨o3, e3, f3⟩ : ∃ o, offs[3]? = some o ∧ (pc : Int) + o = (t3 : Int) := by
    cases hq : offs[3]? with
    | none => rw [hq] at h3; cases h3
    | some o => rw [hq] at h3; exact ⟨o, rfl, Option.some.inj h3⟩
  obtain ⟨o4, e4, f4⟩ : ∃ o, offs[4]? = some o ∧ (pc : Int) + o = (t4 : Int) := by
    cases hq : offs[4]? with
    | none => rw [hq] at h4; cases h4
    | some o => rw [hq] at h4; exact ⟨o, rfl, Option.some.inj h4⟩
  obtain ⟨o5, e5, f5⟩ : ∃ o, offs[5]? = some o ∧ (pc : Int) + o = (t5 : Int) := by
    cases hq : offs[5]? with
    | none => rw [hq] at h5; cases h5
    | some o => rw [hq] at h5; exact ⟨o, rfl, Option.some.inj h5⟩
  obtain ⟨o6, e6, f6⟩ : ∃ o, offs[6]? = some o ∧ (pc : Int) + o = (t6 : Int) := by
    cases hq : offs[6]? with
    | none => rw [hq] at h6; cases h6
    | some o => rw [hq] at h6; exact ⟨o, rfl, Option.some.inj h6⟩
  obtain ⟨o7, e7, f7⟩ : ∃ o, offs[7]? = some o ∧ (pc : Int) + o = (t7 : Int) := by
    cases hq : offs[7]? with
    | none => rw [hq] at h7; cases h7
    | some o => rw [hq] at h7; exact ⟨o, rfl, Option.some.inj h7⟩
  obtain ⟨o8, e8, f8⟩ : ∃ o, offs[8]? = some o ∧ (pc : Int) + o = (t8 : Int) := by
    cases hq : offs[8]? with
    | none => rw [hq] at h8; cases h8
    | some o => rw [hq] at h8; exact ⟨o, rfl, Option.some.inj h8⟩
  by_cases c0 : x = 0
  · subst c0
    rw [if_pos (rfl : (0 : Int32) = 0)]
    exact gx_lv hX (fun hx hb hl kk => lv_tableIn hx hb hd (by decide) (by decide) (show offs[(Int32.toInt 0 - 0).toNat]? = some o0 from e0) f0 (kk _ hl)) k0
  by_cases c1 : x = 1
  · subst c1
    rw [if_neg (show ¬ (1 : Int32) = 0 by decide)]; rw [if_pos (rfl : (1 : Int32) = 1)]
    exact gx_lv hX (fun hx hb hl kk => lv_tableIn hx hb hd (by decide) (by decide) (show offs[(Int32.toInt 1 - 0).toNat]? = some o1 from e1) f1 (kk _ hl)) k1
  by_cases c2 : x = 2
  · subst c2
    rw [if_neg (show ¬ (2 : Int32) = 0 by decide)]; rw [if_neg (show ¬ (2 : Int32) = 1 by decide)]; rw [if_pos (rfl : (2 : Int32) = 2)]
    exact gx_lv hX (fun hx hb hl kk => lv_tableIn hx hb hd (by decide) (by decide) (show offs[(Int32.toInt 2 - 0).toNat]? = some o2 from e2) f2 (kk _ hl)) k2
  by_cases c3 : x = 3
  · subst c3
    rw [if_neg (show ¬ (3 : Int32) = 0 by decide)]; rw [if_neg (show ¬ (3 : Int32) = 1 by decide)]; rw [if_neg (show ¬ (3 : Int32) = 2 by decide)]; rw [if_pos (rfl : (3 : Int32) = 3)]
    exact gx_lv hX (fun hx hb hl kk => lv_tableIn hx hb hd (by decide) (by decide) (show offs[(Int32.toInt 3 - 0).toNat]? = some o3 from e3) f3 (kk _ hl)) k3
  by_cases c4 : x = 4
  · subst c4
    rw [if_neg (show ¬ (4 : Int32) = 0 by decide)]; rw [if_neg (show ¬ (4 : Int32) = 1 by decide)]; rw [if_neg (show ¬ (4 : Int32) = 2 by decide)]; rw [if_neg (show ¬ (4 : Int32) = 3 by decide)]; rw [if_pos (rfl : (4 : Int32) = 4)]
    exact gx_lv hX (fun hx hb hl kk => lv_tableIn hx hb hd (by decide) (by decide) (show offs[(Int32.toInt 4 - 0).toNat]? = some o4 from e4) f4 (kk _ hl)) k4
  by_cases c5 : x = 5
  · subst c5
    rw [if_neg (show ¬ (5 : Int32) = 0 by decide)]; rw [if_neg (show ¬ (5 : Int32) = 1 by decide)]; rw [if_neg (show ¬ (5 : Int32) = 2 by decide)]; rw [if_neg (show ¬ (5 : Int32) = 3 by decide)]; rw [if_neg (show ¬ (5 : Int32) = 4 by decide)]; rw [if_pos (rfl : (5 : Int32) = 5)]
    exact gx_lv hX (fun hx hb hl kk => lv_tableIn hx hb hd (by decide) (by decide) (show offs[(Int32.toInt 5 - 0).toNat]? = some o5 from e5) f5 (kk _ hl)) k5
  by_cases c6 : x = 6
  · subst c6
    rw [if_neg (show ¬ (6 : Int32) = 0 by decide)]; rw [if_neg (show ¬ (6 : Int32) = 1 by decide)]; rw [if_neg (show ¬ (6 : Int32) = 2 by decide)]; rw [if_neg (show ¬ (6 : Int32) = 3 by decide)]; rw [if_neg (show ¬ (6 : Int32) = 4 by decide)]; rw [if_neg (show ¬ (6 : Int32) = 5 by decide)]; rw [if_pos (rfl : (6 : Int32) = 6)]
    exact gx_lv hX (fun hx hb hl kk => lv_tableIn hx hb hd (by decide) (by decide) (show offs[(Int32.toInt 6 - 0).toNat]? = some o6 from e6) f6 (kk _ hl)) k6
  by_cases c7 : x = 7
  · subst c7
    rw [if_neg (show ¬ (7 : Int32) = 0 by decide)]; rw [if_neg (show ¬ (7 : Int32) = 1 by decide)]; rw [if_neg (show ¬ (7 : Int32) = 2 by decide)]; rw [if_neg (show ¬ (7 : Int32) = 3 by decide)]; rw [if_neg (show ¬ (7 : Int32) = 4 by decide)]; rw [if_neg (show ¬ (7 : Int32) = 5 by decide)]; rw [if_neg (show ¬ (7 : Int32) = 6 by decide)]; rw [if_pos (rfl : (7 : Int32) = 7)]
    exact gx_lv hX (fun hx hb hl kk => lv_tableIn hx hb hd (by decide) (by decide) (show offs[(Int32.toInt 7 - 0).toNat]? = some o7 from e7) f7 (kk _ hl)) k7
  by_cases c8 : x = 8
  · subst c8
    rw [if_neg (show ¬ (8 : Int32) = 0 by decide)]; rw [if_neg (show ¬ (8 : Int32) = 1 by decide)]; rw [if_neg (show ¬ (8 : Int32) = 2 by decide)]; rw [if_neg (show ¬ (8 : Int32) = 3 by decide)]; rw [if_neg (show ¬ (8 : Int32) = 4 by decide)]; rw [if_neg (show ¬ (8 : Int32) = 5 by decide)]; rw [if_neg (show ¬ (8 : Int32) = 6 by decide)]; rw [if_neg (show ¬ (8 : Int32) = 7 by decide)]; rw [if_pos (rfl : (8 : Int32) = 8)]
    exact gx_lv hX (fun hx hb hl kk => lv_tableIn hx hb hd (by decide) (by decide) (show offs[(Int32.toInt 8 - 0).toNat]? = some o8 from e8) f8 (kk _ hl)) k8
  rw [if_neg c0]
  rw [if_neg c1]
  rw [if_neg c2]
  rw [if_neg c3]
  rw [if_neg c4]
  rw [if_neg c5]
  rw [if_neg c6]
  rw [if_neg c7]
  rw [if_neg c8]
  refine gx_lv hX (fun hx hb hl kk => lv_tableOut hx hb hd ?_ hdf (kk _ hl)) kd
  have n0 : ¬ x.toInt = 0 := lv_neT (k := 0) c0 (by decide)
  have n1 : ¬ x.toInt = 1 := lv_neT (k := 1) c1 (by decide)
  have n2 : ¬ x.toInt = 2 := lv_neT (k := 2) c2 (by decide)
  have n3 : ¬ x.toInt = 3 := lv_neT (k := 3) c3 (by decide)
  have n4 : ¬ x.toInt = 4 := lv_neT (k := 4) c4 (by decide)
  have n5 : ¬ x.toInt = 5 := lv_neT (k := 5) c5 (by decide)
  have n6 : ¬ x.toInt = 6 := lv_neT (k := 6) c6 (by decide)
  have n7 : ¬ x.toInt = 7 := lv_neT (k := 7) c7 (by decide)
  have n8 : ¬ x.toInt = 8 := lv_neT (k := 8) c8 (by decide)
  omega
theorem gx_lcmp (hX : gx_K V X cc own nL fr lo rt) {x y : Int64} (n : Nat) (hd : decode cc pc = .ok (.lcmp, 1)) (hn : pc + 1 = n) (k : gx_G V X res σ n lv (.int (lg_cmp x y) :: st)) : gx_G V X res σ pc lv (.long y :: .long x :: st) := by
  subst hn
  exact gx_lv hX (fun hx hb hl kk => W.lcmp hx hb hd (kk _ hl)) k
/-- ends -/
theorem gx_ret (hX : gx_K V X cc own nL fr lo (some .int)) {v : Int32} (hd : decode cc pc = .ok (.ireturn, 1)) : gx_G V X (some (σ, v)) σ pc lv [.int v] := by
  obtain ⟨⟨p, l, e, R, s, m, args, below, meth, c⟩, A, σ0, vd⟩ := X
  obtain ⟨hx, hb, hml, hown, hts, hr, hlocks, hK, hA, -, -, -, -, hvd⟩ := hX
  intro out h1 h2 ar H locs cells slots ls hls hP hD hS hc hs
  cases h1
  subst hvd
  refine W.widen (k := V.2.2.2.1 σ0 - V.2.2.2.1 σ) (n := V.2.2.2.2 σ0 - V.2.2.2.2 σ) (by omega) (by omega) ?_
  exact W.iret hx hb hr (fun t ht hW => ⟨rfl, h2, by dsimp only; omega, by dsimp only; omega, ⟨ar, by rw [ht]; exact hP, hD⟩, hS.F ht⟩) hS.2.2 hd hlocks
theorem gx_retz (hX : gx_K V X cc own nL fr lo (some .boolean)) {v : Int32} (hd : decode cc pc = .ok (.ireturn, 1)) : gx_G V X (gx_rz σ v) σ pc lv [.int v] := by
  obtain ⟨⟨p, l, e, R, s, m, args, below, meth, c⟩, A, σ0, vd⟩ := X
  obtain ⟨hx, hb, hml, hown, hts, hr, hlocks, hK, hA, -, -, -, -, hvd⟩ := hX
  intro out h1 h2 ar H locs cells slots ls hls hP hD hS hc hs
  by_cases hv : v = 0 ∨ v = 1
  · rw [gx_rz, if_pos hv] at h1
    cases h1
    subst hvd
    refine W.widen (k := V.2.2.2.1 σ0 - V.2.2.2.1 σ) (n := V.2.2.2.2 σ0 - V.2.2.2.2 σ) (by omega) (by omega) ?_
    exact W.zret hx hb hr (by rcases hv with rfl | rfl <;> decide +kernel) (fun t ht hW => ⟨rfl, h2, by dsimp only; omega, by dsimp only; omega, ⟨ar, by rw [ht]; exact hP, hD⟩, hS.F ht⟩) hS.2.2 hd hlocks
  · rw [gx_rz, if_neg hv] at h1
    cases h1
theorem gx_retv (hX : gx_K V X cc own nL fr lo none) {v : Int32} (hd : decode cc pc = .ok (.return_, 1)) : gx_G V X (some (σ, v)) σ pc lv [] := by
  obtain ⟨⟨p, l, e, R, s, m, args, below, meth, c⟩, A, σ0, vd⟩ := X
  obtain ⟨hx, hb, hml, hown, hts, hr, hlocks, hK, hA, -, -, -, -, hvd⟩ := hX
  intro out h1 h2 ar H locs cells slots ls hls hP hD hS hc hs
  cases h1
  subst hvd
  refine W.widen (k := V.2.2.2.1 σ0 - V.2.2.2.1 σ) (n := V.2.2.2.2 σ0 - V.2.2.2.2 σ) (by omega) (by omega) ?_
  exact W.vret hx hb hr (fun t ht hW => ⟨rfl, h2, by dsimp only; omega, by dsimp only; omega, ⟨ar, by rw [ht]; exact hP, hD⟩, hS.F ht⟩) hS.2.2 hd hlocks
end GX
end
section
/-! CALLS: a contract gx_C, out of a walk gx_G, and the row of its call -/
def gx_C (l : Launch) (V : gx_V) (y : MethodName) (cc : ByteArray) (mL : Nat) (rt : Option FieldType) (fr lo : Nat) (av : List Value) (σ : gx_S) (res : gx_R) : Prop :=
  ∀ out, res = some out → V.2.2.1 σ → ∀ (ar : Nat → Nat) (sz : Nat), Met l y (Cond.code y cc mL rt :: gx_T) { frames := fr, cells := V.2.2.2.1 σ, slots := V.2.2.2.2 σ, locals := lo } (va_Pc av (fun U => U.heap.size = sz ∧ va_P V.1.1 V.1.2.1 (V.2.1 ar σ) U.heap ∧ va_K V.1.1 V.1.2.1 V.1.2.2 U ∧ va_D (fun _ => True) (V.2.1 ar σ))) (gx_Q V rt.isNone (va_A (V.2.1 ar σ) sz) σ out) (V.2.2.2.1 σ - V.2.2.2.1 out.1) (V.2.2.2.2 σ - V.2.2.2.2 out.1) (va_A (V.2.1 ar σ) sz)
theorem gx_met {l : Launch} {V : gx_V} {y : MethodName} {cc : ByteArray} {mL : Nat} {rt : Option FieldType} {fr lo : Nat} {av : List Value} {σ : gx_S} {res : gx_R} {lv : List (Nat × Value)} {own : String} (hy : plainName y.cls = true) (hown : y.cls = own) (hlen : (lg_sl av).length ≤ mL) (hlv : lv_args 0 av = lv)
    (h : ∀ X : gx_X, X.1.2.1 = l → gx_K V X cc own mL fr lo rt → gx_G V X res σ 0 lv []) : gx_C l V y cc mL rt fr lo av σ res := by
  intro out h1 h2 ar sz
  refine Met.ofW (cc := cc) (maxL := mL) (ret := rt) hy rfl ?_
  intro p e s m args below meth c s₁ B hml hv
  obtain ⟨rfl, hsz, hP, hK, hD0⟩ := hv
  subst hsz
  subst hown
  subst hlv
  have hts := atoms_spec (ws := Cond.code y cc mL rt :: gx_T) B.pre
  have hcls : s.vm.findClass y.cls = some m.cls := findClass_of_methodNamed B.named
  have hD := hD0.self (sz := s.heap.size)
  have hl := lv_entry av (n := mL) hlen
  rw [lg_entry_eq]
  exact h ((p, l, e, _, s, m, _, below, meth, c), va_A (V.2.1 ar σ) s.heap.size, σ, rt.isNone) rfl ⟨B.exec, B.bytes, hml, hcls, fun w hw => hts w (List.mem_cons_of_mem _ hw), B.returns, B.notSynchronized, hK, fun q hq => Or.inr hq, Nat.le_refl _, Nat.le_refl _, Nat.le_refl _, Nat.le_refl _, rfl⟩ out h1 h2 ar s.heap [] 0 0 _ (by rw [hml]; exact hl) hP hD va_S.rf (by omega) (by omega)
section GXC
variable {l : Launch} {R : Room} {p : Program} {e : Env} {below : List Frame} {s : State} {sargs : Array Value} {y : MethodName} {len Wd : Nat}
/-- a callee that asks for more room than it uses -/
theorem gx_back {ws : List Cond} {rm : Room} {Pc : Array Value → State → Prop} {Qc : Array Value → State → Outcome → State → Prop} {mc ms rc rs : Nat} {free : Addr → Prop} {bytes : ByteArray} {maxL : Nat} {ret : Option FieldType}
    (hM : Met l y ws rm Pc Qc mc ms free) (hblind : FrameBlind Pc) (hrc : rm.cells = rc) (hrs : rm.slots = rs) (hframes : rm.frames + 1 ≤ R.frames) (hlocals : Wd + (maxL + 11) + rm.locals ≤ R.locals)
    (hws : ∀ w ∈ ws, ∀ a' U, s.WarmedH U.vm → w.before a' U = true) (hcode : Cond.code y bytes maxL ret ∈ ws) (hinit : ∀ a' U, s.WarmedH U.vm → (Cond.initialized y.cls).before a' U = true) :
    Back l R p e below s sargs y len Wd (PreOf R rc rs Pc) (PostOf Qc mc ms free) := by
  refine Back.of_free (S := headSpec ws rm) (P := Pc) (K := fun _ _ _ _ _ => True) (Q := fun a st o t => Qc a st o t ∧ ∃ L, FrameEnd st o t L mc ms ∧ ∀ q ∈ L, free q.base) (bytes := bytes) (maxL := maxL) (ret := ret)
    (E := fun a st o t L k n => k = mc ∧ n = ms ∧ ∀ q ∈ L, free q.base) hM hframes hlocals ?_ ?_ (fun _ _ _ _ _ _ _ _ _ => trivial) ?_ ?_
  · intro m meth c A a X hp
    exact ⟨atoms_intro fun w hw => hws w hw _ _ X.warmed, hws _ hcode _ _ X.warmed, hinit _ _ X.warmed, by rw [show (headSpec ws rm).room.cells = rc from hrc]; exact hp.1, by rw [show (headSpec ws rm).room.slots = rs from hrs]; exact hp.2.1⟩
  · intro m meth c A a g mk X hp
    exact hblind _ _ _ _ hp.2.2
  · intro a st o t ⟨hq, L, hF, hL⟩
    exact ⟨L, mc, ms, hF, rfl, rfl, hL⟩
  · intro m meth c A a g mk v t L k n X hp hq hF ⟨e1, e2, hL⟩
    subst e1; subst e2
    exact ⟨g, mk, t, L, rfl, rfl, hq.1, rfl, hL, rfl, rfl⟩
end GXC
theorem gx_wsok {s : State} {args : Array Value} (hts : ∀ w ∈ gx_T, w.before args s = true) {y : MethodName} {cc : ByteArray} {mL : Nat} {rt : Option FieldType} (hc : Cond.code y cc mL rt ∈ gx_T) : ∀ w ∈ Cond.code y cc mL rt :: gx_T, ∀ (a' : Array Value) (U : State), s.WarmedH U.vm → w.before a' U = true := by
  intro w hw a' U hW
  have h1 : w ∈ gx_T := by
    rcases List.mem_cons.mp hw with rfl | h
    · exact hc
    · exact h
  exact word_at hW (gx_good w h1) (hts w h1)
theorem gx_blind {V : gx_V} {av : List Value} {sz : Nat} {ws : va_W} : FrameBlind (va_Pc av (fun U => U.heap.size = sz ∧ va_P V.1.1 V.1.2.1 ws U.heap ∧ va_K V.1.1 V.1.2.1 V.1.2.2 U ∧ va_D (fun _ => True) ws)) := by
  intro a U g mk q
  obtain ⟨q0, q1, qP, qK, qD⟩ := q
  exact ⟨q0, q1, qP, va_K.moved (u := U) (U := U.calling g mk a) (Vm.Alike.refl U.vm) qK, qD⟩
section GXD
variable {V : gx_V} {X : gx_X} {cc : ByteArray} {own : String} {nL fr lo : Nat} {rt : Option FieldType} {res : gx_R} {σ : gx_S} {pc : Nat} {lv : List (Nat × Value)} {st : List Value}
/-- invokevirtual of a method with a contract -/
theorem gx_callV (hX : gx_K V X cc own nL fr lo rt) {y : MethodName} {ccy : ByteArray} {mL fry loy idx b : Nat} {rty : Option FieldType} {resy : gx_R} {k : gx_S → Int32 → gx_R} {stk : List Value} (As : List Value) (n : Nat)
    (hM : gx_C X.1.2.1 V y ccy mL rty fry loy (.ref b :: As) σ resy)
    (hy : (y.cls ≠ "java/lang/invoke/MethodHandle" ∧ y.cls ≠ "java/lang/invoke/VarHandle") ∧ (parseMethodDescriptor y.desc).map (fun d => d.parameters.length) = some As.length)
    (hcode : Cond.code y ccy mL rty ∈ gx_T) (hlink : Cond.methodLink own idx y ∈ gx_T) (hinst : Cond.instanceMethod y ∈ gx_T) (hsel : Cond.selects y.cls y y ∈ gx_T) (hini : Cond.initialized y.cls ∈ gx_T)
    (hrecv : ∃ (q0 ci : Nat) (q : u_T × Nat), V.1.2.1[ci]? = some (y.cls, q) ∧ ∀ ar, ∃ fs, (V.2.1 ar σ)[q0]? = some (b, .inr (ci, fs)))
    (hroom : fry + 1 ≤ fr ∧ 8 + (mL + 11) + loy ≤ lo) (hst : (st.map fun v => v.category).sum ≤ 8) (hd : decode cc pc = .ok (.invokevirtual idx, 3)) (hn : pc + 3 = n) (hstk : stk = As.reverse ++ .ref b :: st)
    (kk : ∀ σ' r, gx_G V X (k σ' r) σ' n lv ((if rty.isNone then [] else [.int r]) ++ st)) : gx_G V X (gx_bd resy k) σ pc lv stk := by
  subst hn
  subst hstk
  obtain ⟨⟨p, l, e, R, s, m, args, below, meth, c⟩, A, σ0, vd⟩ := X
  obtain ⟨hx, hb, hml, hown, hts, hr, hlocks, hK, hA, hfr, hlo, hRc, hRs, hvd⟩ := hX
  intro out h1 h2 ar H locs cells slots ls hls hP hD hS hc hs
  cases hres : resy with
  | none => rw [hres] at h1; cases h1
  | some o =>
    rw [hres] at h1
    have h1 : k o.1 o.2 = some out := h1
    have hMet := hM o hres h2 ar H.size
    have hsub : ∀ q, va_A (V.2.1 ar σ) H.size q → A q := fun q h => h.elim (fun ⟨k', e', hk'⟩ => hD.2 k' (q, e') hk') (fun h => hA q (Nat.le_trans hS.1 h))
    intro T hT X0
    have hBk : Back l R p e below s args y 3 8 (PreOf R (V.2.2.2.1 σ) (V.2.2.2.2 σ) _) _ := gx_back hMet gx_blind rfl rfl (by show fry + 1 ≤ R.frames; omega) (by show 8 + (mL + 11) + loy ≤ R.locals; omega) (gx_wsok hts hcode) List.mem_cons_self (fun a' U hW => word_at hW (gx_good _ hini) (hts _ hini))
    obtain ⟨q0, ci, q, hci, hq0⟩ := hrecv
    obtain ⟨fs, hq0⟩ := hq0 ar
    obtain ⟨cell, hcell, hobj, hcls⟩ := va_recv hK hP hci hq0
    obtain ⟨v, vm₁, ⟨U', l2, c2, s2⟩, hW₁, X', ⟨g', mk, t, L, e1, e2, hq, h1', hL, h2', h3'⟩, stp⟩ := callV X0 hx (C := y.cls) (bytes := ccy) (maxL := mL) (ret := rty) hown (hts _ hlink) (hts _ hinst) (hts _ hsel) (hts _ hcode) hy.1 hBk (by rw [hT]; exact hcell) hobj hcls (g := F0 m pc ls (As.reverse ++ .ref b :: st)) rfl hls.1 (argsL := As) (rest := st) (fun sig h => by have h3 := hy.2; rw [h] at h3; exact (Option.some.inj h3).symm) rfl (lv_room (m := m) (pc := pc) (ls := ls) (rest := As.reverse ++ .ref b :: st) hst) (by rw [hb]; exact hd)
      (fun vm₁ hW₁ => ⟨by show cells + V.2.2.2.1 σ ≤ R.cells; omega, by show slots + V.2.2.2.2 σ ≤ R.slots; omega, rfl, by show T.heap.size = H.size; rw [hT], by show va_P _ _ _ T.heap; rw [hT]; exact hP, va_K.moved hW₁.alike hK, hD.weaken (fun _ _ _ _ => trivial)⟩)
    dsimp only [Pt.U, Pt.locs, Pt.cells, Pt.slots] at X' e1 e2 h1' h2' h3' stp
    subst h1'; subst h2'; subst h3'
    obtain ⟨hv, hok, hpc, hps, ⟨ar', hP', hD'⟩, hF⟩ := hq
    have hv : v = if rty.isNone then none else some (.int o.2) := Outcome.returned.inj hv
    have hF : va_F (va_A (V.2.1 ar σ) H.size) _ t := hF
    have hz : H.size ≤ t.heap.size := by have := hF.1; rw [show ((T.setVm vm₁).calling g' mk (Value.ref b :: As).toArray).heap = H from hT] at this; exact this
    have hkeep : ∀ q : Nat, q < H.size → ¬ va_A (V.2.1 ar σ) H.size q → t.heap[q]? = H[q]? := fun q a1 a2 => by
      have := hF.2 q (by rw [show ((T.setVm vm₁).calling g' mk (Value.ref b :: As).toArray).heap = H from hT]; exact a1) a2
      rw [show ((T.setVm vm₁).calling g' mk (Value.ref b :: As).toArray).heap = H from hT] at this; exact this
    have hS' : va_S A s.heap t.heap (locs ++ L) := by
      refine ⟨Nat.le_trans hS.1 hz, fun q a1 a2 => ?_, fun q hq => ?_⟩
      · rw [hkeep q (Nat.lt_of_lt_of_le a1 hS.1) (fun h => a2 (hsub q h))]; exact hS.2.1 q a1 a2
      · rcases List.mem_append.mp hq with h | h
        · exact hS.2.2 q h
        · exact hsub _ (hL q h)
    obtain ⟨t2, a1, b1⟩ := kk o.1 o.2 out h1 hok ar' t.heap (locs ++ L) (cells + (V.2.2.2.1 σ - V.2.2.2.1 o.1)) (slots + (V.2.2.2.2 σ - V.2.2.2.2 o.1)) ls hls hP' (hD'.weaken (fun _ q _ h => hsub q.1 h)) hS' (by omega) (by omega) U' e1 X'
    refine ⟨t2, stp t2 ?_, b1⟩
    subst hv
    cases hn : rty.isNone <;> rw [hn] at a1 <;> exact a1
end GXD
end
section
/-! A UNIVERSE of fixed objects and fixed arrays of small numbers: objects 0 .. nO - 1 at ob k, arrays at ob (nO + j), of the type ty j, the length ln j; a state: int fields by number, arrays' contents by number -/
abbrev gf_U : Type := (Nat × Nat) × (gx_S → Nat → Nat × List Value) × (Nat → Nat) × (Nat → ClassId) × (Nat → Nat)
def gf_w (u : gf_U) (ob : Nat → Nat) (σ : gx_S) : va_W :=
  (List.range u.1.1).map (fun k => (ob k, Sum.inr (u.2.1 σ k))) ++ (List.range u.1.2).map (fun j => (ob (u.1.1 + j), Sum.inl (u.2.2.2.1 j, u.2.2.2.2 j, Sum.inl (σ.2.1 j))))
def gf_V (D : va_G) (cl : List vw_C) (tys : List (ClassId × FieldType)) (u : gf_U) (ob : Nat → Nat) : gx_V := ((D, cl, tys), (fun _ σ => gf_w u ob σ), (fun _ => True), (fun _ => 0), (fun _ => 0))
def gx_si (σ : gx_S) (k : Nat) (v : Int32) : gx_S := (upd σ.1 k v, σ.2.1, σ.2.2)
def gx_sa (σ : gx_S) (j i : Nat) (v : Int32) : gx_S := (σ.1, (fun q => if q = j then upd (σ.2.1 j) i v else σ.2.1 q), σ.2.2)
theorem gf_wo {u : gf_U} {ob : Nat → Nat} {σ : gx_S} (k : Nat) (hk : k < u.1.1) : (gf_w u ob σ)[k]? = some (ob k, Sum.inr (u.2.1 σ k)) := by
  unfold gf_w
  rw [List.getElem?_append_left (by rw [List.length_map, List.length_range]; exact hk), List.getElem?_map, List.getElem?_range hk]
  rfl
theorem gf_wa {u : gf_U} {ob : Nat → Nat} {σ : gx_S} (j : Nat) (hj : j < u.1.2) : (gf_w u ob σ)[u.1.1 + j]? = some (ob (u.1.1 + j), Sum.inl (u.2.2.2.1 j, u.2.2.2.2 j, Sum.inl (σ.2.1 j))) := by
  unfold gf_w
  rw [List.getElem?_append_right (by rw [List.length_map, List.length_range]; omega), List.length_map, List.length_range, List.getElem?_map, show u.1.1 + j - u.1.1 = j by omega, List.getElem?_range hj]
  rfl
theorem gf_wlen {u : gf_U} {ob : Nat → Nat} {σ : gx_S} : (gf_w u ob σ).length = u.1.1 + u.1.2 := by
  unfold gf_w
  rw [List.length_append, List.length_map, List.length_map, List.length_range, List.length_range]
theorem gf_wext {u : gf_U} {ob : Nat → Nat} {σ : gx_S} {l : va_W} (hl : l.length = u.1.1 + u.1.2) (ho : ∀ k, k < u.1.1 → l[k]? = some (ob k, Sum.inr (u.2.1 σ k))) (ha : ∀ j, j < u.1.2 → l[u.1.1 + j]? = some (ob (u.1.1 + j), Sum.inl (u.2.2.2.1 j, u.2.2.2.2 j, Sum.inl (σ.2.1 j)))) : l = gf_w u ob σ := by
  apply List.ext_getElem?
  intro i
  by_cases h1 : i < u.1.1
  · rw [ho i h1, gf_wo i h1]
  · by_cases h2 : i < u.1.1 + u.1.2
    · have h3 : i = u.1.1 + (i - u.1.1) := by omega
      rw [h3, ha (i - u.1.1) (by omega), gf_wa (i - u.1.1) (by omega)]
    · rw [List.getElem?_eq_none (by omega), List.getElem?_eq_none (by rw [gf_wlen]; omega)]
theorem gf_setO {u : gf_U} {ob : Nat → Nat} {σ σ' : gx_S} {k : Nat} {e : Nat × List Value} (hk : k < u.1.1) (he : u.2.1 σ' k = e) (ho : ∀ q, q < u.1.1 → q ≠ k → u.2.1 σ' q = u.2.1 σ q) (ha : σ'.2.1 = σ.2.1) : (gf_w u ob σ).set k (ob k, Sum.inr e) = gf_w u ob σ' := by
  refine gf_wext (by rw [List.length_set, gf_wlen]) (fun q hq => ?_) (fun j hj => ?_)
  · by_cases h : k = q
    · subst h
      rw [List.getElem?_set_self (by rw [gf_wlen]; omega), he]
    · rw [List.getElem?_set_ne h, gf_wo q hq, ho q hq (fun e => h e.symm)]
  · rw [List.getElem?_set_ne (by omega), gf_wa j hj, ha]
theorem gf_setA {u : gf_U} {ob : Nat → Nat} {σ σ' : gx_S} {j : Nat} {f : Nat → Int32} (hj : j < u.1.2) (ho : ∀ q, q < u.1.1 → u.2.1 σ' q = u.2.1 σ q) (hf : σ'.2.1 j = f) (ha : ∀ q, q ≠ j → σ'.2.1 q = σ.2.1 q) : (gf_w u ob σ).set (u.1.1 + j) (ob (u.1.1 + j), Sum.inl (u.2.2.2.1 j, u.2.2.2.2 j, Sum.inl f)) = gf_w u ob σ' := by
  refine gf_wext (by rw [List.length_set, gf_wlen]) (fun q hq => ?_) (fun q hq => ?_)
  · rw [List.getElem?_set_ne (by omega), gf_wo q hq, ho q hq]
  · by_cases h : j = q
    · subst h
      rw [List.getElem?_set_self (by rw [gf_wlen]; omega), hf]
    · rw [List.getElem?_set_ne (by omega), gf_wa q hq, ha q (fun e => h e.symm)]
section GF
variable {D : va_G} {cl : List vw_C} {tys : List (ClassId × FieldType)} {u : gf_U} {ob : Nat → Nat} {X : gx_X} {cc : ByteArray} {own : String} {nL fr lo : Nat} {rt : Option FieldType} {res : gx_R} {σ : gx_S} {pc : Nat} {lv : List (Nat × Value)} {st : List Value}
/-- getfield -/
theorem gf_get (hX : gx_K (gf_V D cl tys u ob) X cc own nL fr lo rt) {C : String} {T : u_T} {N ci idx : Nat} {v : Value} (k f n : Nat) (hk : k < u.1.1) (hc : cl[ci]? = some (C, T, N)) (hin : ∀ w ∈ u_ws C T N, w ∈ gx_T) (hf : f < N) (hlink : Cond.fieldLink own idx (T f).1 (T f).2.1 (T f).2.2.1 ∈ gx_T) (hO : (u.2.1 σ k).1 = ci) (hv : (u.2.1 σ k).2[f]? = some v) (hd : decode cc pc = .ok (.getfield idx, 3)) (hn : pc + 3 = n)
    (kk : gx_G (gf_V D cl tys u ob) X res σ n lv (v :: st)) : gx_G (gf_V D cl tys u ob) X res σ pc lv (.ref (ob k) :: st) := by
  subst hn
  obtain ⟨⟨p, l, e, R, s, m, args, below, meth, c⟩, A, σ0, vd⟩ := X
  obtain ⟨hx, hb, hml, hown, hts, hr, hlocks, hK, hA, -⟩ := hX
  intro out h1 h2 ar H locs cells slots ls hls hP hD hS hc' hs
  have hP' : va_P D cl (gf_w u ob σ) H := hP
  have hK' : va_K D cl tys s := hK
  exact va_get (ci := ci) hx hb hts hin hown hK' hP' k (fs := (u.2.1 σ k).2) (by rw [gf_wo k hk, ← hO]) hc f hf (hts _ hlink) (fun _ h => h) hv hd (kk out h1 h2 ar H locs cells slots ls hls hP hD hS hc' hs)
/-- putfield of an int field -/
theorem gf_put (hX : gx_K (gf_V D cl tys u ob) X cc own nL fr lo rt) {C : String} {T : u_T} {N ci idx : Nat} {x : Int32} {kf : gx_S → gx_R} (k f iv n : Nat) (hk : k < u.1.1) (hc : cl[ci]? = some (C, T, N)) (hin : ∀ w ∈ u_ws C T N, w ∈ gx_T) (ty0 : Nat → FieldType) (hty : ∀ k, k < N → parseFieldDescriptor (T k).2.2.1 = some (ty0 k)) (hnm : ∀ a, a < N → ∀ b, b < N → a ≠ b → (T a).2.1 ≠ (T b).2.1) (hf : f < N) (hlink : Cond.fieldLink own idx (T f).1 (T f).2.1 (T f).2.2.1 ∈ gx_T) (hfin : (T f).2.2.2 = false) (hdd : parseFieldDescriptor (T f).2.2.1 = some .int)
    (hO : (u.2.1 σ k).1 = ci) (hl : f < (u.2.1 σ k).2.length) (hO2 : u.2.1 (gx_si σ iv x) k = (ci, (u.2.1 σ k).2.set f (.int x))) (hne : ∀ q, q < u.1.1 → q ≠ k → u.2.1 (gx_si σ iv x) q = u.2.1 σ q) (hd : decode cc pc = .ok (.putfield idx, 3)) (hn : pc + 3 = n)
    (kk : ∀ σ', gx_G (gf_V D cl tys u ob) X (kf σ') σ' n lv st) : gx_G (gf_V D cl tys u ob) X (gx_sb (gx_si σ iv x) kf) σ pc lv (.int x :: .ref (ob k) :: st) := by
  subst hn
  obtain ⟨⟨p, l, e, R, s, m, args, below, meth, c⟩, A, σ0, vd⟩ := X
  obtain ⟨hx, hb, hml, hown, hts, hr, hlocks, hK, hA, -⟩ := hX
  intro out h1 h2 ar H locs cells slots ls hls hP hD hS hc' hs
  have hP' : va_P D cl (gf_w u ob σ) H := hP
  have hD' : va_D A (gf_w u ob σ) := hD
  have hK' : va_K D cl tys s := hK
  refine va_put (ci := ci) (ty := .int) hx hb hts hin ty0 hty hnm hown hK' hP' hD' hS k (fs := (u.2.1 σ k).2) (by rw [gf_wo k hk, ← hO]) hc f hf (hts _ hlink) (fun _ h => h) hfin hdd rfl rfl hl hd (fun H1 locs1 hP1 hD1 hS1 => ?_)
  have e := gf_setO (ob := ob) (σ := σ) (σ' := gx_si σ iv x) hk hO2 hne rfl
  rw [e] at hP1 hD1
  exact kk (gx_si σ iv x) out h1 h2 ar H1 locs1 cells slots ls hls hP1 hD1 hS1 hc' hs
end GF
end
