section
-- ===== PART A: goes FIRST, ahead of the names: the tables' words, and 'selects' of the private methods out of them =====
/-- a private method of a class that the tables say can be made, by its rows of tables_1 -/
def lw_okq (q : MethodName × Nat) : Prop := (q.1.cls ≠ "java/lang/invoke/MethodHandle" ∧ q.1.cls ≠ "java/lang/invoke/VarHandle") ∧ Cond.instantiable q.1.cls q.2 ∈ tables_1 ∧ Cond.privateMethod q.1 ∈ tables_1 ∧ Cond.instanceMethod q.1 ∈ tables_1
theorem lw_p0 : lw_okq (⟨"TypeLoom", "leaf", "(IIZ)I"⟩, 8) := ⟨⟨by decide +kernel, by decide +kernel⟩, List.mem_of_getElem? (i := 15) (by decide +kernel), List.mem_of_getElem? (i := 519) (by decide +kernel), List.mem_of_getElem? (i := 520) (by decide +kernel)⟩
theorem lw_p1 : lw_okq (⟨"TypeLoom$Unifier", "begin", "()V"⟩, 18) := ⟨⟨by decide +kernel, by decide +kernel⟩, List.mem_of_getElem? (i := 250) (by decide +kernel), List.mem_of_getElem? (i := 539) (by decide +kernel), List.mem_of_getElem? (i := 540) (by decide +kernel)⟩
theorem lw_p2 : lw_okq (⟨"TypeLoom$Unifier", "meet", "(II)Z"⟩, 18) := ⟨⟨by decide +kernel, by decide +kernel⟩, List.mem_of_getElem? (i := 250) (by decide +kernel), List.mem_of_getElem? (i := 543) (by decide +kernel), List.mem_of_getElem? (i := 544) (by decide +kernel)⟩
theorem lw_p3 : lw_okq (⟨"TypeLoom$Unifier", "bind", "(II)Z"⟩, 18) := ⟨⟨by decide +kernel, by decide +kernel⟩, List.mem_of_getElem? (i := 250) (by decide +kernel), List.mem_of_getElem? (i := 552) (by decide +kernel), List.mem_of_getElem? (i := 553) (by decide +kernel)⟩
theorem lw_p4 : lw_okq (⟨"TypeLoom$Unifier", "canBeIn", "(III)Z"⟩, 18) := ⟨⟨by decide +kernel, by decide +kernel⟩, List.mem_of_getElem? (i := 250) (by decide +kernel), List.mem_of_getElem? (i := 556) (by decide +kernel), List.mem_of_getElem? (i := 557) (by decide +kernel)⟩
theorem lw_p5 : lw_okq (⟨"TypeLoom$Unifier", "join", "(III)V"⟩, 18) := ⟨⟨by decide +kernel, by decide +kernel⟩, List.mem_of_getElem? (i := 250) (by decide +kernel), List.mem_of_getElem? (i := 560) (by decide +kernel), List.mem_of_getElem? (i := 561) (by decide +kernel)⟩
theorem lw_p6 : lw_okq (⟨"TypeLoom$Unifier", "change", "(IIII)V"⟩, 18) := ⟨⟨by decide +kernel, by decide +kernel⟩, List.mem_of_getElem? (i := 250) (by decide +kernel), List.mem_of_getElem? (i := 565) (by decide +kernel), List.mem_of_getElem? (i := 566) (by decide +kernel)⟩
theorem lw_p7 : lw_okq (⟨"TypeLoom$Unifier", "joinVariables", "(II)Z"⟩, 18) := ⟨⟨by decide +kernel, by decide +kernel⟩, List.mem_of_getElem? (i := 250) (by decide +kernel), List.mem_of_getElem? (i := 570) (by decide +kernel), List.mem_of_getElem? (i := 571) (by decide +kernel)⟩
theorem lw_p8 : lw_okq (⟨"TypeLoom$Unifier", "meetRows", "(II)Z"⟩, 18) := ⟨⟨by decide +kernel, by decide +kernel⟩, List.mem_of_getElem? (i := 250) (by decide +kernel), List.mem_of_getElem? (i := 574) (by decide +kernel), List.mem_of_getElem? (i := 575) (by decide +kernel)⟩
theorem lw_p9 : lw_okq (⟨"TypeLoom$Unifier", "copyMissing", "(II)I"⟩, 18) := ⟨⟨by decide +kernel, by decide +kernel⟩, List.mem_of_getElem? (i := 250) (by decide +kernel), List.mem_of_getElem? (i := 587) (by decide +kernel), List.mem_of_getElem? (i := 588) (by decide +kernel)⟩
theorem lw_p10 : lw_okq (⟨"TypeLoom$Unifier", "bindRow", "(IIII)V"⟩, 18) := ⟨⟨by decide +kernel, by decide +kernel⟩, List.mem_of_getElem? (i := 250) (by decide +kernel), List.mem_of_getElem? (i := 600) (by decide +kernel), List.mem_of_getElem? (i := 601) (by decide +kernel)⟩
theorem lw_p11 : lw_okq (⟨"TypeLoom$Unifier", "settle", "(I)Z"⟩, 18) := ⟨⟨by decide +kernel, by decide +kernel⟩, List.mem_of_getElem? (i := 250) (by decide +kernel), List.mem_of_getElem? (i := 605) (by decide +kernel), List.mem_of_getElem? (i := 606) (by decide +kernel)⟩
theorem lw_p12 : lw_okq (⟨"TypeLoom$Walk", "enter", "(II)I"⟩, 9) := ⟨⟨by decide +kernel, by decide +kernel⟩, List.mem_of_getElem? (i := 176) (by decide +kernel), List.mem_of_getElem? (i := 618) (by decide +kernel), List.mem_of_getElem? (i := 619) (by decide +kernel)⟩
theorem lw_p13 : lw_okq (⟨"TypeLoom$Unifier", "handDown", "(I)Z"⟩, 18) := ⟨⟨by decide +kernel, by decide +kernel⟩, List.mem_of_getElem? (i := 250) (by decide +kernel), List.mem_of_getElem? (i := 633) (by decide +kernel), List.mem_of_getElem? (i := 634) (by decide +kernel)⟩
theorem lw_p14 : lw_okq (⟨"TypeLoom$Unifier", "narrow", "(I)Z"⟩, 18) := ⟨⟨by decide +kernel, by decide +kernel⟩, List.mem_of_getElem? (i := 250) (by decide +kernel), List.mem_of_getElem? (i := 645) (by decide +kernel), List.mem_of_getElem? (i := 646) (by decide +kernel)⟩
theorem lw_p15 : lw_okq (⟨"TypeLoom$Unifier", "give", "(III)Z"⟩, 18) := ⟨⟨by decide +kernel, by decide +kernel⟩, List.mem_of_getElem? (i := 250) (by decide +kernel), List.mem_of_getElem? (i := 658) (by decide +kernel), List.mem_of_getElem? (i := 659) (by decide +kernel)⟩
def lw_privs_1 : List (MethodName × Nat) := [(⟨"TypeLoom", "leaf", "(IIZ)I"⟩, 8), (⟨"TypeLoom$Unifier", "begin", "()V"⟩, 18), (⟨"TypeLoom$Unifier", "meet", "(II)Z"⟩, 18), (⟨"TypeLoom$Unifier", "bind", "(II)Z"⟩, 18), (⟨"TypeLoom$Unifier", "canBeIn", "(III)Z"⟩, 18), (⟨"TypeLoom$Unifier", "join", "(III)V"⟩, 18), (⟨"TypeLoom$Unifier", "change", "(IIII)V"⟩, 18), (⟨"TypeLoom$Unifier", "joinVariables", "(II)Z"⟩, 18), (⟨"TypeLoom$Unifier", "meetRows", "(II)Z"⟩, 18), (⟨"TypeLoom$Unifier", "copyMissing", "(II)I"⟩, 18), (⟨"TypeLoom$Unifier", "bindRow", "(IIII)V"⟩, 18), (⟨"TypeLoom$Unifier", "settle", "(I)Z"⟩, 18), (⟨"TypeLoom$Walk", "enter", "(II)I"⟩, 9), (⟨"TypeLoom$Unifier", "handDown", "(I)Z"⟩, 18), (⟨"TypeLoom$Unifier", "narrow", "(I)Z"⟩, 18), (⟨"TypeLoom$Unifier", "give", "(III)Z"⟩, 18)]
theorem lw_r1 : ∀ q ∈ lw_privs_1, lw_okq q := List.forall_mem_cons.mpr ⟨lw_p0, List.forall_mem_cons.mpr ⟨lw_p1, List.forall_mem_cons.mpr ⟨lw_p2, List.forall_mem_cons.mpr ⟨lw_p3, List.forall_mem_cons.mpr ⟨lw_p4, List.forall_mem_cons.mpr ⟨lw_p5, List.forall_mem_cons.mpr ⟨lw_p6, List.forall_mem_cons.mpr ⟨lw_p7, List.forall_mem_cons.mpr ⟨lw_p8, List.forall_mem_cons.mpr ⟨lw_p9, List.forall_mem_cons.mpr ⟨lw_p10, List.forall_mem_cons.mpr ⟨lw_p11, List.forall_mem_cons.mpr ⟨lw_p12, List.forall_mem_cons.mpr ⟨lw_p13, List.forall_mem_cons.mpr ⟨lw_p14, List.forall_mem_cons.mpr ⟨lw_p15, fun _ h => absurd h List.not_mem_nil⟩⟩⟩⟩⟩⟩⟩⟩⟩⟩⟩⟩⟩⟩⟩⟩
theorem lw_p16 : lw_okq (⟨"TypeLoom$Unifier", "takeBack", "()V"⟩, 18) := ⟨⟨by decide +kernel, by decide +kernel⟩, List.mem_of_getElem? (i := 250) (by decide +kernel), List.mem_of_getElem? (i := 662) (by decide +kernel), List.mem_of_getElem? (i := 663) (by decide +kernel)⟩
theorem lw_p17 : lw_okq (⟨"TypeLoom$Shapes", "hash", "(I)I"⟩, 7) := ⟨⟨by decide +kernel, by decide +kernel⟩, List.mem_of_getElem? (i := 216) (by decide +kernel), List.mem_of_getElem? (i := 692) (by decide +kernel), List.mem_of_getElem? (i := 693) (by decide +kernel)⟩
theorem lw_p18 : lw_okq (⟨"TypeLoom$Shapes", "isLeaf", "(I)Z"⟩, 7) := ⟨⟨by decide +kernel, by decide +kernel⟩, List.mem_of_getElem? (i := 216) (by decide +kernel), List.mem_of_getElem? (i := 696) (by decide +kernel), List.mem_of_getElem? (i := 697) (by decide +kernel)⟩
theorem lw_p19 : lw_okq (⟨"TypeLoom$Shapes", "rankOf", "(II)I"⟩, 7) := ⟨⟨by decide +kernel, by decide +kernel⟩, List.mem_of_getElem? (i := 216) (by decide +kernel), List.mem_of_getElem? (i := 708) (by decide +kernel), List.mem_of_getElem? (i := 709) (by decide +kernel)⟩
theorem lw_p20 : lw_okq (⟨"TypeLoom$Shapes", "isLike", "(II)Z"⟩, 7) := ⟨⟨by decide +kernel, by decide +kernel⟩, List.mem_of_getElem? (i := 216) (by decide +kernel), List.mem_of_getElem? (i := 712) (by decide +kernel), List.mem_of_getElem? (i := 713) (by decide +kernel)⟩
theorem lw_p21 : lw_okq (⟨"TypeLoom$Walk", "isFree", "(I)Z"⟩, 9) := ⟨⟨by decide +kernel, by decide +kernel⟩, List.mem_of_getElem? (i := 176) (by decide +kernel), List.mem_of_getElem? (i := 727) (by decide +kernel), List.mem_of_getElem? (i := 728) (by decide +kernel)⟩
theorem lw_p22 : lw_okq (⟨"TypeLoom", "levelOf", "(I)I"⟩, 8) := ⟨⟨by decide +kernel, by decide +kernel⟩, List.mem_of_getElem? (i := 15) (by decide +kernel), List.mem_of_getElem? (i := 732) (by decide +kernel), List.mem_of_getElem? (i := 733) (by decide +kernel)⟩
theorem lw_p23 : lw_okq (⟨"TypeLoom$Schemes", "isBarred", "(II)Z"⟩, 18) := ⟨⟨by decide +kernel, by decide +kernel⟩, List.mem_of_getElem? (i := 313) (by decide +kernel), List.mem_of_getElem? (i := 752) (by decide +kernel), List.mem_of_getElem? (i := 753) (by decide +kernel)⟩
theorem lw_p24 : lw_okq (⟨"TypeLoom$Schemes", "write", "(II)V"⟩, 18) := ⟨⟨by decide +kernel, by decide +kernel⟩, List.mem_of_getElem? (i := 313) (by decide +kernel), List.mem_of_getElem? (i := 759) (by decide +kernel), List.mem_of_getElem? (i := 760) (by decide +kernel)⟩
theorem lw_p25 : lw_okq (⟨"TypeLoom$Schemes", "putType", "(III)V"⟩, 18) := ⟨⟨by decide +kernel, by decide +kernel⟩, List.mem_of_getElem? (i := 313) (by decide +kernel), List.mem_of_getElem? (i := 763) (by decide +kernel), List.mem_of_getElem? (i := 764) (by decide +kernel)⟩
theorem lw_p26 : lw_okq (⟨"TypeLoom$Schemes", "spawnOne", "(II)I"⟩, 18) := ⟨⟨by decide +kernel, by decide +kernel⟩, List.mem_of_getElem? (i := 313) (by decide +kernel), List.mem_of_getElem? (i := 790) (by decide +kernel), List.mem_of_getElem? (i := 791) (by decide +kernel)⟩
theorem lw_p27 : lw_okq (⟨"TypeLoom$Schemes", "matchOne", "(II)Z"⟩, 18) := ⟨⟨by decide +kernel, by decide +kernel⟩, List.mem_of_getElem? (i := 313) (by decide +kernel), List.mem_of_getElem? (i := 805) (by decide +kernel), List.mem_of_getElem? (i := 806) (by decide +kernel)⟩
theorem lw_p28 : lw_okq (⟨"TypeLoomModel", "isType", "(I)Z"⟩, 73) := ⟨⟨by decide +kernel, by decide +kernel⟩, List.mem_of_getElem? (i := 830) (by decide +kernel), List.mem_of_getElem? (i := 1072) (by decide +kernel), List.mem_of_getElem? (i := 1073) (by decide +kernel)⟩
theorem lw_p29 : lw_okq (⟨"TypeLoomModel", "areAll", "(Z)Z"⟩, 73) := ⟨⟨by decide +kernel, by decide +kernel⟩, List.mem_of_getElem? (i := 830) (by decide +kernel), List.mem_of_getElem? (i := 1080) (by decide +kernel), List.mem_of_getElem? (i := 1081) (by decide +kernel)⟩
theorem lw_p30 : lw_okq (⟨"TypeLoomModel", "make", "(II)I"⟩, 73) := ⟨⟨by decide +kernel, by decide +kernel⟩, List.mem_of_getElem? (i := 830) (by decide +kernel), List.mem_of_getElem? (i := 1084) (by decide +kernel), List.mem_of_getElem? (i := 1085) (by decide +kernel)⟩
theorem lw_p31 : lw_okq (⟨"TypeLoomModel", "addPart", "(III)V"⟩, 73) := ⟨⟨by decide +kernel, by decide +kernel⟩, List.mem_of_getElem? (i := 830) (by decide +kernel), List.mem_of_getElem? (i := 1088) (by decide +kernel), List.mem_of_getElem? (i := 1089) (by decide +kernel)⟩
def lw_privs_2 : List (MethodName × Nat) := [(⟨"TypeLoom$Unifier", "takeBack", "()V"⟩, 18), (⟨"TypeLoom$Shapes", "hash", "(I)I"⟩, 7), (⟨"TypeLoom$Shapes", "isLeaf", "(I)Z"⟩, 7), (⟨"TypeLoom$Shapes", "rankOf", "(II)I"⟩, 7), (⟨"TypeLoom$Shapes", "isLike", "(II)Z"⟩, 7), (⟨"TypeLoom$Walk", "isFree", "(I)Z"⟩, 9), (⟨"TypeLoom", "levelOf", "(I)I"⟩, 8), (⟨"TypeLoom$Schemes", "isBarred", "(II)Z"⟩, 18), (⟨"TypeLoom$Schemes", "write", "(II)V"⟩, 18), (⟨"TypeLoom$Schemes", "putType", "(III)V"⟩, 18), (⟨"TypeLoom$Schemes", "spawnOne", "(II)I"⟩, 18), (⟨"TypeLoom$Schemes", "matchOne", "(II)Z"⟩, 18), (⟨"TypeLoomModel", "isType", "(I)Z"⟩, 73), (⟨"TypeLoomModel", "areAll", "(Z)Z"⟩, 73), (⟨"TypeLoomModel", "make", "(II)I"⟩, 73), (⟨"TypeLoomModel", "addPart", "(III)V"⟩, 73)]
theorem lw_r2 : ∀ q ∈ lw_privs_2, lw_okq q := List.forall_mem_cons.mpr ⟨lw_p16, List.forall_mem_cons.mpr ⟨lw_p17, List.forall_mem_cons.mpr ⟨lw_p18, List.forall_mem_cons.mpr ⟨lw_p19, List.forall_mem_cons.mpr ⟨lw_p20, List.forall_mem_cons.mpr ⟨lw_p21, List.forall_mem_cons.mpr ⟨lw_p22, List.forall_mem_cons.mpr ⟨lw_p23, List.forall_mem_cons.mpr ⟨lw_p24, List.forall_mem_cons.mpr ⟨lw_p25, List.forall_mem_cons.mpr ⟨lw_p26, List.forall_mem_cons.mpr ⟨lw_p27, List.forall_mem_cons.mpr ⟨lw_p28, List.forall_mem_cons.mpr ⟨lw_p29, List.forall_mem_cons.mpr ⟨lw_p30, List.forall_mem_cons.mpr ⟨lw_p31, fun _ h => absurd h List.not_mem_nil⟩⟩⟩⟩⟩⟩⟩⟩⟩⟩⟩⟩⟩⟩⟩⟩
theorem lw_p32 : lw_okq (⟨"TypeLoomModel", "makeRow", "(IZ)I"⟩, 73) := ⟨⟨by decide +kernel, by decide +kernel⟩, List.mem_of_getElem? (i := 830) (by decide +kernel), List.mem_of_getElem? (i := 1096) (by decide +kernel), List.mem_of_getElem? (i := 1097) (by decide +kernel)⟩
theorem lw_p33 : lw_okq (⟨"TypeLoomModel", "equalOnes", "(I)I"⟩, 73) := ⟨⟨by decide +kernel, by decide +kernel⟩, List.mem_of_getElem? (i := 830) (by decide +kernel), List.mem_of_getElem? (i := 1108) (by decide +kernel), List.mem_of_getElem? (i := 1109) (by decide +kernel)⟩
theorem lw_p34 : lw_okq (⟨"TypeLoomModel", "save", "()V"⟩, 73) := ⟨⟨by decide +kernel, by decide +kernel⟩, List.mem_of_getElem? (i := 830) (by decide +kernel), List.mem_of_getElem? (i := 1124) (by decide +kernel), List.mem_of_getElem? (i := 1125) (by decide +kernel)⟩
theorem lw_p35 : lw_okq (⟨"TypeLoomModel", "equate", "(II)V"⟩, 73) := ⟨⟨by decide +kernel, by decide +kernel⟩, List.mem_of_getElem? (i := 830) (by decide +kernel), List.mem_of_getElem? (i := 1128) (by decide +kernel), List.mem_of_getElem? (i := 1129) (by decide +kernel)⟩
theorem lw_p36 : lw_okq (⟨"TypeLoomModel", "now", "(I)I"⟩, 73) := ⟨⟨by decide +kernel, by decide +kernel⟩, List.mem_of_getElem? (i := 830) (by decide +kernel), List.mem_of_getElem? (i := 1132) (by decide +kernel), List.mem_of_getElem? (i := 1133) (by decide +kernel)⟩
theorem lw_p37 : lw_okq (⟨"TypeLoomModel", "hold", "(II)Z"⟩, 73) := ⟨⟨by decide +kernel, by decide +kernel⟩, List.mem_of_getElem? (i := 830) (by decide +kernel), List.mem_of_getElem? (i := 1136) (by decide +kernel), List.mem_of_getElem? (i := 1137) (by decide +kernel)⟩
theorem lw_p38 : lw_okq (⟨"TypeLoomModel", "standForVariable", "(II)Z"⟩, 73) := ⟨⟨by decide +kernel, by decide +kernel⟩, List.mem_of_getElem? (i := 830) (by decide +kernel), List.mem_of_getElem? (i := 1140) (by decide +kernel), List.mem_of_getElem? (i := 1141) (by decide +kernel)⟩
theorem lw_p39 : lw_okq (⟨"TypeLoomModel", "standFor", "(II)Z"⟩, 73) := ⟨⟨by decide +kernel, by decide +kernel⟩, List.mem_of_getElem? (i := 830) (by decide +kernel), List.mem_of_getElem? (i := 1144) (by decide +kernel), List.mem_of_getElem? (i := 1145) (by decide +kernel)⟩
theorem lw_p40 : lw_okq (⟨"TypeLoomModel", "joined", "(I)I"⟩, 73) := ⟨⟨by decide +kernel, by decide +kernel⟩, List.mem_of_getElem? (i := 830) (by decide +kernel), List.mem_of_getElem? (i := 1148) (by decide +kernel), List.mem_of_getElem? (i := 1149) (by decide +kernel)⟩
theorem lw_p41 : lw_okq (⟨"TypeLoomModel", "equateRecords", "(II)Z"⟩, 73) := ⟨⟨by decide +kernel, by decide +kernel⟩, List.mem_of_getElem? (i := 830) (by decide +kernel), List.mem_of_getElem? (i := 1152) (by decide +kernel), List.mem_of_getElem? (i := 1153) (by decide +kernel)⟩
theorem lw_p42 : lw_okq (⟨"TypeLoomModel", "gather", "(IZ)I"⟩, 73) := ⟨⟨by decide +kernel, by decide +kernel⟩, List.mem_of_getElem? (i := 830) (by decide +kernel), List.mem_of_getElem? (i := 1156) (by decide +kernel), List.mem_of_getElem? (i := 1157) (by decide +kernel)⟩
theorem lw_p43 : lw_okq (⟨"TypeLoomModel", "lay", "(IIZ)V"⟩, 73) := ⟨⟨by decide +kernel, by decide +kernel⟩, List.mem_of_getElem? (i := 830) (by decide +kernel), List.mem_of_getElem? (i := 1160) (by decide +kernel), List.mem_of_getElem? (i := 1161) (by decide +kernel)⟩
theorem lw_p44 : lw_okq (⟨"TypeLoomModel", "beyond", "(Z)I"⟩, 73) := ⟨⟨by decide +kernel, by decide +kernel⟩, List.mem_of_getElem? (i := 830) (by decide +kernel), List.mem_of_getElem? (i := 1164) (by decide +kernel), List.mem_of_getElem? (i := 1165) (by decide +kernel)⟩
theorem lw_p45 : lw_okq (⟨"TypeLoomModel", "place", "(IZ)I"⟩, 73) := ⟨⟨by decide +kernel, by decide +kernel⟩, List.mem_of_getElem? (i := 830) (by decide +kernel), List.mem_of_getElem? (i := 1168) (by decide +kernel), List.mem_of_getElem? (i := 1169) (by decide +kernel)⟩
theorem lw_p46 : lw_okq (⟨"TypeLoomModel", "settleRow", "(IZI)V"⟩, 73) := ⟨⟨by decide +kernel, by decide +kernel⟩, List.mem_of_getElem? (i := 830) (by decide +kernel), List.mem_of_getElem? (i := 1172) (by decide +kernel), List.mem_of_getElem? (i := 1173) (by decide +kernel)⟩
theorem lw_p47 : lw_okq (⟨"TypeLoomModel", "areRings", "()Z"⟩, 73) := ⟨⟨by decide +kernel, by decide +kernel⟩, List.mem_of_getElem? (i := 830) (by decide +kernel), List.mem_of_getElem? (i := 1176) (by decide +kernel), List.mem_of_getElem? (i := 1177) (by decide +kernel)⟩
def lw_privs_3 : List (MethodName × Nat) := [(⟨"TypeLoomModel", "makeRow", "(IZ)I"⟩, 73), (⟨"TypeLoomModel", "equalOnes", "(I)I"⟩, 73), (⟨"TypeLoomModel", "save", "()V"⟩, 73), (⟨"TypeLoomModel", "equate", "(II)V"⟩, 73), (⟨"TypeLoomModel", "now", "(I)I"⟩, 73), (⟨"TypeLoomModel", "hold", "(II)Z"⟩, 73), (⟨"TypeLoomModel", "standForVariable", "(II)Z"⟩, 73), (⟨"TypeLoomModel", "standFor", "(II)Z"⟩, 73), (⟨"TypeLoomModel", "joined", "(I)I"⟩, 73), (⟨"TypeLoomModel", "equateRecords", "(II)Z"⟩, 73), (⟨"TypeLoomModel", "gather", "(IZ)I"⟩, 73), (⟨"TypeLoomModel", "lay", "(IIZ)V"⟩, 73), (⟨"TypeLoomModel", "beyond", "(Z)I"⟩, 73), (⟨"TypeLoomModel", "place", "(IZ)I"⟩, 73), (⟨"TypeLoomModel", "settleRow", "(IZI)V"⟩, 73), (⟨"TypeLoomModel", "areRings", "()Z"⟩, 73)]
theorem lw_r3 : ∀ q ∈ lw_privs_3, lw_okq q := List.forall_mem_cons.mpr ⟨lw_p32, List.forall_mem_cons.mpr ⟨lw_p33, List.forall_mem_cons.mpr ⟨lw_p34, List.forall_mem_cons.mpr ⟨lw_p35, List.forall_mem_cons.mpr ⟨lw_p36, List.forall_mem_cons.mpr ⟨lw_p37, List.forall_mem_cons.mpr ⟨lw_p38, List.forall_mem_cons.mpr ⟨lw_p39, List.forall_mem_cons.mpr ⟨lw_p40, List.forall_mem_cons.mpr ⟨lw_p41, List.forall_mem_cons.mpr ⟨lw_p42, List.forall_mem_cons.mpr ⟨lw_p43, List.forall_mem_cons.mpr ⟨lw_p44, List.forall_mem_cons.mpr ⟨lw_p45, List.forall_mem_cons.mpr ⟨lw_p46, List.forall_mem_cons.mpr ⟨lw_p47, fun _ h => absurd h List.not_mem_nil⟩⟩⟩⟩⟩⟩⟩⟩⟩⟩⟩⟩⟩⟩⟩⟩
theorem lw_p48 : lw_okq (⟨"TypeLoomModel", "clearMarks", "()V"⟩, 73) := ⟨⟨by decide +kernel, by decide +kernel⟩, List.mem_of_getElem? (i := 830) (by decide +kernel), List.mem_of_getElem? (i := 1180) (by decide +kernel), List.mem_of_getElem? (i := 1181) (by decide +kernel)⟩
theorem lw_p49 : lw_okq (⟨"TypeLoomModel", "isRing", "(I)Z"⟩, 73) := ⟨⟨by decide +kernel, by decide +kernel⟩, List.mem_of_getElem? (i := 830) (by decide +kernel), List.mem_of_getElem? (i := 1184) (by decide +kernel), List.mem_of_getElem? (i := 1185) (by decide +kernel)⟩
theorem lw_p50 : lw_okq (⟨"TypeLoomModel", "put", "(I)V"⟩, 73) := ⟨⟨by decide +kernel, by decide +kernel⟩, List.mem_of_getElem? (i := 830) (by decide +kernel), List.mem_of_getElem? (i := 1188) (by decide +kernel), List.mem_of_getElem? (i := 1189) (by decide +kernel)⟩
theorem lw_p51 : lw_okq (⟨"TypeLoomModel", "putParts", "(I)I"⟩, 73) := ⟨⟨by decide +kernel, by decide +kernel⟩, List.mem_of_getElem? (i := 830) (by decide +kernel), List.mem_of_getElem? (i := 1192) (by decide +kernel), List.mem_of_getElem? (i := 1193) (by decide +kernel)⟩
theorem lw_p52 : lw_okq (⟨"TypeLoomModel", "settle", "()Z"⟩, 73) := ⟨⟨by decide +kernel, by decide +kernel⟩, List.mem_of_getElem? (i := 830) (by decide +kernel), List.mem_of_getElem? (i := 1196) (by decide +kernel), List.mem_of_getElem? (i := 1197) (by decide +kernel)⟩
theorem lw_p53 : lw_okq (⟨"TypeLoomModel", "bringDown", "(II)Z"⟩, 73) := ⟨⟨by decide +kernel, by decide +kernel⟩, List.mem_of_getElem? (i := 830) (by decide +kernel), List.mem_of_getElem? (i := 1200) (by decide +kernel), List.mem_of_getElem? (i := 1201) (by decide +kernel)⟩
theorem lw_p54 : lw_okq (⟨"TypeLoomModel", "wishFor", "(I)Z"⟩, 73) := ⟨⟨by decide +kernel, by decide +kernel⟩, List.mem_of_getElem? (i := 830) (by decide +kernel), List.mem_of_getElem? (i := 1204) (by decide +kernel), List.mem_of_getElem? (i := 1205) (by decide +kernel)⟩
theorem lw_p55 : lw_okq (⟨"TypeLoomModel", "settleFields", "(I)Z"⟩, 73) := ⟨⟨by decide +kernel, by decide +kernel⟩, List.mem_of_getElem? (i := 830) (by decide +kernel), List.mem_of_getElem? (i := 1208) (by decide +kernel), List.mem_of_getElem? (i := 1209) (by decide +kernel)⟩
theorem lw_p56 : lw_okq (⟨"TypeLoomModel", "restore", "(II)V"⟩, 73) := ⟨⟨by decide +kernel, by decide +kernel⟩, List.mem_of_getElem? (i := 830) (by decide +kernel), List.mem_of_getElem? (i := 1212) (by decide +kernel), List.mem_of_getElem? (i := 1213) (by decide +kernel)⟩
theorem lw_p57 : lw_okq (⟨"TypeLoomModel", "follow", "(IJ)I"⟩, 73) := ⟨⟨by decide +kernel, by decide +kernel⟩, List.mem_of_getElem? (i := 830) (by decide +kernel), List.mem_of_getElem? (i := 1220) (by decide +kernel), List.mem_of_getElem? (i := 1221) (by decide +kernel)⟩
theorem lw_p58 : lw_okq (⟨"TypeLoomModel", "partOf", "(II)I"⟩, 73) := ⟨⟨by decide +kernel, by decide +kernel⟩, List.mem_of_getElem? (i := 830) (by decide +kernel), List.mem_of_getElem? (i := 1225) (by decide +kernel), List.mem_of_getElem? (i := 1226) (by decide +kernel)⟩
theorem lw_p59 : lw_okq (⟨"TypeLoomModel", "areSame", "(II)Z"⟩, 73) := ⟨⟨by decide +kernel, by decide +kernel⟩, List.mem_of_getElem? (i := 830) (by decide +kernel), List.mem_of_getElem? (i := 1229) (by decide +kernel), List.mem_of_getElem? (i := 1230) (by decide +kernel)⟩
theorem lw_p60 : lw_okq (⟨"TypeLoomModel", "areSameParts", "(II)Z"⟩, 73) := ⟨⟨by decide +kernel, by decide +kernel⟩, List.mem_of_getElem? (i := 830) (by decide +kernel), List.mem_of_getElem? (i := 1233) (by decide +kernel), List.mem_of_getElem? (i := 1234) (by decide +kernel)⟩
theorem lw_p61 : lw_okq (⟨"TypeLoomModel", "countParts", "(I)I"⟩, 73) := ⟨⟨by decide +kernel, by decide +kernel⟩, List.mem_of_getElem? (i := 830) (by decide +kernel), List.mem_of_getElem? (i := 1241) (by decide +kernel), List.mem_of_getElem? (i := 1242) (by decide +kernel)⟩
theorem lw_p62 : lw_okq (⟨"TypeLoomModel", "admits", "(I)Z"⟩, 73) := ⟨⟨by decide +kernel, by decide +kernel⟩, List.mem_of_getElem? (i := 830) (by decide +kernel), List.mem_of_getElem? (i := 1245) (by decide +kernel), List.mem_of_getElem? (i := 1246) (by decide +kernel)⟩
theorem lw_p63 : lw_okq (⟨"TypeLoomModel", "hasSuch", "(I)Z"⟩, 73) := ⟨⟨by decide +kernel, by decide +kernel⟩, List.mem_of_getElem? (i := 830) (by decide +kernel), List.mem_of_getElem? (i := 1257) (by decide +kernel), List.mem_of_getElem? (i := 1258) (by decide +kernel)⟩
def lw_privs_4 : List (MethodName × Nat) := [(⟨"TypeLoomModel", "clearMarks", "()V"⟩, 73), (⟨"TypeLoomModel", "isRing", "(I)Z"⟩, 73), (⟨"TypeLoomModel", "put", "(I)V"⟩, 73), (⟨"TypeLoomModel", "putParts", "(I)I"⟩, 73), (⟨"TypeLoomModel", "settle", "()Z"⟩, 73), (⟨"TypeLoomModel", "bringDown", "(II)Z"⟩, 73), (⟨"TypeLoomModel", "wishFor", "(I)Z"⟩, 73), (⟨"TypeLoomModel", "settleFields", "(I)Z"⟩, 73), (⟨"TypeLoomModel", "restore", "(II)V"⟩, 73), (⟨"TypeLoomModel", "follow", "(IJ)I"⟩, 73), (⟨"TypeLoomModel", "partOf", "(II)I"⟩, 73), (⟨"TypeLoomModel", "areSame", "(II)Z"⟩, 73), (⟨"TypeLoomModel", "areSameParts", "(II)Z"⟩, 73), (⟨"TypeLoomModel", "countParts", "(I)I"⟩, 73), (⟨"TypeLoomModel", "admits", "(I)Z"⟩, 73), (⟨"TypeLoomModel", "hasSuch", "(I)Z"⟩, 73)]
theorem lw_r4 : ∀ q ∈ lw_privs_4, lw_okq q := List.forall_mem_cons.mpr ⟨lw_p48, List.forall_mem_cons.mpr ⟨lw_p49, List.forall_mem_cons.mpr ⟨lw_p50, List.forall_mem_cons.mpr ⟨lw_p51, List.forall_mem_cons.mpr ⟨lw_p52, List.forall_mem_cons.mpr ⟨lw_p53, List.forall_mem_cons.mpr ⟨lw_p54, List.forall_mem_cons.mpr ⟨lw_p55, List.forall_mem_cons.mpr ⟨lw_p56, List.forall_mem_cons.mpr ⟨lw_p57, List.forall_mem_cons.mpr ⟨lw_p58, List.forall_mem_cons.mpr ⟨lw_p59, List.forall_mem_cons.mpr ⟨lw_p60, List.forall_mem_cons.mpr ⟨lw_p61, List.forall_mem_cons.mpr ⟨lw_p62, List.forall_mem_cons.mpr ⟨lw_p63, fun _ h => absurd h List.not_mem_nil⟩⟩⟩⟩⟩⟩⟩⟩⟩⟩⟩⟩⟩⟩⟩⟩
theorem lw_p64 : lw_okq (⟨"TypeLoomModel", "enter", "(II)V"⟩, 73) := ⟨⟨by decide +kernel, by decide +kernel⟩, List.mem_of_getElem? (i := 830) (by decide +kernel), List.mem_of_getElem? (i := 1261) (by decide +kernel), List.mem_of_getElem? (i := 1262) (by decide +kernel)⟩
theorem lw_p65 : lw_okq (⟨"TypeLoomModel", "find", "(III)I"⟩, 73) := ⟨⟨by decide +kernel, by decide +kernel⟩, List.mem_of_getElem? (i := 830) (by decide +kernel), List.mem_of_getElem? (i := 1265) (by decide +kernel), List.mem_of_getElem? (i := 1266) (by decide +kernel)⟩
theorem lw_p66 : lw_okq (⟨"TypeLoomModel", "keepEqualities", "(I)V"⟩, 73) := ⟨⟨by decide +kernel, by decide +kernel⟩, List.mem_of_getElem? (i := 830) (by decide +kernel), List.mem_of_getElem? (i := 1269) (by decide +kernel), List.mem_of_getElem? (i := 1270) (by decide +kernel)⟩
theorem lw_p67 : lw_okq (⟨"TypeLoomModel", "isScheme", "(I)Z"⟩, 73) := ⟨⟨by decide +kernel, by decide +kernel⟩, List.mem_of_getElem? (i := 830) (by decide +kernel), List.mem_of_getElem? (i := 1277) (by decide +kernel), List.mem_of_getElem? (i := 1278) (by decide +kernel)⟩
theorem lw_p68 : lw_okq (⟨"TypeLoomModel", "renew", "(I)I"⟩, 73) := ⟨⟨by decide +kernel, by decide +kernel⟩, List.mem_of_getElem? (i := 830) (by decide +kernel), List.mem_of_getElem? (i := 1285) (by decide +kernel), List.mem_of_getElem? (i := 1286) (by decide +kernel)⟩
def lw_privs_5 : List (MethodName × Nat) := [(⟨"TypeLoomModel", "enter", "(II)V"⟩, 73), (⟨"TypeLoomModel", "find", "(III)I"⟩, 73), (⟨"TypeLoomModel", "keepEqualities", "(I)V"⟩, 73), (⟨"TypeLoomModel", "isScheme", "(I)Z"⟩, 73), (⟨"TypeLoomModel", "renew", "(I)I"⟩, 73)]
theorem lw_r5 : ∀ q ∈ lw_privs_5, lw_okq q := List.forall_mem_cons.mpr ⟨lw_p64, List.forall_mem_cons.mpr ⟨lw_p65, List.forall_mem_cons.mpr ⟨lw_p66, List.forall_mem_cons.mpr ⟨lw_p67, List.forall_mem_cons.mpr ⟨lw_p68, fun _ h => absurd h List.not_mem_nil⟩⟩⟩⟩⟩
def lw_privs : List (MethodName × Nat) := lw_privs_1 ++ (lw_privs_2 ++ (lw_privs_3 ++ (lw_privs_4 ++ (lw_privs_5))))
def lw_tbl : List Cond := k2_sels lw_privs ++ tables_1
theorem lw_privs_ok : ∀ q ∈ lw_privs, lw_okq q := by
  show ∀ q ∈ lw_privs_1 ++ (lw_privs_2 ++ (lw_privs_3 ++ (lw_privs_4 ++ (lw_privs_5)))), lw_okq q
  exact List.forall_mem_append.mpr ⟨lw_r1, List.forall_mem_append.mpr ⟨lw_r2, List.forall_mem_append.mpr ⟨lw_r3, List.forall_mem_append.mpr ⟨lw_r4, lw_r5⟩⟩⟩⟩

/-- the words that go with every call -/
def gx_T : List Cond := lw_tbl.filter goodWord
theorem gx_mem {w : Cond} {i : Nat} (h : lw_tbl[i]? = some w) (hg : goodWord w = true) : w ∈ gx_T := List.mem_filter.mpr ⟨List.mem_of_getElem? h, hg⟩
theorem gx_good (w : Cond) (h : w ∈ gx_T) : (w.onTables && w.keeps) = true ∨ ∃ ty, w = .arrayClass ty := good_of_word (List.mem_filter.mp h).2
theorem gx_sub : ∀ w ∈ gx_T, w ∈ lw_tbl := fun _ h => (List.mem_filter.mp h).1
end
section

/-! THE JUDGEMENT gx_G. A system of fixed objects: its int fields by number, its arrays by number, their lengths: a state gx_S. The meaning of a method is a function to gx_R (none: nothing is said); gx_G V X res σ pc lv st says: from the state σ, at pc, with the locals lv and the stack st, the machine comes to the method's end, and there the state and the answer are what res says, if it says something. -/
abbrev gx_S : Type := (Nat → Int32) × (Nat → Nat → Int32) × (Nat → Nat)
abbrev gx_R : Type := Option (gx_S × Int32)
abbrev gx_U : Type := ((Nat → Nat) → gx_S → va_W) × (gx_S → Prop) × (gx_S → Nat) × (gx_S → Nat)
abbrev gx_V : Type := (va_G × List vw_C × List (ClassId × FieldType)) × gx_U
abbrev gx_X : Type := (Program × Launch × Env × Room × State × MethodId × Array Value × List Frame × Method × Code) × (Nat → Prop) × gx_S × Bool
def gx_Q (V : gx_V) (vd : Bool) (A : Nat → Prop) (σ : gx_S) (out : gx_S × Int32) : Array Value → State → Outcome → State → Prop := fun _ st oc t =>
  oc = .returned (if vd then none else some (.int out.2)) ∧ V.2.2.1 out.1 ∧ V.2.2.2.1 out.1 ≤ V.2.2.2.1 σ ∧ V.2.2.2.2 out.1 ≤ V.2.2.2.2 σ ∧ (∃ ar : Nat → Nat, va_P V.1.1 V.1.2.1 (V.2.1 ar out.1) t.heap ∧ va_D A (V.2.1 ar out.1)) ∧ va_F A st t
/-- what is fixed while a method runs -/
def gx_K (V : gx_V) (X : gx_X) (cc : ByteArray) (own : String) (nL fr lo : Nat) (rt : Option FieldType) : Prop := match X with
  | ((p, _, _, R, s, m, args, _, meth, c), A, σ0, vd) =>
    p.tables.exec = Jvm.exec ∧ c.code = cc ∧ c.maxLocals = nL ∧ s.vm.findClass own = some m.cls ∧ (∀ w ∈ gx_T, w.before args s = true) ∧ meth.sig.returnType = rt ∧ meth.locks = false ∧ va_K V.1.1 V.1.2.1 V.1.2.2 s ∧ (∀ q : Nat, s.heap.size ≤ q → A q) ∧ fr ≤ R.frames ∧ lo ≤ R.locals ∧ V.2.2.2.1 σ0 ≤ R.cells ∧ V.2.2.2.2 σ0 ≤ R.slots ∧ vd = rt.isNone
def gx_G (V : gx_V) (X : gx_X) (res : gx_R) (σ : gx_S) (pc : Nat) (lv : List (Nat × Value)) (st : List Value) : Prop := match X with
  | ((p, l, e, R, s, m, args, below, meth, c), A, σ0, vd) =>
    ∀ out, res = some out → V.2.2.1 σ → ∀ (ar : Nat → Nat) (H : Heap) (locs : List Loc) (cells slots : Nat) (ls : Array Slot), lv_has ls c.maxLocals lv → va_P V.1.1 V.1.2.1 (V.2.1 ar σ) H → va_D A (V.2.1 ar σ) → va_S A s.heap H locs → cells + V.2.2.2.1 σ ≤ V.2.2.2.1 σ0 → slots + V.2.2.2.2 σ ≤ V.2.2.2.2 σ0 →
      W p l e R s m args below meth c H locs cells slots (MQ below (gx_Q V vd A σ0 out) args s (V.2.2.2.1 σ0 - V.2.2.2.1 out.1) (V.2.2.2.2 σ0 - V.2.2.2.2 out.1) A) (F0 m pc ls st)
theorem gx_none {V : gx_V} {X : gx_X} {σ : gx_S} {pc : Nat} {lv : List (Nat × Value)} {st : List Value} : gx_G V X none σ pc lv st := by
  obtain ⟨⟨p, l, e, R, s, m, args, below, meth, c⟩, A, σ0, vd⟩ := X
  intro out h
  cases h
/-- loops and joins in the meaning of a method -/
def gx_lp {α : Type} (d : α) (f : α → α) : Nat → α
  | 0 => d
  | n + 1 => f (gx_lp d f n)
theorem gx_lpI {α : Type} {d : α} {f : α → α} (P : α → Prop) (h0 : P d) (hs : ∀ a, P a → P (f a)) : ∀ n, P (gx_lp d f n)
  | 0 => h0
  | n + 1 => hs _ (gx_lpI P h0 hs n)
def gx_jn {α : Type} (j : α) (k : α → gx_R) : gx_R := k j
def gx_bd (x : gx_R) (k : gx_S → Int32 → gx_R) : gx_R := match x with
  | none => none
  | some o => k o.1 o.2
def gx_bv (x : Int32) (k : Int32 → gx_R) : gx_R := k x
def gx_bw (x : Int64) (k : Int64 → gx_R) : gx_R := k x
def gx_sb (σ : gx_S) (k : gx_S → gx_R) : gx_R := k σ
def gx_F : Nat := 4294967296
def gx_rz (σ : gx_S) (v : Int32) : gx_R := if v = 0 ∨ v = 1 then some (σ, v) else none
section GX
variable {V : gx_V} {X : gx_X} {cc : ByteArray} {own : String} {nL fr lo : Nat} {rt : Option FieldType} {res r1 r2 : gx_R} {σ : gx_S} {pc : Nat} {lv : List (Nat × Value)} {st : List Value}
theorem gx_jnI {α : Type} {j : α} {k : α → gx_R} (P : α → Prop) (hj : P j) (hk : ∀ j, P j → gx_G V X (k j) σ pc lv st) : gx_G V X (gx_jn j k) σ pc lv st := hk j hj
theorem gx_pick (hX : gx_K V X cc own nL fr lo rt) {lv' : List (Nat × Value)} (ks : List Nat) (hl : lv_pick lv ks = lv') (k : gx_G V X res σ pc lv' st) : gx_G V X res σ pc lv st := by
  obtain ⟨⟨p, l, e, R, s, m, args, below, meth, c⟩, A, σ0, vd⟩ := X
  intro out h1 h2 ar H locs cells slots ls hls
  exact k out h1 h2 ar H locs cells slots ls (lv_sub hls ks hl)
/-- a row that moves no cell -/
theorem gx_lv (hX : gx_K V X cc own nL fr lo rt) {pc' : Nat} {lv' : List (Nat × Value)} {st' : List Value}
    (h : ∀ {p : Program} {l : Launch} {e : Env} {R : Room} {s : State} {m : MethodId} {args : Array Value} {below : List Frame} {meth : Method} {c : Code} {H : Heap} {locs : List Loc} {cells slots : Nat} {Q : State → Prop} {ls : Array Slot}, p.tables.exec = Jvm.exec → c.code = cc → lv_has ls nL lv → (∀ ls', lv_has ls' nL lv' → W p l e R s m args below meth c H locs cells slots Q (F0 m pc' ls' st')) → W p l e R s m args below meth c H locs cells slots Q (F0 m pc ls st))
    (k : gx_G V X res σ pc' lv' st') : gx_G V X res σ pc lv st := by
  obtain ⟨⟨p, l, e, R, s, m, args, below, meth, c⟩, A, σ0, vd⟩ := X
  obtain ⟨hx, hb, hml, -⟩ := hX
  intro out h1 h2 ar H locs cells slots ls hls hP hD hS hc hs
  refine h hx hb (by rw [← hml]; exact hls) (fun ls' hls' => k out h1 h2 ar H locs cells slots ls' (by rw [hml]; exact hls') hP hD hS hc hs)
/-- a branch -/
theorem gx_br (hX : gx_K V X cc own nL fr lo rt) {P : Prop} [Decidable P] {p1 p2 : Nat} {st' : List Value}
    (h : ∀ {p : Program} {l : Launch} {e : Env} {R : Room} {s : State} {m : MethodId} {args : Array Value} {below : List Frame} {meth : Method} {c : Code} {H : Heap} {locs : List Loc} {cells slots : Nat} {Q : State → Prop} {ls : Array Slot}, p.tables.exec = Jvm.exec → c.code = cc → (P → W p l e R s m args below meth c H locs cells slots Q (F0 m p1 ls st')) → (¬ P → W p l e R s m args below meth c H locs cells slots Q (F0 m p2 ls st')) → W p l e R s m args below meth c H locs cells slots Q (F0 m pc ls st))
    (k1 : P → gx_G V X r1 σ p1 lv st') (k2 : ¬ P → gx_G V X r2 σ p2 lv st') : gx_G V X (if P then r1 else r2) σ pc lv st := by
  obtain ⟨⟨p, l, e, R, s, m, args, below, meth, c⟩, A, σ0, vd⟩ := X
  obtain ⟨hx, hb, hml, -⟩ := hX
  intro out h1 h2 ar H locs cells slots ls hls hP hD hS hc hs
  refine h hx hb (fun hp => ?_) (fun hp => ?_)
  · rw [if_pos hp] at h1
    exact k1 hp out h1 h2 ar H locs cells slots ls hls hP hD hS hc hs
  · rw [if_neg hp] at h1
    exact k2 hp out h1 h2 ar H locs cells slots ls hls hP hD hS hc hs
theorem gx_iconst (hX : gx_K V X cc own nL fr lo rt) {z : Int} (v : Int32) (n : Nat) (hd : decode cc pc = .ok (.iconst z, 1)) (hv : Int32.ofInt z = v) (hn : pc + 1 = n) (k : gx_G V X res σ n lv (.int v :: st)) : gx_G V X res σ pc lv (st) := by
  subst hn
  exact gx_lv hX (fun hx hb hl kk => lv_iconst hx hb hd hv (kk _ hl)) k
theorem gx_bipush (hX : gx_K V X cc own nL fr lo rt) {z : Int} (v : Int32) (n : Nat) (hd : decode cc pc = .ok (.bipush z, 2)) (hv : (Int8.ofInt z).toInt32 = v) (hn : pc + 2 = n) (k : gx_G V X res σ n lv (.int v :: st)) : gx_G V X res σ pc lv (st) := by
  subst hn
  exact gx_lv hX (fun hx hb hl kk => lv_bipush hx hb hd hv (kk _ hl)) k
theorem gx_sipush (hX : gx_K V X cc own nL fr lo rt) {z : Int} (v : Int32) (n : Nat) (hd : decode cc pc = .ok (.sipush z, 3)) (hv : (Int16.ofInt z).toInt32 = v) (hn : pc + 3 = n) (k : gx_G V X res σ n lv (.int v :: st)) : gx_G V X res σ pc lv (st) := by
  subst hn
  exact gx_lv hX (fun hx hb hl kk => lv_sipush hx hb hd hv (kk _ hl)) k
theorem gx_lconst (hX : gx_K V X cc own nL fr lo rt) {z : Fin 2} (v : Int64) (n : Nat) (hd : decode cc pc = .ok (.lconst z, 1)) (hv : Int64.ofNat (z : Nat) = v) (hn : pc + 1 = n) (k : gx_G V X res σ n lv (.long v :: st)) : gx_G V X res σ pc lv (st) := by
  subst hn
  exact gx_lv hX (fun hx hb hl kk => lv_lconst hx hb hd hv (kk _ hl)) k
theorem gx_iload_n (hX : gx_K V X cc own nL fr lo rt) {z : Fin 4} {i : Nat} (q : Nat) {x : Int32} (n : Nat) (hd : decode cc pc = .ok (.iload_n z, 1)) (hi : (z : Nat) = i) (hq : lv[q]? = some (i, .int x)) (hn : pc + 1 = n) (k : gx_G V X res σ n lv (.int x :: st)) : gx_G V X res σ pc lv (st) := by
  subst hn
  exact gx_lv hX (fun hx hb hl kk => lv_iload_n hx hb hd hi (lv_at hl q hq) (kk _ hl)) k
theorem gx_iload (hX : gx_K V X cc own nL fr lo rt) {i : Nat} (q : Nat) {x : Int32} (n : Nat) (hd : decode cc pc = .ok (.iload i, 2)) (hq : lv[q]? = some (i, .int x)) (hn : pc + 2 = n) (k : gx_G V X res σ n lv (.int x :: st)) : gx_G V X res σ pc lv (st) := by
  subst hn
  exact gx_lv hX (fun hx hb hl kk => lv_iload hx hb hd (lv_at hl q hq) (kk _ hl)) k
theorem gx_lload_n (hX : gx_K V X cc own nL fr lo rt) {z : Fin 4} {i : Nat} (q : Nat) {x : Int64} (n : Nat) (hd : decode cc pc = .ok (.lload_n z, 1)) (hi : (z : Nat) = i) (hq : lv[q]? = some (i, .long x)) (hn : pc + 1 = n) (k : gx_G V X res σ n lv (.long x :: st)) : gx_G V X res σ pc lv (st) := by
  subst hn
  exact gx_lv hX (fun hx hb hl kk => lv_lload_n hx hb hd hi (lv_at hl q hq) (kk _ hl)) k
theorem gx_lload (hX : gx_K V X cc own nL fr lo rt) {i : Nat} (q : Nat) {x : Int64} (n : Nat) (hd : decode cc pc = .ok (.lload i, 2)) (hq : lv[q]? = some (i, .long x)) (hn : pc + 2 = n) (k : gx_G V X res σ n lv (.long x :: st)) : gx_G V X res σ pc lv (st) := by
  subst hn
  exact gx_lv hX (fun hx hb hl kk => lv_lload hx hb hd (lv_at hl q hq) (kk _ hl)) k
theorem gx_aload_n (hX : gx_K V X cc own nL fr lo rt) {z : Fin 4} {i : Nat} (q : Nat) {x : Nat} (n : Nat) (hd : decode cc pc = .ok (.aload_n z, 1)) (hi : (z : Nat) = i) (hq : lv[q]? = some (i, .ref x)) (hn : pc + 1 = n) (k : gx_G V X res σ n lv (.ref x :: st)) : gx_G V X res σ pc lv (st) := by
  subst hn
  exact gx_lv hX (fun hx hb hl kk => lv_aload_n hx hb hd hi (lv_at hl q hq) (kk _ hl)) k
theorem gx_aload (hX : gx_K V X cc own nL fr lo rt) {i : Nat} (q : Nat) {x : Nat} (n : Nat) (hd : decode cc pc = .ok (.aload i, 2)) (hq : lv[q]? = some (i, .ref x)) (hn : pc + 2 = n) (k : gx_G V X res σ n lv (.ref x :: st)) : gx_G V X res σ pc lv (st) := by
  subst hn
  exact gx_lv hX (fun hx hb hl kk => lv_aload hx hb hd (lv_at hl q hq) (kk _ hl)) k
theorem gx_istore_n (hX : gx_K V X cc own nL fr lo rt) {z : Fin 4} {i : Nat} {x : Int32} (lv' : List (Nat × Value)) (n : Nat) (hd : decode cc pc = .ok (.istore_n z, 1)) (hi : (z : Nat) = i) (hi2 : i < nL) (hl' : (i, Value.int x) :: lv.filter (fun q => !(q.1 == i) && !(q.1 + 1 == i && q.2.category == 2)) = lv') (hn : pc + 1 = n) (k : gx_G V X res σ n lv' st) : gx_G V X res σ pc lv (.int x :: st) := by
  subst hn
  exact gx_lv hX (fun hx hb hl kk => lv_istore_n hx hb hd hi hl hi2 hl' (fun ls' h' => kk ls' h')) k
theorem gx_istore (hX : gx_K V X cc own nL fr lo rt) {i : Nat} {x : Int32} (lv' : List (Nat × Value)) (n : Nat) (hd : decode cc pc = .ok (.istore i, 2)) (hi2 : i < nL) (hl' : (i, Value.int x) :: lv.filter (fun q => !(q.1 == i) && !(q.1 + 1 == i && q.2.category == 2)) = lv') (hn : pc + 2 = n) (k : gx_G V X res σ n lv' st) : gx_G V X res σ pc lv (.int x :: st) := by
  subst hn
  exact gx_lv hX (fun hx hb hl kk => lv_istore hx hb hd hl hi2 hl' (fun ls' h' => kk ls' h')) k
theorem gx_lstore_n (hX : gx_K V X cc own nL fr lo rt) {z : Fin 4} {i : Nat} {x : Int64} (lv' : List (Nat × Value)) (n : Nat) (hd : decode cc pc = .ok (.lstore_n z, 1)) (hi : (z : Nat) = i) (hi2 : i + 1 < nL) (hl' : (i, Value.long x) :: lv.filter (fun q => !(q.1 == i) && (!(q.1 == i + 1) && !(q.1 + 1 == i && q.2.category == 2))) = lv') (hn : pc + 1 = n) (k : gx_G V X res σ n lv' st) : gx_G V X res σ pc lv (.long x :: st) := by
  subst hn
  exact gx_lv hX (fun hx hb hl kk => lv_lstore_n hx hb hd hi hl hi2 hl' (fun ls' h' => kk ls' h')) k
theorem gx_lstore (hX : gx_K V X cc own nL fr lo rt) {i : Nat} {x : Int64} (lv' : List (Nat × Value)) (n : Nat) (hd : decode cc pc = .ok (.lstore i, 2)) (hi2 : i + 1 < nL) (hl' : (i, Value.long x) :: lv.filter (fun q => !(q.1 == i) && (!(q.1 == i + 1) && !(q.1 + 1 == i && q.2.category == 2))) = lv') (hn : pc + 2 = n) (k : gx_G V X res σ n lv' st) : gx_G V X res σ pc lv (.long x :: st) := by
  subst hn
  exact gx_lv hX (fun hx hb hl kk => lv_lstore hx hb hd hl hi2 hl' (fun ls' h' => kk ls' h')) k
theorem gx_astore_n (hX : gx_K V X cc own nL fr lo rt) {z : Fin 4} {i : Nat} {x : Nat} (lv' : List (Nat × Value)) (n : Nat) (hd : decode cc pc = .ok (.astore_n z, 1)) (hi : (z : Nat) = i) (hi2 : i < nL) (hl' : (i, Value.ref x) :: lv.filter (fun q => !(q.1 == i) && !(q.1 + 1 == i && q.2.category == 2)) = lv') (hn : pc + 1 = n) (k : gx_G V X res σ n lv' st) : gx_G V X res σ pc lv (.ref x :: st) := by
  subst hn
  exact gx_lv hX (fun hx hb hl kk => lv_astore_n hx hb hd hi hl hi2 hl' (fun ls' h' => kk ls' h')) k
theorem gx_astore (hX : gx_K V X cc own nL fr lo rt) {i : Nat} {x : Nat} (lv' : List (Nat × Value)) (n : Nat) (hd : decode cc pc = .ok (.astore i, 2)) (hi2 : i < nL) (hl' : (i, Value.ref x) :: lv.filter (fun q => !(q.1 == i) && !(q.1 + 1 == i && q.2.category == 2)) = lv') (hn : pc + 2 = n) (k : gx_G V X res σ n lv' st) : gx_G V X res σ pc lv (.ref x :: st) := by
  subst hn
  exact gx_lv hX (fun hx hb hl kk => lv_astore hx hb hd hl hi2 hl' (fun ls' h' => kk ls' h')) k
theorem gx_iinc (hX : gx_K V X cc own nL fr lo rt) {i q : Nat} {z : Int} {x : Int32} (v : Int32) (lv' : List (Nat × Value)) (n : Nat) (hd : decode cc pc = .ok (.iinc i z, 3)) (hq : lv[q]? = some (i, .int x)) (hv : x + Int32.ofInt z = v) (hi2 : i < nL) (hl' : (i, Value.int v) :: lv.filter (fun q => !(q.1 == i) && !(q.1 + 1 == i && q.2.category == 2)) = lv') (hn : pc + 3 = n) (k : gx_G V X res σ n lv' st) : gx_G V X res σ pc lv st := by
  subst hn
  exact gx_lv hX (fun hx hb hl kk => lv_iinc hx hb hd hl hq hv hi2 hl' (fun ls' h' => kk ls' h')) k
theorem gx_iadd (hX : gx_K V X cc own nL fr lo rt) {x y : Int32} (n : Nat) (hd : decode cc pc = .ok (.iadd, 1)) (hn : pc + 1 = n) (k : gx_G V X res σ n lv (.int (x + y) :: st)) : gx_G V X res σ pc lv (.int y :: .int x :: st) := by
  subst hn
  exact gx_lv hX (fun hx hb hl kk => lv_iadd hx hb hd (kk _ hl)) k
theorem gx_isub (hX : gx_K V X cc own nL fr lo rt) {x y : Int32} (n : Nat) (hd : decode cc pc = .ok (.isub, 1)) (hn : pc + 1 = n) (k : gx_G V X res σ n lv (.int (x - y) :: st)) : gx_G V X res σ pc lv (.int y :: .int x :: st) := by
  subst hn
  exact gx_lv hX (fun hx hb hl kk => lv_isub hx hb hd (kk _ hl)) k
theorem gx_imul (hX : gx_K V X cc own nL fr lo rt) {x y : Int32} (n : Nat) (hd : decode cc pc = .ok (.imul, 1)) (hn : pc + 1 = n) (k : gx_G V X res σ n lv (.int (x * y) :: st)) : gx_G V X res σ pc lv (.int y :: .int x :: st) := by
  subst hn
  exact gx_lv hX (fun hx hb hl kk => lv_imul hx hb hd (kk _ hl)) k
theorem gx_iand (hX : gx_K V X cc own nL fr lo rt) {x y : Int32} (n : Nat) (hd : decode cc pc = .ok (.iand, 1)) (hn : pc + 1 = n) (k : gx_G V X res σ n lv (.int (x &&& y) :: st)) : gx_G V X res σ pc lv (.int y :: .int x :: st) := by
  subst hn
  exact gx_lv hX (fun hx hb hl kk => lv_iand hx hb hd (kk _ hl)) k
theorem gx_ior (hX : gx_K V X cc own nL fr lo rt) {x y : Int32} (n : Nat) (hd : decode cc pc = .ok (.ior, 1)) (hn : pc + 1 = n) (k : gx_G V X res σ n lv (.int (x ||| y) :: st)) : gx_G V X res σ pc lv (.int y :: .int x :: st) := by
  subst hn
  exact gx_lv hX (fun hx hb hl kk => lv_ior hx hb hd (kk _ hl)) k
theorem gx_ixor (hX : gx_K V X cc own nL fr lo rt) {x y : Int32} (n : Nat) (hd : decode cc pc = .ok (.ixor, 1)) (hn : pc + 1 = n) (k : gx_G V X res σ n lv (.int (x ^^^ y) :: st)) : gx_G V X res σ pc lv (.int y :: .int x :: st) := by
  subst hn
  exact gx_lv hX (fun hx hb hl kk => lv_ixor hx hb hd (kk _ hl)) k
theorem gx_ishl (hX : gx_K V X cc own nL fr lo rt) {x y : Int32} (n : Nat) (hd : decode cc pc = .ok (.ishl, 1)) (hn : pc + 1 = n) (k : gx_G V X res σ n lv (.int (x <<< (y &&& 31)) :: st)) : gx_G V X res σ pc lv (.int y :: .int x :: st) := by
  subst hn
  exact gx_lv hX (fun hx hb hl kk => lv_ishl hx hb hd (kk _ hl)) k
theorem gx_ishr (hX : gx_K V X cc own nL fr lo rt) {x y : Int32} (n : Nat) (hd : decode cc pc = .ok (.ishr, 1)) (hn : pc + 1 = n) (k : gx_G V X res σ n lv (.int (x >>> (y &&& 31)) :: st)) : gx_G V X res σ pc lv (.int y :: .int x :: st) := by
  subst hn
  exact gx_lv hX (fun hx hb hl kk => lv_ishr hx hb hd (kk _ hl)) k
theorem gx_ineg (hX : gx_K V X cc own nL fr lo rt) {x : Int32} (n : Nat) (hd : decode cc pc = .ok (.ineg, 1)) (hn : pc + 1 = n) (k : gx_G V X res σ n lv (.int (-x) :: st)) : gx_G V X res σ pc lv (.int x :: st) := by
  subst hn
  exact gx_lv hX (fun hx hb hl kk => lv_ineg hx hb hd (kk _ hl)) k
theorem gx_iushr (hX : gx_K V X cc own nL fr lo rt) {x y : Int32} (n : Nat) (hd : decode cc pc = .ok (.iushr, 1)) (hn : pc + 1 = n) (k : gx_G V X res σ n lv (.int ((x.toUInt32 >>> (y.toUInt32 &&& Int32.toUInt32 31)).toInt32) :: st)) : gx_G V X res σ pc lv (.int y :: .int x :: st) := by
  subst hn
  exact gx_lv hX (fun hx hb hl kk => lv_iushr hx hb hd rfl (kk _ hl)) k
theorem gx_land (hX : gx_K V X cc own nL fr lo rt) {x y : Int64} (n : Nat) (hd : decode cc pc = .ok (.land, 1)) (hn : pc + 1 = n) (k : gx_G V X res σ n lv (.long (x &&& y) :: st)) : gx_G V X res σ pc lv (.long y :: .long x :: st) := by
  subst hn
  exact gx_lv hX (fun hx hb hl kk => lv_land hx hb hd (kk _ hl)) k
theorem gx_lor (hX : gx_K V X cc own nL fr lo rt) {x y : Int64} (n : Nat) (hd : decode cc pc = .ok (.lor, 1)) (hn : pc + 1 = n) (k : gx_G V X res σ n lv (.long (x ||| y) :: st)) : gx_G V X res σ pc lv (.long y :: .long x :: st) := by
  subst hn
  exact gx_lv hX (fun hx hb hl kk => lv_lor hx hb hd (kk _ hl)) k
theorem gx_lxor (hX : gx_K V X cc own nL fr lo rt) {x y : Int64} (n : Nat) (hd : decode cc pc = .ok (.lxor, 1)) (hn : pc + 1 = n) (k : gx_G V X res σ n lv (.long (x ^^^ y) :: st)) : gx_G V X res σ pc lv (.long y :: .long x :: st) := by
  subst hn
  exact gx_lv hX (fun hx hb hl kk => lv_lxor hx hb hd (kk _ hl)) k
theorem gx_ladd (hX : gx_K V X cc own nL fr lo rt) {x y : Int64} (n : Nat) (hd : decode cc pc = .ok (.ladd, 1)) (hn : pc + 1 = n) (k : gx_G V X res σ n lv (.long (x + y) :: st)) : gx_G V X res σ pc lv (.long y :: .long x :: st) := by
  subst hn
  exact gx_lv hX (fun hx hb hl kk => lv_ladd hx hb hd (kk _ hl)) k
theorem gx_lsub (hX : gx_K V X cc own nL fr lo rt) {x y : Int64} (n : Nat) (hd : decode cc pc = .ok (.lsub, 1)) (hn : pc + 1 = n) (k : gx_G V X res σ n lv (.long (x - y) :: st)) : gx_G V X res σ pc lv (.long y :: .long x :: st) := by
  subst hn
  exact gx_lv hX (fun hx hb hl kk => lv_lsub hx hb hd (kk _ hl)) k
theorem gx_lmul (hX : gx_K V X cc own nL fr lo rt) {x y : Int64} (n : Nat) (hd : decode cc pc = .ok (.lmul, 1)) (hn : pc + 1 = n) (k : gx_G V X res σ n lv (.long (x * y) :: st)) : gx_G V X res σ pc lv (.long y :: .long x :: st) := by
  subst hn
  exact gx_lv hX (fun hx hb hl kk => lv_lmul hx hb hd (kk _ hl)) k
theorem gx_lushr (hX : gx_K V X cc own nL fr lo rt) {x : Int64} {y : Int32} (n : Nat) (hd : decode cc pc = .ok (.lushr, 1)) (hn : pc + 1 = n) (k : gx_G V X res σ n lv (.long ((x.toUInt64 >>> (y.toInt64.toUInt64 &&& Int64.toUInt64 63)).toInt64) :: st)) : gx_G V X res σ pc lv (.int y :: .long x :: st) := by
  subst hn
  exact gx_lv hX (fun hx hb hl kk => lv_lushr hx hb hd rfl (kk _ hl)) k
theorem gx_lshl (hX : gx_K V X cc own nL fr lo rt) {x : Int64} {y : Int32} (n : Nat) (hd : decode cc pc = .ok (.lshl, 1)) (hn : pc + 1 = n) (k : gx_G V X res σ n lv (.long (x <<< (y.toInt64 &&& 63)) :: st)) : gx_G V X res σ pc lv (.int y :: .long x :: st) := by
  subst hn
  exact gx_lv hX (fun hx hb hl kk => lv_lshl hx hb hd rfl (kk _ hl)) k
theorem gx_lshr (hX : gx_K V X cc own nL fr lo rt) {x : Int64} {y : Int32} (n : Nat) (hd : decode cc pc = .ok (.lshr, 1)) (hn : pc + 1 = n) (k : gx_G V X res σ n lv (.long (x >>> (y.toInt64 &&& 63)) :: st)) : gx_G V X res σ pc lv (.int y :: .long x :: st) := by
  subst hn
  exact gx_lv hX (fun hx hb hl kk => lv_lshr hx hb hd rfl (kk _ hl)) k
theorem gx_i2l (hX : gx_K V X cc own nL fr lo rt) {x : Int32} (n : Nat) (hd : decode cc pc = .ok (.i2l, 1)) (hn : pc + 1 = n) (k : gx_G V X res σ n lv (.long x.toInt64 :: st)) : gx_G V X res σ pc lv (.int x :: st) := by
  subst hn
  exact gx_lv hX (fun hx hb hl kk => lv_i2l hx hb hd rfl (kk _ hl)) k
theorem gx_l2i (hX : gx_K V X cc own nL fr lo rt) {x : Int64} (n : Nat) (hd : decode cc pc = .ok (.l2i, 1)) (hn : pc + 1 = n) (k : gx_G V X res σ n lv (.int x.toInt32 :: st)) : gx_G V X res σ pc lv (.long x :: st) := by
  subst hn
  exact gx_lv hX (fun hx hb hl kk => lv_l2i hx hb hd rfl (kk _ hl)) k
theorem gx_i2b (hX : gx_K V X cc own nL fr lo rt) {x : Int32} (n : Nat) (hd : decode cc pc = .ok (.i2b, 1)) (hn : pc + 1 = n) (k : gx_G V X res σ n lv (.int x.toInt8.toInt32 :: st)) : gx_G V X res σ pc lv (.int x :: st) := by
  subst hn
  exact gx_lv hX (fun hx hb hl kk => lv_i2b hx hb hd rfl (kk _ hl)) k
theorem gx_i2s (hX : gx_K V X cc own nL fr lo rt) {x : Int32} (n : Nat) (hd : decode cc pc = .ok (.i2s, 1)) (hn : pc + 1 = n) (k : gx_G V X res σ n lv (.int x.toInt16.toInt32 :: st)) : gx_G V X res σ pc lv (.int x :: st) := by
  subst hn
  exact gx_lv hX (fun hx hb hl kk => lv_i2s hx hb hd rfl (kk _ hl)) k
theorem gx_dup (hX : gx_K V X cc own nL fr lo rt) {a : Value} (n : Nat) (hd : decode cc pc = .ok (.dup, 1)) (ha : a.category = 1) (hn : pc + 1 = n) (k : gx_G V X res σ n lv (a :: a :: st)) : gx_G V X res σ pc lv (a :: st) := by
  subst hn
  exact gx_lv hX (fun hx hb hl kk => lv_dup hx hb hd ha (kk _ hl)) k
theorem gx_pop (hX : gx_K V X cc own nL fr lo rt) {a : Value} (n : Nat) (hd : decode cc pc = .ok (.pop, 1)) (ha : a.category = 1) (hn : pc + 1 = n) (k : gx_G V X res σ n lv (st)) : gx_G V X res σ pc lv (a :: st) := by
  subst hn
  exact gx_lv hX (fun hx hb hl kk => lv_pop hx hb hd ha (kk _ hl)) k
theorem gx_dup_x1 (hX : gx_K V X cc own nL fr lo rt) {a b : Value} (n : Nat) (hd : decode cc pc = .ok (.dup_x1, 1)) (ha : a.category = 1) (hb2 : b.category = 1) (hn : pc + 1 = n) (k : gx_G V X res σ n lv (a :: b :: a :: st)) : gx_G V X res σ pc lv (a :: b :: st) := by
  subst hn
  exact gx_lv hX (fun hx hb hl kk => lv_dup_x1 hx hb hd ha hb2 (kk _ hl)) k
theorem gx_dup2 (hX : gx_K V X cc own nL fr lo rt) {a b : Value} (n : Nat) (hd : decode cc pc = .ok (.dup2, 1)) (ha : a.category = 1) (hb2 : b.category = 1) (hn : pc + 1 = n) (k : gx_G V X res σ n lv (a :: b :: a :: b :: st)) : gx_G V X res σ pc lv (a :: b :: st) := by
  subst hn
  exact gx_lv hX (fun hx hb hl kk => lv_dup2_11 hx hb hd ha hb2 (kk _ hl)) k
theorem gx_icmp_eq (hX : gx_K V X cc own nL fr lo rt) {x y : Int32} {off : Int} (tgt n : Nat) (hd : decode cc pc = .ok (.if_icmp .eq off, 3)) (ht : (pc : Int) + off = (tgt : Int)) (hn : pc + 3 = n) (k1 : x = y → gx_G V X r1 σ tgt lv st) (k2 : ¬ x = y → gx_G V X r2 σ n lv st) : gx_G V X (if x = y then r1 else r2) σ pc lv (.int y :: .int x :: st) := by
  subst hn
  exact gx_br hX (fun hx hb a b => lv_icmp_eq hx hb hd ht a b) k1 k2
theorem gx_if_eq (hX : gx_K V X cc own nL fr lo rt) {x : Int32} {off : Int} (tgt n : Nat) (hd : decode cc pc = .ok (.ifCond .eq off, 3)) (ht : (pc : Int) + off = (tgt : Int)) (hn : pc + 3 = n) (k1 : x = 0 → gx_G V X r1 σ tgt lv st) (k2 : ¬ x = 0 → gx_G V X r2 σ n lv st) : gx_G V X (if x = 0 then r1 else r2) σ pc lv (.int x :: st) := by
  subst hn
  exact gx_br hX (fun hx hb a b => lv_if_eq hx hb hd ht a b) k1 k2
theorem gx_icmp_ne (hX : gx_K V X cc own nL fr lo rt) {x y : Int32} {off : Int} (tgt n : Nat) (hd : decode cc pc = .ok (.if_icmp .ne off, 3)) (ht : (pc : Int) + off = (tgt : Int)) (hn : pc + 3 = n) (k1 : ¬ x = y → gx_G V X r1 σ tgt lv st) (k2 : x = y → gx_G V X r2 σ n lv st) : gx_G V X (if x = y then r2 else r1) σ pc lv (.int y :: .int x :: st) := by
  subst hn
  exact gx_br hX (fun hx hb a b => lv_icmp_ne hx hb hd ht b a) k2 k1
theorem gx_if_ne (hX : gx_K V X cc own nL fr lo rt) {x : Int32} {off : Int} (tgt n : Nat) (hd : decode cc pc = .ok (.ifCond .ne off, 3)) (ht : (pc : Int) + off = (tgt : Int)) (hn : pc + 3 = n) (k1 : ¬ x = 0 → gx_G V X r1 σ tgt lv st) (k2 : x = 0 → gx_G V X r2 σ n lv st) : gx_G V X (if x = 0 then r2 else r1) σ pc lv (.int x :: st) := by
  subst hn
  exact gx_br hX (fun hx hb a b => lv_if_ne hx hb hd ht b a) k2 k1
theorem gx_icmp_lt (hX : gx_K V X cc own nL fr lo rt) {x y : Int32} {off : Int} (tgt n : Nat) (hd : decode cc pc = .ok (.if_icmp .lt off, 3)) (ht : (pc : Int) + off = (tgt : Int)) (hn : pc + 3 = n) (k1 : x < y → gx_G V X r1 σ tgt lv st) (k2 : ¬ x < y → gx_G V X r2 σ n lv st) : gx_G V X (if x < y then r1 else r2) σ pc lv (.int y :: .int x :: st) := by
  subst hn
  exact gx_br hX (fun hx hb a b => lv_icmp_lt hx hb hd ht a b) k1 k2
theorem gx_if_lt (hX : gx_K V X cc own nL fr lo rt) {x : Int32} {off : Int} (tgt n : Nat) (hd : decode cc pc = .ok (.ifCond .lt off, 3)) (ht : (pc : Int) + off = (tgt : Int)) (hn : pc + 3 = n) (k1 : x < 0 → gx_G V X r1 σ tgt lv st) (k2 : ¬ x < 0 → gx_G V X r2 σ n lv st) : gx_G V X (if x < 0 then r1 else r2) σ pc lv (.int x :: st) := by
  subst hn
  exact gx_br hX (fun hx hb a b => lv_if_lt hx hb hd ht a b) k1 k2
theorem gx_icmp_ge (hX : gx_K V X cc own nL fr lo rt) {x y : Int32} {off : Int} (tgt n : Nat) (hd : decode cc pc = .ok (.if_icmp .ge off, 3)) (ht : (pc : Int) + off = (tgt : Int)) (hn : pc + 3 = n) (k1 : y ≤ x → gx_G V X r1 σ tgt lv st) (k2 : ¬ y ≤ x → gx_G V X r2 σ n lv st) : gx_G V X (if y ≤ x then r1 else r2) σ pc lv (.int y :: .int x :: st) := by
  subst hn
  exact gx_br hX (fun hx hb a b => lv_icmp_ge hx hb hd ht a b) k1 k2
theorem gx_if_ge (hX : gx_K V X cc own nL fr lo rt) {x : Int32} {off : Int} (tgt n : Nat) (hd : decode cc pc = .ok (.ifCond .ge off, 3)) (ht : (pc : Int) + off = (tgt : Int)) (hn : pc + 3 = n) (k1 : 0 ≤ x → gx_G V X r1 σ tgt lv st) (k2 : ¬ 0 ≤ x → gx_G V X r2 σ n lv st) : gx_G V X (if 0 ≤ x then r1 else r2) σ pc lv (.int x :: st) := by
  subst hn
  exact gx_br hX (fun hx hb a b => lv_if_ge hx hb hd ht a b) k1 k2
theorem gx_icmp_gt (hX : gx_K V X cc own nL fr lo rt) {x y : Int32} {off : Int} (tgt n : Nat) (hd : decode cc pc = .ok (.if_icmp .gt off, 3)) (ht : (pc : Int) + off = (tgt : Int)) (hn : pc + 3 = n) (k1 : y < x → gx_G V X r1 σ tgt lv st) (k2 : ¬ y < x → gx_G V X r2 σ n lv st) : gx_G V X (if y < x then r1 else r2) σ pc lv (.int y :: .int x :: st) := by
  subst hn
  exact gx_br hX (fun hx hb a b => lv_icmp_gt hx hb hd ht a b) k1 k2
theorem gx_if_gt (hX : gx_K V X cc own nL fr lo rt) {x : Int32} {off : Int} (tgt n : Nat) (hd : decode cc pc = .ok (.ifCond .gt off, 3)) (ht : (pc : Int) + off = (tgt : Int)) (hn : pc + 3 = n) (k1 : 0 < x → gx_G V X r1 σ tgt lv st) (k2 : ¬ 0 < x → gx_G V X r2 σ n lv st) : gx_G V X (if 0 < x then r1 else r2) σ pc lv (.int x :: st) := by
  subst hn
  exact gx_br hX (fun hx hb a b => lv_if_gt hx hb hd ht a b) k1 k2
theorem gx_icmp_le (hX : gx_K V X cc own nL fr lo rt) {x y : Int32} {off : Int} (tgt n : Nat) (hd : decode cc pc = .ok (.if_icmp .le off, 3)) (ht : (pc : Int) + off = (tgt : Int)) (hn : pc + 3 = n) (k1 : x ≤ y → gx_G V X r1 σ tgt lv st) (k2 : ¬ x ≤ y → gx_G V X r2 σ n lv st) : gx_G V X (if x ≤ y then r1 else r2) σ pc lv (.int y :: .int x :: st) := by
  subst hn
  exact gx_br hX (fun hx hb a b => lv_icmp_le hx hb hd ht a b) k1 k2
theorem gx_if_le (hX : gx_K V X cc own nL fr lo rt) {x : Int32} {off : Int} (tgt n : Nat) (hd : decode cc pc = .ok (.ifCond .le off, 3)) (ht : (pc : Int) + off = (tgt : Int)) (hn : pc + 3 = n) (k1 : x ≤ 0 → gx_G V X r1 σ tgt lv st) (k2 : ¬ x ≤ 0 → gx_G V X r2 σ n lv st) : gx_G V X (if x ≤ 0 then r1 else r2) σ pc lv (.int x :: st) := by
  subst hn
  exact gx_br hX (fun hx hb a b => lv_if_le hx hb hd ht a b) k1 k2
theorem gx_goto (hX : gx_K V X cc own nL fr lo rt) {off : Int} (tgt : Nat) (hd : decode cc pc = .ok (.goto off, 3)) (ht : (pc : Int) + off = (tgt : Int)) (k : gx_G V X res σ tgt lv st) : gx_G V X res σ pc lv st := gx_lv hX (fun hx hb hl kk => lv_goto hx hb hd ht (kk _ hl)) k
theorem gx_bvN {e : Int32} {k : Int32 → gx_R} (kk : ∀ x, gx_G V X (k x) σ pc lv (.int x :: st)) : gx_G V X (gx_bv e k) σ pc lv (.int e :: st) := kk e
theorem gx_bwN {e : Int64} {k : Int64 → gx_R} (kk : ∀ x, gx_G V X (k x) σ pc lv (.long x :: st)) : gx_G V X (gx_bw e k) σ pc lv (.long e :: st) := kk e
theorem gx_iincN (hX : gx_K V X cc own nL fr lo rt) {i q : Nat} {z : Int} {x e : Int32} {k : Int32 → gx_R} (lv' : Int32 → List (Nat × Value)) (n : Nat) (hd : decode cc pc = .ok (.iinc i z, 3)) (hq : lv[q]? = some (i, .int x)) (hv : x + Int32.ofInt z = e) (hi2 : i < nL) (hl' : ∀ v, (i, Value.int v) :: lv.filter (fun q => !(q.1 == i) && !(q.1 + 1 == i && q.2.category == 2)) = lv' v) (hn : pc + 3 = n) (kk : ∀ v, gx_G V X (k v) σ n (lv' v) st) : gx_G V X (gx_bv e k) σ pc lv st := gx_iinc hX e (lv' e) n hd hq hv hi2 (hl' e) hn (kk e)
theorem gx_ldc (hX : gx_K V X cc own nL fr lo rt) {idx : Nat} (v : Int32) (n : Nat) (hd : decode cc pc = .ok (.ldc idx, 2)) (hw : Cond.constant own idx v ∈ gx_T) (hn : pc + 2 = n) (k : gx_G V X res σ n lv (.int v :: st)) : gx_G V X res σ pc lv st := by
  subst hn
  obtain ⟨⟨p, l, e, R, s, m, args, below, meth, c⟩, A, σ0, vd⟩ := X
  obtain ⟨hx, hb, hml, hown, hts, -⟩ := hX
  intro out h1 h2 ar H locs cells slots ls hls hP hD hS hc hs
  exact lv_ldc hx hb hown (hts _ hw) hd (k out h1 h2 ar H locs cells slots ls hls hP hD hS hc hs)
theorem gx_ldc2 (hX : gx_K V X cc own nL fr lo rt) {idx : Nat} (v : Int64) (n : Nat) (hd : decode cc pc = .ok (.ldc2_w idx, 3)) (hw : Cond.constantLong own idx v ∈ gx_T) (hn : pc + 3 = n) (k : gx_G V X res σ n lv (.long v :: st)) : gx_G V X res σ pc lv st := by
  subst hn
  obtain ⟨⟨p, l, e, R, s, m, args, below, meth, c⟩, A, σ0, vd⟩ := X
  obtain ⟨hx, hb, hml, hown, hts, -⟩ := hX
  intro out h1 h2 ar H locs cells slots ls hls hP hD hS hc hs
  exact lv_ldc2 hx hb hown (hts _ hw) hd (k out h1 h2 ar H locs cells slots ls hls hP hD hS hc hs)
theorem gx_tsw3 (hX : gx_K V X cc own nL fr lo rt) {x : Int32} {dflt : Int} {offs : Array Int} {len : Nat} {z0 z1 z2 zd : gx_R} (t0 t1 t2 td : Nat) (hd : decode cc pc = .ok (.tableswitch dflt 0 2 offs, len)) (h0 : offs[0]?.map (fun o => (pc : Int) + o) = some (t0 : Int)) (h1 : offs[1]?.map (fun o => (pc : Int) + o) = some (t1 : Int)) (h2 : offs[2]?.map (fun o => (pc : Int) + o) = some (t2 : Int)) (hdf : (pc : Int) + dflt = (td : Int)) (k0 : gx_G V X z0 σ t0 lv st) (k1 : gx_G V X z1 σ t1 lv st) (k2 : gx_G V X z2 σ t2 lv st) (kd : gx_G V X zd σ td lv st) : gx_G V X (if x = 0 then z0 else if x = 1 then z1 else if x = 2 then z2 else zd) σ pc lv (.int x :: st) := by
  obtain ⟨o0, e0, f0⟩ : ∃ o, offs[0]? = some o ∧ (pc : Int) + o = (t0 : Int) := by
    cases hq : offs[0]? with
    | none => rw [hq] at h0; cases h0
    | some o => rw [hq] at h0; exact ⟨o, rfl, Option.some.inj h0⟩
  obtain ⟨o1, e1, f1⟩ : ∃ o, offs[1]? = some o ∧ (pc : Int) + o = (t1 : Int) := by
    cases hq : offs[1]? with
    | none => rw [hq] at h1; cases h1
    | some o => rw [hq] at h1; exact ⟨o, rfl, Option.some.inj h1⟩
  obtain ⟨o2, e2, f2⟩ : ∃ o, offs[2]? = some o ∧ (pc : Int) + o = (t2 : Int) := by
    cases hq : offs[2]? with
    | none => rw [hq] at h2; cases h2
    | some o => rw [hq] at h2; exact ⟨o, rfl, Option.some.inj h2⟩
  by_cases c0 : x = 0
  · subst c0
    rw [if_pos (rfl : (0 : Int32) = 0)]
    exact gx_lv hX (fun hx hb hl kk => lv_tableIn hx hb hd (by decide) (by decide) (show offs[(Int32.toInt 0 - 0).toNat]? = some o0 from e0) f0 (kk _ hl)) k0
  by_cases c1 : x = 1
  · subst c1
    rw [if_neg (show ¬ (1 : Int32) = 0 by decide)]; rw [if_pos (rfl : (1 : Int32) = 1)]
    exact gx_lv hX (fun hx hb hl kk => lv_tableIn hx hb hd (by decide) (by decide) (show offs[(Int32.toInt 1 - 0).toNat]? = some o1 from e1) f1 (kk _ hl)) k1
  by_cases c2 : x = 2
  · subst c2
    rw [if_neg (show ¬ (2 : Int32) = 0 by decide)]; rw [if_neg (show ¬ (2 : Int32) = 1 by decide)]; rw [if_pos (rfl : (2 : Int32) = 2)]
    exact gx_lv hX (fun hx hb hl kk => lv_tableIn hx hb hd (by decide) (by decide) (show offs[(Int32.toInt 2 - 0).toNat]? = some o2 from e2) f2 (kk _ hl)) k2
  rw [if_neg c0]
  rw [if_neg c1]
  rw [if_neg c2]
  refine gx_lv hX (fun hx hb hl kk => lv_tableOut hx hb hd ?_ hdf (kk _ hl)) kd
  have n0 : ¬ x.toInt = 0 := lv_neT (k := 0) c0 (by decide)
  have n1 : ¬ x.toInt = 1 := lv_neT (k := 1) c1 (by decide)
  have n2 : ¬ x.toInt = 2 := lv_neT (k := 2) c2 (by decide)
  omega
theorem gx_tsw7 (hX : gx_K V X cc own nL fr lo rt) {x : Int32} {dflt : Int} {offs : Array Int} {len : Nat} {z0 z1 z2 z3 z4 z5 z6 zd : gx_R} (t0 t1 t2 t3 t4 t5 t6 td : Nat) (hd : decode cc pc = .ok (.tableswitch dflt 0 6 offs, len)) (h0 : offs[0]?.map (fun o => (pc : Int) + o) = some (t0 : Int)) (h1 : offs[1]?.map (fun o => (pc : Int) + o) = some (t1 : Int)) (h2 : offs[2]?.map (fun o => (pc : Int) + o) = some (t2 : Int)) (h3 : offs[3]?.map (fun o => (pc : Int) + o) = some (t3 : Int)) (h4 : offs[4]?.map (fun o => (pc : Int) + o) = some (t4 : Int)) (h5 : offs[5]?.map (fun o => (pc : Int) + o) = some (t5 : Int)) (h6 : offs[6]?.map (fun o => (pc : Int) + o) = some (t6 : Int)) (hdf : (pc : Int) + dflt = (td : Int)) (k0 : gx_G V X z0 σ t0 lv st) (k1 : gx_G V X z1 σ t1 lv st) (k2 : gx_G V X z2 σ t2 lv st) (k3 : gx_G V X z3 σ t3 lv st) (k4 : gx_G V X z4 σ t4 lv st) (k5 : gx_G V X z5 σ t5 lv st) (k6 : gx_G V X z6 σ t6 lv st) (kd : gx_G V X zd σ td lv st) : gx_G V X (if x = 0 then z0 else if x = 1 then z1 else if x = 2 then z2 else if x = 3 then z3 else if x = 4 then z4 else if x = 5 then z5 else if x = 6 then z6 else zd) σ pc lv (.int x :: st) := by
  obtain ⟨o0, e0, f0⟩ : ∃ o, offs[0]? = some o ∧ (pc : Int) + o = (t0 : Int) := by
    cases hq : offs[0]? with
    | none => rw [hq] at h0; cases h0
    | some o => rw [hq] at h0; exact ⟨o, rfl, Option.some.inj h0⟩
  obtain ⟨o1, e1, f1⟩ : ∃ o, offs[1]? = some o ∧ (pc : Int) + o = (t1 : Int) := by
    cases hq : offs[1]? with
    | none => rw [hq] at h1; cases h1
    | some o => rw [hq] at h1; exact ⟨o, rfl, Option.some.inj h1⟩
  obtain ⟨o2, e2, f2⟩ : ∃ o, offs[2]? = some o ∧ (pc : Int) + o = (t2 : Int) := by
    cases hq : offs[2]? with
    | none => rw [hq] at h2; cases h2
    | some o => rw [hq] at h2; exact ⟨o, rfl, Option.some.inj h2⟩
  obtain ⟨o3, e3, f3⟩ : ∃ o, offs[3]? = some o ∧ (pc : Int) + o = (t3 : Int) := by
    cases hq : offs[3]? with
    | none => rw [hq] at h3; cases h3
    | some o => rw [hq] at h3; exact ⟨o, rfl, Option.some.inj h3⟩
  obtain ⟨o4, e4, f4⟩ : ∃ o, offs[4]? = some o ∧ (pc : Int) + o = (t4 : Int) := by
    cases hq : offs[4]? with
    | none => rw [hq] at h4; cases h4
    | some o => rw [hq] at h4; exact ⟨o, rfl, Option.some.inj h4⟩
  obtain ⟨o5, e5, f5⟩ : ∃ o, offs[5]? = some o ∧ (pc : Int) + o = (t5 : Int) := by
    cases hq : offs[5]? with
    | none => rw [hq] at h5; cases h5
    | some o => rw [hq] at h5; exact ⟨o, rfl, Option.some.inj h5⟩
  obtain ⟨o6, e6, f6⟩ : ∃ o, offs[6]? = some o ∧ (pc : Int) + o = (t6 : Int) := by
    cases hq : offs[6]? with
    | none => rw [hq] at h6; cases h6
    | some o => rw [hq] at h6; exact ⟨o, rfl, Option.some.inj h6⟩
  by_cases c0 : x = 0
  · subst c0
    rw [if_pos (rfl : (0 : Int32) = 0)]
    exact gx_lv hX (fun hx hb hl kk => lv_tableIn hx hb hd (by decide) (by decide) (show offs[(Int32.toInt 0 - 0).toNat]? = some o0 from e0) f0 (kk _ hl)) k0
  by_cases c1 : x = 1
  · subst c1
    rw [if_neg (show ¬ (1 : Int32) = 0 by decide)]; rw [if_pos (rfl : (1 : Int32) = 1)]
    exact gx_lv hX (fun hx hb hl kk => lv_tableIn hx hb hd (by decide) (by decide) (show offs[(Int32.toInt 1 - 0).toNat]? = some o1 from e1) f1 (kk _ hl)) k1
  by_cases c2 : x = 2
  · subst c2
    rw [if_neg (show ¬ (2 : Int32) = 0 by decide)]; rw [if_neg (show ¬ (2 : Int32) = 1 by decide)]; rw [if_pos (rfl : (2 : Int32) = 2)]
    exact gx_lv hX (fun hx hb hl kk => lv_tableIn hx hb hd (by decide) (by decide) (show offs[(Int32.toInt 2 - 0).toNat]? = some o2 from e2) f2 (kk _ hl)) k2
  by_cases c3 : x = 3
  · subst c3
    rw [if_neg (show ¬ (3 : Int32) = 0 by decide)]; rw [if_neg (show ¬ (3 : Int32) = 1 by decide)]; rw [if_neg (show ¬ (3 : Int32) = 2 by decide)]; rw [if_pos (rfl : (3 : Int32) = 3)]
    exact gx_lv hX (fun hx hb hl kk => lv_tableIn hx hb hd (by decide) (by decide) (show offs[(Int32.toInt 3 - 0).toNat]? = some o3 from e3) f3 (kk _ hl)) k3
  by_cases c4 : x = 4
  · subst c4
    rw [if_neg (show ¬ (4 : Int32) = 0 by decide)]; rw [if_neg (show ¬ (4 : Int32) = 1 by decide)]; rw [if_neg (show ¬ (4 : Int32) = 2 by decide)]; rw [if_neg (show ¬ (4 : Int32) = 3 by decide)]; rw [if_pos (rfl : (4 : Int32) = 4)]
    exact gx_lv hX (fun hx hb hl kk => lv_tableIn hx hb hd (by decide) (by decide) (show offs[(Int32.toInt 4 - 0).toNat]? = some o4 from e4) f4 (kk _ hl)) k4
  by_cases c5 : x = 5
  · subst c5
    rw [if_neg (show ¬ (5 : Int32) = 0 by decide)]; rw [if_neg (show ¬ (5 : Int32) = 1 by decide)]; rw [if_neg (show ¬ (5 : Int32) = 2 by decide)]; rw [if_neg (show ¬ (5 : Int32) = 3 by decide)]; rw [if_neg (show ¬ (5 : Int32) = 4 by decide)]; rw [if_pos (rfl : (5 : Int32) = 5)]
    exact gx_lv hX (fun hx hb hl kk => lv_tableIn hx hb hd (by decide) (by decide) (show offs[(Int32.toInt 5 - 0).toNat]? = some o5 from e5) f5 (kk _ hl)) k5
  by_cases c6 : x = 6
  · subst c6
    rw [if_neg (show ¬ (6 : Int32) = 0 by decide)]; rw [if_neg (show ¬ (6 : Int32) = 1 by decide)]; rw [if_neg (show ¬ (6 : Int32) = 2 by decide)]; rw [if_neg (show ¬ (6 : Int32) = 3 by decide)]; rw [if_neg (show ¬ (6 : Int32) = 4 by decide)]; rw [if_neg (show ¬ (6 : Int32) = 5 by decide)]; rw [if_pos (rfl : (6 : Int32) = 6)]
    exact gx_lv hX (fun hx hb hl kk => lv_tableIn hx hb hd (by decide) (by decide) (show offs[(Int32.toInt 6 - 0).toNat]? = some o6 from e6) f6 (kk _ hl)) k6
  rw [if_neg c0]
  rw [if_neg c1]
  rw [if_neg c2]
  rw [if_neg c3]
  rw [if_neg c4]
  rw [if_neg c5]
  rw [if_neg c6]
  refine gx_lv hX (fun hx hb hl kk => lv_tableOut hx hb hd ?_ hdf (kk _ hl)) kd
  have n0 : ¬ x.toInt = 0 := lv_neT (k := 0) c0 (by decide)
  have n1 : ¬ x.toInt = 1 := lv_neT (k := 1) c1 (by decide)
  have n2 : ¬ x.toInt = 2 := lv_neT (k := 2) c2 (by decide)
  have n3 : ¬ x.toInt = 3 := lv_neT (k := 3) c3 (by decide)
  have n4 : ¬ x.toInt = 4 := lv_neT (k := 4) c4 (by decide)
  have n5 : ¬ x.toInt = 5 := lv_neT (k := 5) c5 (by decide)
  have n6 : ¬ x.toInt = 6 := lv_neT (k := 6) c6 (by decide)
  omega
theorem gx_tsw9 (hX : gx_K V X cc own nL fr lo rt) {x : Int32} {dflt : Int} {offs : Array Int} {len : Nat} {z0 z1 z2 z3 z4 z5 z6 z7 z8 zd : gx_R} (t0 t1 t2 t3 t4 t5 t6 t7 t8 td : Nat) (hd : decode cc pc = .ok (.tableswitch dflt 0 8 offs, len)) (h0 : offs[0]?.map (fun o => (pc : Int) + o) = some (t0 : Int)) (h1 : offs[1]?.map (fun o => (pc : Int) + o) = some (t1 : Int)) (h2 : offs[2]?.map (fun o => (pc : Int) + o) = some (t2 : Int)) (h3 : offs[3]?.map (fun o => (pc : Int) + o) = some (t3 : Int)) (h4 : offs[4]?.map (fun o => (pc : Int) + o) = some (t4 : Int)) (h5 : offs[5]?.map (fun o => (pc : Int) + o) = some (t5 : Int)) (h6 : offs[6]?.map (fun o => (pc : Int) + o) = some (t6 : Int)) (h7 : offs[7]?.map (fun o => (pc : Int) + o) = some (t7 : Int)) (h8 : offs[8]?.map (fun o => (pc : Int) + o) = some (t8 : Int)) (hdf : (pc : Int) + dflt = (td : Int)) (k0 : gx_G V X z0 σ t0 lv st) (k1 : gx_G V X z1 σ t1 lv st) (k2 : gx_G V X z2 σ t2 lv st) (k3 : gx_G V X z3 σ t3 lv st) (k4 : gx_G V X z4 σ t4 lv st) (k5 : gx_G V X z5 σ t5 lv st) (k6 : gx_G V X z6 σ t6 lv st) (k7 : gx_G V X z7 σ t7 lv st) (k8 : gx_G V X z8 σ t8 lv st) (kd : gx_G V X zd σ td lv st) : gx_G V X (if x = 0 then z0 else if x = 1 then z1 else if x = 2 then z2 else if x = 3 then z3 else if x = 4 then z4 else if x = 5 then z5 else if x = 6 then z6 else if x = 7 then z7 else if x = 8 then z8 else zd) σ pc lv (.int x :: st) := by
  obtain ⟨o0, e0, f0⟩ : ∃ o, offs[0]? = some o ∧ (pc : Int) + o = (t0 : Int) := by
    cases hq : offs[0]? with
    | none => rw [hq] at h0; cases h0
    | some o => rw [hq] at h0; exact ⟨o, rfl, Option.some.inj h0⟩
  obtain ⟨o1, e1, f1⟩ : ∃ o, offs[1]? = some o ∧ (pc : Int) + o = (t1 : Int) := by
    cases hq : offs[1]? with
    | none => rw [hq] at h1; cases h1
    | some o => rw [hq] at h1; exact ⟨o, rfl, Option.some.inj h1⟩
  obtain ⟨o2, e2, f2⟩ : ∃ o, offs[2]? = some o ∧ (pc : Int) + o = (t2 : Int) := by
    cases hq : offs[2]? with
    | none => rw [hq] at h2; cases h2
    | some o => rw [hq] at h2; exact ⟨o, rfl, Option.some.inj h2⟩
  obtain ⟨o3, e3, f3⟩ : ∃ o, offs[3]? = some o ∧ (pc : Int) + o = (t3 : Int) := by
    cases hq : offs[3]? with
    | none => rw [hq] at h3; cases h3
    | some o => rw [hq] at h3; exact ⟨o, rfl, Option.some.inj h3⟩
  obtain ⟨o4, e4, f4⟩ : ∃ o, offs[4]? = some o ∧ (pc : Int) + o = (t4 : Int) := by
    cases hq : offs[4]? with
    | none => rw [hq] at h4; cases h4
    | some o => rw [hq] at h4; exact ⟨o, rfl, Option.some.inj h4⟩
  obtain ⟨o5, e5, f5⟩ : ∃ o, offs[5]? = some o ∧ (pc : Int) + o = (t5 : Int) := by
    cases hq : offs[5]? with
    | none => rw [hq] at h5; cases h5
    | some o => rw [hq] at h5; exact ⟨o, rfl, Option.some.inj h5⟩
  obtain ⟨o6, e6, f6⟩ : ∃ o, offs[6]? = some o ∧ (pc : Int) + o = (t6 : Int) := by
    cases hq : offs[6]? with
    | none => rw [hq] at h6; cases h6
    | some o => rw [hq] at h6; exact ⟨o, rfl, Option.some.inj h6⟩
  obtain ⟨o7, e7, f7⟩ : ∃ o, offs[7]? = some o ∧ (pc : Int) + o = (t7 : Int) := by
    cases hq : offs[7]? with
    | none => rw [hq] at h7; cases h7
    | some o => rw [hq] at h7; exact ⟨o, rfl, Option.some.inj h7⟩
  obtain ⟨o8, e8, f8⟩ : ∃ o, offs[8]? = some o ∧ (pc : Int) + o = (t8 : Int) := by
    cases hq : offs[8]? with
    | none => rw [hq] at h8; cases h8
    | some o => rw [hq] at h8; exact ⟨o, rfl, Option.some.inj h8⟩
  by_cases c0 : x = 0
  · subst c0
    rw [if_pos (rfl : (0 : Int32) = 0)]
    exact gx_lv hX (fun hx hb hl kk => lv_tableIn hx hb hd (by decide) (by decide) (show offs[(Int32.toInt 0 - 0).toNat]? = some o0 from e0) f0 (kk _ hl)) k0
  by_cases c1 : x = 1
  · subst c1
    rw [if_neg (show ¬ (1 : Int32) = 0 by decide)]; rw [if_pos (rfl : (1 : Int32) = 1)]
    exact gx_lv hX (fun hx hb hl kk => lv_tableIn hx hb hd (by decide) (by decide) (show offs[(Int32.toInt 1 - 0).toNat]? = some o1 from e1) f1 (kk _ hl)) k1
  by_cases c2 : x = 2
  · subst c2
    rw [if_neg (show ¬ (2 : Int32) = 0 by decide)]; rw [if_neg (show ¬ (2 : Int32) = 1 by decide)]; rw [if_pos (rfl : (2 : Int32) = 2)]
    exact gx_lv hX (fun hx hb hl kk => lv_tableIn hx hb hd (by decide) (by decide) (show offs[(Int32.toInt 2 - 0).toNat]? = some o2 from e2) f2 (kk _ hl)) k2
  by_cases c3 : x = 3
  · subst c3
    rw [if_neg (show ¬ (3 : Int32) = 0 by decide)]; rw [if_neg (show ¬ (3 : Int32) = 1 by decide)]; rw [if_neg (show ¬ (3 : Int32) = 2 by decide)]; rw [if_pos (rfl : (3 : Int32) = 3)]
    exact gx_lv hX (fun hx hb hl kk => lv_tableIn hx hb hd (by decide) (by decide) (show offs[(Int32.toInt 3 - 0).toNat]? = some o3 from e3) f3 (kk _ hl)) k3
  by_cases c4 : x = 4
  · subst c4
    rw [if_neg (show ¬ (4 : Int32) = 0 by decide)]; rw [if_neg (show ¬ (4 : Int32) = 1 by decide)]; rw [if_neg (show ¬ (4 : Int32) = 2 by decide)]; rw [if_neg (show ¬ (4 : Int32) = 3 by decide)]; rw [if_pos (rfl : (4 : Int32) = 4)]
    exact gx_lv hX (fun hx hb hl kk => lv_tableIn hx hb hd (by decide) (by decide) (show offs[(Int32.toInt 4 - 0).toNat]? = some o4 from e4) f4 (kk _ hl)) k4
  by_cases c5 : x = 5
  · subst c5
    rw [if_neg (show ¬ (5 : Int32) = 0 by decide)]; rw [if_neg (show ¬ (5 : Int32) = 1 by decide)]; rw [if_neg (show ¬ (5 : Int32) = 2 by decide)]; rw [if_neg (show ¬ (5 : Int32) = 3 by decide)]; rw [if_neg (show ¬ (5 : Int32) = 4 by decide)]; rw [if_pos (rfl : (5 : Int32) = 5)]
    exact gx_lv hX (fun hx hb hl kk => lv_tableIn hx hb hd (by decide) (by decide) (show offs[(Int32.toInt 5 - 0).toNat]? = some o5 from e5) f5 (kk _ hl)) k5
  by_cases c6 : x = 6
  · subst c6
    rw [if_neg (show ¬ (6 : Int32) = 0 by decide)]; rw [if_neg (show ¬ (6 : Int32) = 1 by decide)]; rw [if_neg (show ¬ (6 : Int32) = 2 by decide)]; rw [if_neg (show ¬ (6 : Int32) = 3 by decide)]; rw [if_neg (show ¬ (6 : Int32) = 4 by decide)]; rw [if_neg (show ¬ (6 : Int32) = 5 by decide)]; rw [if_pos (rfl : (6 : Int32) = 6)]
    exact gx_lv hX (fun hx hb hl kk => lv_tableIn hx hb hd (by decide) (by decide) (show offs[(Int32.toInt 6 - 0).toNat]? = some o6 from e6) f6 (kk _ hl)) k6
  by_cases c7 : x = 7
  · subst c7
    rw [if_neg (show ¬ (7 : Int32) = 0 by decide)]; rw [if_neg (show ¬ (7 : Int32) = 1 by decide)]; rw [if_neg (show ¬ (7 : Int32) = 2 by decide)]; rw [if_neg (show ¬ (7 : Int32) = 3 by decide)]; rw [if_neg (show ¬ (7 : Int32) = 4 by decide)]; rw [if_neg (show ¬ (7 : Int32) = 5 by decide)]; rw [if_neg (show ¬ (7 : Int32) = 6 by decide)]; rw [if_pos (rfl : (7 : Int32) = 7)]
    exact gx_lv hX (fun hx hb hl kk => lv_tableIn hx hb hd (by decide) (by decide) (show offs[(Int32.toInt 7 - 0).toNat]? = some o7 from e7) f7 (kk _ hl)) k7
  by_cases c8 : x = 8
  · subst c8
    rw [if_neg (show ¬ (8 : Int32) = 0 by decide)]; rw [if_neg (show ¬ (8 : Int32) = 1 by decide)]; rw [if_neg (show ¬ (8 : Int32) = 2 by decide)]; rw [if_neg (show ¬ (8 : Int32) = 3 by decide)]; rw [if_neg (show ¬ (8 : Int32) = 4 by decide)]; rw [if_neg (show ¬ (8 : Int32) = 5 by decide)]; rw [if_neg (show ¬ (8 : Int32) = 6 by decide)]; rw [if_neg (show ¬ (8 : Int32) = 7 by decide)]; rw [if_pos (rfl : (8 : Int32) = 8)]
    exact gx_lv hX (fun hx hb hl kk => lv_tableIn hx hb hd (by decide) (by decide) (show offs[(Int32.toInt 8 - 0).toNat]? = some o8 from e8) f8 (kk _ hl)) k8
  rw [if_neg c0]
  rw [if_neg c1]
  rw [if_neg c2]
  rw [if_neg c3]
  rw [if_neg c4]
  rw [if_neg c5]
  rw [if_neg c6]
  rw [if_neg c7]
  rw [if_neg c8]
  refine gx_lv hX (fun hx hb hl kk => lv_tableOut hx hb hd ?_ hdf (kk _ hl)) kd
  have n0 : ¬ x.toInt = 0 := lv_neT (k := 0) c0 (by decide)
  have n1 : ¬ x.toInt = 1 := lv_neT (k := 1) c1 (by decide)
  have n2 : ¬ x.toInt = 2 := lv_neT (k := 2) c2 (by decide)
  have n3 : ¬ x.toInt = 3 := lv_neT (k := 3) c3 (by decide)
  have n4 : ¬ x.toInt = 4 := lv_neT (k := 4) c4 (by decide)
  have n5 : ¬ x.toInt = 5 := lv_neT (k := 5) c5 (by decide)
  have n6 : ¬ x.toInt = 6 := lv_neT (k := 6) c6 (by decide)
  have n7 : ¬ x.toInt = 7 := lv_neT (k := 7) c7 (by decide)
  have n8 : ¬ x.toInt = 8 := lv_neT (k := 8) c8 (by decide)
  omega
theorem gx_lcmp (hX : gx_K V X cc own nL fr lo rt) {x y : Int64} (n : Nat) (hd : decode cc pc = .ok (.lcmp, 1)) (hn : pc + 1 = n) (k : gx_G V X res σ n lv (.int (lg_cmp x y) :: st)) : gx_G V X res σ pc lv (.long y :: .long x :: st) := by
  subst hn
  exact gx_lv hX (fun hx hb hl kk => W.lcmp hx hb hd (kk _ hl)) k
/-- ends -/
theorem gx_ret (hX : gx_K V X cc own nL fr lo (some .int)) {v : Int32} (hd : decode cc pc = .ok (.ireturn, 1)) : gx_G V X (some (σ, v)) σ pc lv [.int v] := by
  obtain ⟨⟨p, l, e, R, s, m, args, below, meth, c⟩, A, σ0, vd⟩ := X
  obtain ⟨hx, hb, hml, hown, hts, hr, hlocks, hK, hA, -, -, -, -, hvd⟩ := hX
  intro out h1 h2 ar H locs cells slots ls hls hP hD hS hc hs
  cases h1
  subst hvd
  refine W.widen (k := V.2.2.2.1 σ0 - V.2.2.2.1 σ) (n := V.2.2.2.2 σ0 - V.2.2.2.2 σ) (by omega) (by omega) ?_
  exact W.iret hx hb hr (fun t ht hW => ⟨rfl, h2, by dsimp only; omega, by dsimp only; omega, ⟨ar, by rw [ht]; exact hP, hD⟩, hS.F ht⟩) hS.2.2 hd hlocks
theorem gx_retz (hX : gx_K V X cc own nL fr lo (some .boolean)) {v : Int32} (hd : decode cc pc = .ok (.ireturn, 1)) : gx_G V X (gx_rz σ v) σ pc lv [.int v] := by
  obtain ⟨⟨p, l, e, R, s, m, args, below, meth, c⟩, A, σ0, vd⟩ := X
  obtain ⟨hx, hb, hml, hown, hts, hr, hlocks, hK, hA, -, -, -, -, hvd⟩ := hX
  intro out h1 h2 ar H locs cells slots ls hls hP hD hS hc hs
  by_cases hv : v = 0 ∨ v = 1
  · rw [gx_rz, if_pos hv] at h1
    cases h1
    subst hvd
    refine W.widen (k := V.2.2.2.1 σ0 - V.2.2.2.1 σ) (n := V.2.2.2.2 σ0 - V.2.2.2.2 σ) (by omega) (by omega) ?_
    exact W.zret hx hb hr (by rcases hv with rfl | rfl <;> decide +kernel) (fun t ht hW => ⟨rfl, h2, by dsimp only; omega, by dsimp only; omega, ⟨ar, by rw [ht]; exact hP, hD⟩, hS.F ht⟩) hS.2.2 hd hlocks
  · rw [gx_rz, if_neg hv] at h1
    cases h1
theorem gx_retv (hX : gx_K V X cc own nL fr lo none) {v : Int32} (hd : decode cc pc = .ok (.return_, 1)) : gx_G V X (some (σ, v)) σ pc lv [] := by
  obtain ⟨⟨p, l, e, R, s, m, args, below, meth, c⟩, A, σ0, vd⟩ := X
  obtain ⟨hx, hb, hml, hown, hts, hr, hlocks, hK, hA, -, -, -, -, hvd⟩ := hX
  intro out h1 h2 ar H locs cells slots ls hls hP hD hS hc hs
  cases h1
  subst hvd
  refine W.widen (k := V.2.2.2.1 σ0 - V.2.2.2.1 σ) (n := V.2.2.2.2 σ0 - V.2.2.2.2 σ) (by omega) (by omega) ?_
  exact W.vret hx hb hr (fun t ht hW => ⟨rfl, h2, by dsimp only; omega, by dsimp only; omega, ⟨ar, by rw [ht]; exact hP, hD⟩, hS.F ht⟩) hS.2.2 hd hlocks
end GX
end
section
/-! CALLS: a contract gx_C, out of a walk gx_G, and the row of its call -/
def gx_C (l : Launch) (V : gx_V) (y : MethodName) (cc : ByteArray) (mL : Nat) (rt : Option FieldType) (fr lo : Nat) (av : List Value) (σ : gx_S) (res : gx_R) : Prop :=
  ∀ out, res = some out → V.2.2.1 σ → ∀ (ar : Nat → Nat) (sz : Nat), Met l y (Cond.code y cc mL rt :: gx_T) { frames := fr, cells := V.2.2.2.1 σ, slots := V.2.2.2.2 σ, locals := lo } (va_Pc av (fun U => U.heap.size = sz ∧ va_P V.1.1 V.1.2.1 (V.2.1 ar σ) U.heap ∧ va_K V.1.1 V.1.2.1 V.1.2.2 U ∧ va_D (fun _ => True) (V.2.1 ar σ))) (gx_Q V rt.isNone (va_A (V.2.1 ar σ) sz) σ out) (V.2.2.2.1 σ - V.2.2.2.1 out.1) (V.2.2.2.2 σ - V.2.2.2.2 out.1) (va_A (V.2.1 ar σ) sz)
theorem gx_met {l : Launch} {V : gx_V} {y : MethodName} {cc : ByteArray} {mL : Nat} {rt : Option FieldType} {fr lo : Nat} {av : List Value} {σ : gx_S} {res : gx_R} {lv : List (Nat × Value)} {own : String} (hy : plainName y.cls = true) (hown : y.cls = own) (hlen : (lg_sl av).length ≤ mL) (hlv : lv_args 0 av = lv)
    (h : ∀ X : gx_X, X.1.2.1 = l → gx_K V X cc own mL fr lo rt → gx_G V X res σ 0 lv []) : gx_C l V y cc mL rt fr lo av σ res := by
  intro out h1 h2 ar sz
  refine Met.ofW (cc := cc) (maxL := mL) (ret := rt) hy rfl ?_
  intro p e s m args below meth c s₁ B hml hv
  obtain ⟨rfl, hsz, hP, hK, hD0⟩ := hv
  subst hsz
  subst hown
  subst hlv
  have hts := atoms_spec (ws := Cond.code y cc mL rt :: gx_T) B.pre
  have hcls : s.vm.findClass y.cls = some m.cls := findClass_of_methodNamed B.named
  have hD := hD0.self (sz := s.heap.size)
  have hl := lv_entry av (n := mL) hlen
  rw [lg_entry_eq]
  exact h ((p, l, e, _, s, m, _, below, meth, c), va_A (V.2.1 ar σ) s.heap.size, σ, rt.isNone) rfl ⟨B.exec, B.bytes, hml, hcls, fun w hw => hts w (List.mem_cons_of_mem _ hw), B.returns, B.notSynchronized, hK, fun q hq => Or.inr hq, Nat.le_refl _, Nat.le_refl _, Nat.le_refl _, Nat.le_refl _, rfl⟩ out h1 h2 ar s.heap [] 0 0 _ (by rw [hml]; exact hl) hP hD va_S.rf (by omega) (by omega)
section GXC
variable {l : Launch} {R : Room} {p : Program} {e : Env} {below : List Frame} {s : State} {sargs : Array Value} {y : MethodName} {len Wd : Nat}
/-- a callee that asks for more room than it uses -/
theorem gx_back {ws : List Cond} {rm : Room} {Pc : Array Value → State → Prop} {Qc : Array Value → State → Outcome → State → Prop} {mc ms rc rs : Nat} {free : Addr → Prop} {bytes : ByteArray} {maxL : Nat} {ret : Option FieldType}
    (hM : Met l y ws rm Pc Qc mc ms free) (hblind : FrameBlind Pc) (hrc : rm.cells = rc) (hrs : rm.slots = rs) (hframes : rm.frames + 1 ≤ R.frames) (hlocals : Wd + (maxL + 11) + rm.locals ≤ R.locals)
    (hws : ∀ w ∈ ws, ∀ a' U, s.WarmedH U.vm → w.before a' U = true) (hcode : Cond.code y bytes maxL ret ∈ ws) (hinit : ∀ a' U, s.WarmedH U.vm → (Cond.initialized y.cls).before a' U = true) :
    Back l R p e below s sargs y len Wd (PreOf R rc rs Pc) (PostOf Qc mc ms free) := by
  refine Back.of_free (S := headSpec ws rm) (P := Pc) (K := fun _ _ _ _ _ => True) (Q := fun a st o t => Qc a st o t ∧ ∃ L, FrameEnd st o t L mc ms ∧ ∀ q ∈ L, free q.base) (bytes := bytes) (maxL := maxL) (ret := ret)
    (E := fun a st o t L k n => k = mc ∧ n = ms ∧ ∀ q ∈ L, free q.base) hM hframes hlocals ?_ ?_ (fun _ _ _ _ _ _ _ _ _ => trivial) ?_ ?_
  · intro m meth c A a X hp
    exact ⟨atoms_intro fun w hw => hws w hw _ _ X.warmed, hws _ hcode _ _ X.warmed, hinit _ _ X.warmed, by rw [show (headSpec ws rm).room.cells = rc from hrc]; exact hp.1, by rw [show (headSpec ws rm).room.slots = rs from hrs]; exact hp.2.1⟩
  · intro m meth c A a g mk X hp
    exact hblind _ _ _ _ hp.2.2
  · intro a st o t ⟨hq, L, hF, hL⟩
    exact ⟨L, mc, ms, hF, rfl, rfl, hL⟩
  · intro m meth c A a g mk v t L k n X hp hq hF ⟨e1, e2, hL⟩
    subst e1; subst e2
    exact ⟨g, mk, t, L, rfl, rfl, hq.1, rfl, hL, rfl, rfl⟩
end GXC
theorem gx_wsok {s : State} {args : Array Value} (hts : ∀ w ∈ gx_T, w.before args s = true) {y : MethodName} {cc : ByteArray} {mL : Nat} {rt : Option FieldType} (hc : Cond.code y cc mL rt ∈ gx_T) : ∀ w ∈ Cond.code y cc mL rt :: gx_T, ∀ (a' : Array Value) (U : State), s.WarmedH U.vm → w.before a' U = true := by
  intro w hw a' U hW
  have h1 : w ∈ gx_T := by
    rcases List.mem_cons.mp hw with rfl | h
    · exact hc
    · exact h
  exact word_at hW (gx_good w h1) (hts w h1)
theorem gx_blind {V : gx_V} {av : List Value} {sz : Nat} {ws : va_W} : FrameBlind (va_Pc av (fun U => U.heap.size = sz ∧ va_P V.1.1 V.1.2.1 ws U.heap ∧ va_K V.1.1 V.1.2.1 V.1.2.2 U ∧ va_D (fun _ => True) ws)) := by
  intro a U g mk q
  obtain ⟨q0, q1, qP, qK, qD⟩ := q
  exact ⟨q0, q1, qP, va_K.moved (u := U) (U := U.calling g mk a) (Vm.Alike.refl U.vm) qK, qD⟩
section GXD
variable {V : gx_V} {X : gx_X} {cc : ByteArray} {own : String} {nL fr lo : Nat} {rt : Option FieldType} {res : gx_R} {σ : gx_S} {pc : Nat} {lv : List (Nat × Value)} {st : List Value}
/-- invokevirtual of a method with a contract -/
theorem gx_callV (hX : gx_K V X cc own nL fr lo rt) {y : MethodName} {ccy : ByteArray} {mL fry loy idx b : Nat} {rty : Option FieldType} {resy : gx_R} {k : gx_S → Int32 → gx_R} {stk : List Value} (As : List Value) (n : Nat)
    (hM : gx_C X.1.2.1 V y ccy mL rty fry loy (.ref b :: As) σ resy)
    (hy : (y.cls ≠ "java/lang/invoke/MethodHandle" ∧ y.cls ≠ "java/lang/invoke/VarHandle") ∧ (parseMethodDescriptor y.desc).map (fun d => d.parameters.length) = some As.length)
    (hcode : Cond.code y ccy mL rty ∈ gx_T) (hlink : Cond.methodLink own idx y ∈ gx_T) (hinst : Cond.instanceMethod y ∈ gx_T) (hsel : Cond.selects y.cls y y ∈ gx_T) (hini : Cond.initialized y.cls ∈ gx_T)
    (hrecv : ∃ (q0 ci : Nat) (q : u_T × Nat), V.1.2.1[ci]? = some (y.cls, q) ∧ ∀ ar, ∃ fs, (V.2.1 ar σ)[q0]? = some (b, .inr (ci, fs)))
    (hroom : fry + 1 ≤ fr ∧ 8 + (mL + 11) + loy ≤ lo) (hst : (st.map fun v => v.category).sum ≤ 8) (hd : decode cc pc = .ok (.invokevirtual idx, 3)) (hn : pc + 3 = n) (hstk : stk = As.reverse ++ .ref b :: st)
    (kk : ∀ σ' r, resy = some (σ', r) → gx_G V X (k σ' r) σ' n lv ((if rty.isNone then [] else [.int r]) ++ st)) : gx_G V X (gx_bd resy k) σ pc lv stk := by
  subst hn
  subst hstk
  obtain ⟨⟨p, l, e, R, s, m, args, below, meth, c⟩, A, σ0, vd⟩ := X
  obtain ⟨hx, hb, hml, hown, hts, hr, hlocks, hK, hA, hfr, hlo, hRc, hRs, hvd⟩ := hX
  intro out h1 h2 ar H locs cells slots ls hls hP hD hS hc hs
  cases hres : resy with
  | none => rw [hres] at h1; cases h1
  | some o =>
    rw [hres] at h1
    have h1 : k o.1 o.2 = some out := h1
    have hMet := hM o hres h2 ar H.size
    have hsub : ∀ q, va_A (V.2.1 ar σ) H.size q → A q := fun q h => h.elim (fun ⟨k', e', hk'⟩ => hD.2 k' (q, e') hk') (fun h => hA q (Nat.le_trans hS.1 h))
    intro T hT X0
    have hBk : Back l R p e below s args y 3 8 (PreOf R (V.2.2.2.1 σ) (V.2.2.2.2 σ) _) _ := gx_back hMet gx_blind rfl rfl (by show fry + 1 ≤ R.frames; omega) (by show 8 + (mL + 11) + loy ≤ R.locals; omega) (gx_wsok hts hcode) List.mem_cons_self (fun a' U hW => word_at hW (gx_good _ hini) (hts _ hini))
    obtain ⟨q0, ci, q, hci, hq0⟩ := hrecv
    obtain ⟨fs, hq0⟩ := hq0 ar
    obtain ⟨cell, hcell, hobj, hcls⟩ := va_recv hK hP hci hq0
    obtain ⟨v, vm₁, ⟨U', l2, c2, s2⟩, hW₁, X', ⟨g', mk, t, L, e1, e2, hq, h1', hL, h2', h3'⟩, stp⟩ := callV X0 hx (C := y.cls) (bytes := ccy) (maxL := mL) (ret := rty) hown (hts _ hlink) (hts _ hinst) (hts _ hsel) (hts _ hcode) hy.1 hBk (by rw [hT]; exact hcell) hobj hcls (g := F0 m pc ls (As.reverse ++ .ref b :: st)) rfl hls.1 (argsL := As) (rest := st) (fun sig h => by have h3 := hy.2; rw [h] at h3; exact (Option.some.inj h3).symm) rfl (lv_room (m := m) (pc := pc) (ls := ls) (rest := As.reverse ++ .ref b :: st) hst) (by rw [hb]; exact hd)
      (fun vm₁ hW₁ => ⟨by show cells + V.2.2.2.1 σ ≤ R.cells; omega, by show slots + V.2.2.2.2 σ ≤ R.slots; omega, rfl, by show T.heap.size = H.size; rw [hT], by show va_P _ _ _ T.heap; rw [hT]; exact hP, va_K.moved hW₁.alike hK, hD.weaken (fun _ _ _ _ => trivial)⟩)
    dsimp only [Pt.U, Pt.locs, Pt.cells, Pt.slots] at X' e1 e2 h1' h2' h3' stp
    subst h1'; subst h2'; subst h3'
    obtain ⟨hv, hok, hpc, hps, ⟨ar', hP', hD'⟩, hF⟩ := hq
    have hv : v = if rty.isNone then none else some (.int o.2) := Outcome.returned.inj hv
    have hF : va_F (va_A (V.2.1 ar σ) H.size) _ t := hF
    have hz : H.size ≤ t.heap.size := by have := hF.1; rw [show ((T.setVm vm₁).calling g' mk (Value.ref b :: As).toArray).heap = H from hT] at this; exact this
    have hkeep : ∀ q : Nat, q < H.size → ¬ va_A (V.2.1 ar σ) H.size q → t.heap[q]? = H[q]? := fun q a1 a2 => by
      have := hF.2 q (by rw [show ((T.setVm vm₁).calling g' mk (Value.ref b :: As).toArray).heap = H from hT]; exact a1) a2
      rw [show ((T.setVm vm₁).calling g' mk (Value.ref b :: As).toArray).heap = H from hT] at this; exact this
    have hS' : va_S A s.heap t.heap (locs ++ L) := by
      refine ⟨Nat.le_trans hS.1 hz, fun q a1 a2 => ?_, fun q hq => ?_⟩
      · rw [hkeep q (Nat.lt_of_lt_of_le a1 hS.1) (fun h => a2 (hsub q h))]; exact hS.2.1 q a1 a2
      · rcases List.mem_append.mp hq with h | h
        · exact hS.2.2 q h
        · exact hsub _ (hL q h)
    obtain ⟨t2, a1, b1⟩ := kk o.1 o.2 hres out h1 hok ar' t.heap (locs ++ L) (cells + (V.2.2.2.1 σ - V.2.2.2.1 o.1)) (slots + (V.2.2.2.2 σ - V.2.2.2.2 o.1)) ls hls hP' (hD'.weaken (fun _ q _ h => hsub q.1 h)) hS' (by omega) (by omega) U' e1 X'
    refine ⟨t2, stp t2 ?_, b1⟩
    subst hv
    cases hn : rty.isNone <;> rw [hn] at a1 <;> exact a1
/-- the same, with an answer; without one; where the answer alone matters -/
theorem gx_callI (hX : gx_K V X cc own nL fr lo rt) {y : MethodName} {ccy : ByteArray} {mL fry loy idx b : Nat} {rty : Option FieldType} {resy : gx_R} {k : gx_S → Int32 → gx_R} {stk : List Value} (As : List Value) (n : Nat) (hrt : rty.isNone = false)
    (hM : gx_C X.1.2.1 V y ccy mL rty fry loy (.ref b :: As) σ resy)
    (hy : (y.cls ≠ "java/lang/invoke/MethodHandle" ∧ y.cls ≠ "java/lang/invoke/VarHandle") ∧ (parseMethodDescriptor y.desc).map (fun d => d.parameters.length) = some As.length)
    (hcode : Cond.code y ccy mL rty ∈ gx_T) (hlink : Cond.methodLink own idx y ∈ gx_T) (hinst : Cond.instanceMethod y ∈ gx_T) (hsel : Cond.selects y.cls y y ∈ gx_T) (hini : Cond.initialized y.cls ∈ gx_T)
    (hrecv : ∃ (q0 ci : Nat) (q : u_T × Nat), V.1.2.1[ci]? = some (y.cls, q) ∧ ∀ ar, ∃ fs, (V.2.1 ar σ)[q0]? = some (b, .inr (ci, fs)))
    (hroom : fry + 1 ≤ fr ∧ 8 + (mL + 11) + loy ≤ lo) (hst : (st.map fun v => v.category).sum ≤ 8) (hd : decode cc pc = .ok (.invokevirtual idx, 3)) (hn : pc + 3 = n) (hstk : stk = As.reverse ++ .ref b :: st)
    (kk : ∀ σ' r, resy = some (σ', r) → gx_G V X (k σ' r) σ' n lv (.int r :: st)) : gx_G V X (gx_bd resy k) σ pc lv stk :=
  gx_callV hX As n hM hy hcode hlink hinst hsel hini hrecv hroom hst hd hn hstk (fun σ' r h => by rw [hrt]; exact kk σ' r h)
theorem gx_callW (hX : gx_K V X cc own nL fr lo rt) {y : MethodName} {ccy : ByteArray} {mL fry loy idx b : Nat} {resy : gx_R} {k : gx_S → Int32 → gx_R} {stk : List Value} (As : List Value) (n : Nat)
    (hM : gx_C X.1.2.1 V y ccy mL none fry loy (.ref b :: As) σ resy)
    (hy : (y.cls ≠ "java/lang/invoke/MethodHandle" ∧ y.cls ≠ "java/lang/invoke/VarHandle") ∧ (parseMethodDescriptor y.desc).map (fun d => d.parameters.length) = some As.length)
    (hcode : Cond.code y ccy mL none ∈ gx_T) (hlink : Cond.methodLink own idx y ∈ gx_T) (hinst : Cond.instanceMethod y ∈ gx_T) (hsel : Cond.selects y.cls y y ∈ gx_T) (hini : Cond.initialized y.cls ∈ gx_T)
    (hrecv : ∃ (q0 ci : Nat) (q : u_T × Nat), V.1.2.1[ci]? = some (y.cls, q) ∧ ∀ ar, ∃ fs, (V.2.1 ar σ)[q0]? = some (b, .inr (ci, fs)))
    (hroom : fry + 1 ≤ fr ∧ 8 + (mL + 11) + loy ≤ lo) (hst : (st.map fun v => v.category).sum ≤ 8) (hd : decode cc pc = .ok (.invokevirtual idx, 3)) (hn : pc + 3 = n) (hstk : stk = As.reverse ++ .ref b :: st)
    (kk : ∀ σ' r, resy = some (σ', r) → gx_G V X (k σ' r) σ' n lv st) : gx_G V X (gx_bd resy k) σ pc lv stk :=
  gx_callV hX As n hM hy hcode hlink hinst hsel hini hrecv hroom hst hd hn hstk (fun σ' r h => kk σ' r h)
end GXD
end
section
/-! A UNIVERSE of fixed objects and fixed arrays of small numbers: objects 0 .. nO - 1 at ob k, arrays at ob (nO + j), of the type ty j, the length ln j; a state: int fields by number, arrays' contents by number -/
abbrev gf_U : Type := (Nat × Nat) × (gx_S → Nat → Nat × List Value) × (Nat → Nat) × (Nat → ClassId) × (Nat → Nat)
def gf_w (u : gf_U) (ob : Nat → Nat) (σ : gx_S) : va_W :=
  (List.range u.1.1).map (fun k => (ob k, Sum.inr (u.2.1 σ k))) ++ (List.range u.1.2).map (fun j => (ob (u.1.1 + j), Sum.inl (u.2.2.2.1 j, u.2.2.2.2 j, Sum.inl (σ.2.1 j))))
def gf_V (D : va_G) (cl : List vw_C) (tys : List (ClassId × FieldType)) (u : gf_U) (ob : Nat → Nat) : gx_V := ((D, cl, tys), (fun _ σ => gf_w u ob σ), (fun _ => True), (fun _ => 0), (fun _ => 0))
def gx_si (σ : gx_S) (k : Nat) (v : Int32) : gx_S := (upd σ.1 k v, σ.2.1, σ.2.2)
def gx_sa (σ : gx_S) (j i : Nat) (v : Int32) : gx_S := (σ.1, (fun q => if q = j then upd (σ.2.1 j) i v else σ.2.1 q), σ.2.2)
theorem gf_wo {u : gf_U} {ob : Nat → Nat} {σ : gx_S} (k : Nat) (hk : k < u.1.1) : (gf_w u ob σ)[k]? = some (ob k, Sum.inr (u.2.1 σ k)) := by
  unfold gf_w
  rw [List.getElem?_append_left (by rw [List.length_map, List.length_range]; exact hk), List.getElem?_map, List.getElem?_range hk]
  rfl
theorem gf_wa {u : gf_U} {ob : Nat → Nat} {σ : gx_S} (j : Nat) (hj : j < u.1.2) : (gf_w u ob σ)[u.1.1 + j]? = some (ob (u.1.1 + j), Sum.inl (u.2.2.2.1 j, u.2.2.2.2 j, Sum.inl (σ.2.1 j))) := by
  unfold gf_w
  rw [List.getElem?_append_right (by rw [List.length_map, List.length_range]; omega), List.length_map, List.length_range, List.getElem?_map, show u.1.1 + j - u.1.1 = j by omega, List.getElem?_range hj]
  rfl
theorem gf_wlen {u : gf_U} {ob : Nat → Nat} {σ : gx_S} : (gf_w u ob σ).length = u.1.1 + u.1.2 := by
  unfold gf_w
  rw [List.length_append, List.length_map, List.length_map, List.length_range, List.length_range]
theorem gf_wext {u : gf_U} {ob : Nat → Nat} {σ : gx_S} {l : va_W} (hl : l.length = u.1.1 + u.1.2) (ho : ∀ k, k < u.1.1 → l[k]? = some (ob k, Sum.inr (u.2.1 σ k))) (ha : ∀ j, j < u.1.2 → l[u.1.1 + j]? = some (ob (u.1.1 + j), Sum.inl (u.2.2.2.1 j, u.2.2.2.2 j, Sum.inl (σ.2.1 j)))) : l = gf_w u ob σ := by
  apply List.ext_getElem?
  intro i
  by_cases h1 : i < u.1.1
  · rw [ho i h1, gf_wo i h1]
  · by_cases h2 : i < u.1.1 + u.1.2
    · have h3 : i = u.1.1 + (i - u.1.1) := by omega
      rw [h3, ha (i - u.1.1) (by omega), gf_wa (i - u.1.1) (by omega)]
    · rw [List.getElem?_eq_none (by omega), List.getElem?_eq_none (by rw [gf_wlen]; omega)]
theorem gf_setO {u : gf_U} {ob : Nat → Nat} {σ σ' : gx_S} {k : Nat} {e : Nat × List Value} (hk : k < u.1.1) (he : u.2.1 σ' k = e) (ho : ∀ q, q < u.1.1 → q ≠ k → u.2.1 σ' q = u.2.1 σ q) (ha : σ'.2.1 = σ.2.1) : (gf_w u ob σ).set k (ob k, Sum.inr e) = gf_w u ob σ' := by
  refine gf_wext (by rw [List.length_set, gf_wlen]) (fun q hq => ?_) (fun j hj => ?_)
  · by_cases h : k = q
    · subst h
      rw [List.getElem?_set_self (by rw [gf_wlen]; omega), he]
    · rw [List.getElem?_set_ne h, gf_wo q hq, ho q hq (fun e => h e.symm)]
  · rw [List.getElem?_set_ne (by omega), gf_wa j hj, ha]
theorem gf_setA {u : gf_U} {ob : Nat → Nat} {σ σ' : gx_S} {j : Nat} {f : Nat → Int32} (hj : j < u.1.2) (ho : ∀ q, q < u.1.1 → u.2.1 σ' q = u.2.1 σ q) (hf : σ'.2.1 j = f) (ha : ∀ q, q ≠ j → σ'.2.1 q = σ.2.1 q) : (gf_w u ob σ).set (u.1.1 + j) (ob (u.1.1 + j), Sum.inl (u.2.2.2.1 j, u.2.2.2.2 j, Sum.inl f)) = gf_w u ob σ' := by
  refine gf_wext (by rw [List.length_set, gf_wlen]) (fun q hq => ?_) (fun q hq => ?_)
  · rw [List.getElem?_set_ne (by omega), gf_wo q hq, ho q hq]
  · by_cases h : j = q
    · subst h
      rw [List.getElem?_set_self (by rw [gf_wlen]; omega), hf]
    · rw [List.getElem?_set_ne (by omega), gf_wa q hq, ha q (fun e => h e.symm)]
section GF
variable {D : va_G} {cl : List vw_C} {tys : List (ClassId × FieldType)} {u : gf_U} {ob : Nat → Nat} {X : gx_X} {cc : ByteArray} {own : String} {nL fr lo : Nat} {rt : Option FieldType} {res : gx_R} {σ : gx_S} {pc : Nat} {lv : List (Nat × Value)} {st : List Value}
/-- getfield -/
theorem gf_get (hX : gx_K (gf_V D cl tys u ob) X cc own nL fr lo rt) {C : String} {T : u_T} {N ci idx : Nat} {v : Value} (k f n : Nat) (hk : k < u.1.1) (hc : cl[ci]? = some (C, T, N)) (hin : ∀ w ∈ u_ws C T N, w ∈ gx_T) (hf : f < N) (hlink : Cond.fieldLink own idx (T f).1 (T f).2.1 (T f).2.2.1 ∈ gx_T) (hO : (u.2.1 σ k).1 = ci) (hv : (u.2.1 σ k).2[f]? = some v) (hd : decode cc pc = .ok (.getfield idx, 3)) (hn : pc + 3 = n)
    (kk : gx_G (gf_V D cl tys u ob) X res σ n lv (v :: st)) : gx_G (gf_V D cl tys u ob) X res σ pc lv (.ref (ob k) :: st) := by
  subst hn
  obtain ⟨⟨p, l, e, R, s, m, args, below, meth, c⟩, A, σ0, vd⟩ := X
  obtain ⟨hx, hb, hml, hown, hts, hr, hlocks, hK, hA, -⟩ := hX
  intro out h1 h2 ar H locs cells slots ls hls hP hD hS hc' hs
  have hP' : va_P D cl (gf_w u ob σ) H := hP
  have hK' : va_K D cl tys s := hK
  exact va_get (ci := ci) hx hb hts hin hown hK' hP' k (fs := (u.2.1 σ k).2) (by rw [gf_wo k hk, ← hO]) hc f hf (hts _ hlink) (fun _ h => h) hv hd (kk out h1 h2 ar H locs cells slots ls hls hP hD hS hc' hs)
/-- putfield of an int field -/
theorem gf_put (hX : gx_K (gf_V D cl tys u ob) X cc own nL fr lo rt) {C : String} {T : u_T} {N ci idx : Nat} {x : Int32} {kf : gx_S → gx_R} (k f iv n : Nat) (hk : k < u.1.1) (hc : cl[ci]? = some (C, T, N)) (hin : ∀ w ∈ u_ws C T N, w ∈ gx_T) (ty0 : Nat → FieldType) (hty : ∀ k, k < N → parseFieldDescriptor (T k).2.2.1 = some (ty0 k)) (hnm : ∀ a, a < N → ∀ b, b < N → a ≠ b → (T a).2.1 ≠ (T b).2.1) (hf : f < N) (hlink : Cond.fieldLink own idx (T f).1 (T f).2.1 (T f).2.2.1 ∈ gx_T) (hfin : (T f).2.2.2 = false) (hdd : parseFieldDescriptor (T f).2.2.1 = some .int)
    (hO : (u.2.1 σ k).1 = ci) (hl : f < (u.2.1 σ k).2.length) (hO2 : u.2.1 (gx_si σ iv x) k = (ci, (u.2.1 σ k).2.set f (.int x))) (hne : ∀ q, q < u.1.1 → q ≠ k → u.2.1 (gx_si σ iv x) q = u.2.1 σ q) (hd : decode cc pc = .ok (.putfield idx, 3)) (hn : pc + 3 = n)
    (kk : ∀ σ', gx_G (gf_V D cl tys u ob) X (kf σ') σ' n lv st) : gx_G (gf_V D cl tys u ob) X (gx_sb (gx_si σ iv x) kf) σ pc lv (.int x :: .ref (ob k) :: st) := by
  subst hn
  obtain ⟨⟨p, l, e, R, s, m, args, below, meth, c⟩, A, σ0, vd⟩ := X
  obtain ⟨hx, hb, hml, hown, hts, hr, hlocks, hK, hA, -⟩ := hX
  intro out h1 h2 ar H locs cells slots ls hls hP hD hS hc' hs
  have hP' : va_P D cl (gf_w u ob σ) H := hP
  have hD' : va_D A (gf_w u ob σ) := hD
  have hK' : va_K D cl tys s := hK
  refine va_put (ci := ci) (ty := .int) hx hb hts hin ty0 hty hnm hown hK' hP' hD' hS k (fs := (u.2.1 σ k).2) (by rw [gf_wo k hk, ← hO]) hc f hf (hts _ hlink) (fun _ h => h) hfin hdd rfl rfl hl hd (fun H1 locs1 hP1 hD1 hS1 => ?_)
  have e := gf_setO (ob := ob) (σ := σ) (σ' := gx_si σ iv x) hk hO2 hne rfl
  rw [e] at hP1 hD1
  exact kk (gx_si σ iv x) out h1 h2 ar H1 locs1 cells slots ls hls hP1 hD1 hS1 hc' hs
end GF
def gx_ld (σ : gx_S) (j len : Nat) (i : Int32) (k : Int32 → gx_R) : gx_R := if i < 0 ∨ len ≤ i.toNatClampNeg then none else k (σ.2.1 j i.toNatClampNeg)
def gx_st (σ : gx_S) (j len : Nat) (i v : Int32) (k : gx_S → gx_R) : gx_R := if i < 0 ∨ len ≤ i.toNatClampNeg then none else k (gx_sa σ j i.toNatClampNeg v)
section GFA
variable {D : va_G} {cl : List vw_C} {tys : List (ClassId × FieldType)} {u : gf_U} {ob : Nat → Nat} {X : gx_X} {cc : ByteArray} {own : String} {nL fr lo : Nat} {rt : Option FieldType} {res : gx_R} {σ : gx_S} {pc : Nat} {lv : List (Nat × Value)} {st : List Value}
theorem gf_recv {C : String} {ci : Nat} {q : u_T × Nat} (k : Nat) (hk : k < u.1.1) (hc : cl[ci]? = some (C, q)) (hO : (u.2.1 σ k).1 = ci) : ∃ (q0 ci : Nat) (q : u_T × Nat), (gf_V D cl tys u ob).1.2.1[ci]? = some (C, q) ∧ ∀ ar, ∃ fs, ((gf_V D cl tys u ob).2.1 ar σ)[q0]? = some (ob k, .inr (ci, fs)) :=
  ⟨k, ci, q, hc, fun _ => ⟨(u.2.1 σ k).2, by show (gf_w u ob σ)[k]? = _; rw [gf_wo k hk, ← hO]⟩⟩
theorem gf_alen (hX : gx_K (gf_V D cl tys u ob) X cc own nL fr lo rt) (j q t0 n : Nat) (v : Int32) {ty : FieldType} (hj : j < u.1.2) (hq : u.1.1 + j = q) (ht : tys[t0]? = some (u.2.2.2.1 j, ty)) (hv : Int32.ofNat (u.2.2.2.2 j) = v) (hd : decode cc pc = .ok (.arraylength, 1)) (hn : pc + 1 = n)
    (kk : gx_G (gf_V D cl tys u ob) X res σ n lv (.int v :: st)) : gx_G (gf_V D cl tys u ob) X res σ pc lv (.ref (ob q) :: st) := by
  subst hn
  subst hq
  obtain ⟨⟨p, l, e, R, s, m, args, below, meth, c⟩, A, σ0, vd⟩ := X
  obtain ⟨hx, hb, hml, hown, hts, hr, hlocks, hK, hA, -⟩ := hX
  intro out h1 h2 ar H locs cells slots ls hls hP hD hS hc' hs
  have hP' : va_P D cl (gf_w u ob σ) H := hP
  have hK' : va_K D cl tys s := hK
  exact va_alen hx hb hK' hP' (u.1.1 + j) t0 (gf_wa j hj) ht hv hd (kk out h1 h2 ar H locs cells slots ls hls hP hD hS hc' hs)
theorem gf_iald (hX : gx_K (gf_V D cl tys u ob) X cc own nL fr lo rt) {i : Int32} {k : Int32 → gx_R} (j q t0 n : Nat) (hj : j < u.1.2) (hq : u.1.1 + j = q) (ht : tys[t0]? = some (u.2.2.2.1 j, .int)) (hd : decode cc pc = .ok (.iaload, 1)) (hn : pc + 1 = n)
    (kk : ∀ r, gx_G (gf_V D cl tys u ob) X (k r) σ n lv (.int r :: st)) : gx_G (gf_V D cl tys u ob) X (gx_ld σ j (u.2.2.2.2 j) i k) σ pc lv (.int i :: .ref (ob q) :: st) := by
  subst hn
  subst hq
  obtain ⟨⟨p, l, e, R, s, m, args, below, meth, c⟩, A, σ0, vd⟩ := X
  obtain ⟨hx, hb, hml, hown, hts, hr, hlocks, hK, hA, -⟩ := hX
  intro out h1 h2 ar H locs cells slots ls hls hP hD hS hc' hs
  have hP' : va_P D cl (gf_w u ob σ) H := hP
  have hK' : va_K D cl tys s := hK
  by_cases hi : i < 0 ∨ u.2.2.2.2 j ≤ i.toNatClampNeg
  · rw [gx_ld, if_pos hi] at h1
    cases h1
  · rw [gx_ld, if_neg hi] at h1
    exact va_iald hx hb hK' hP' (u.1.1 + j) t0 (gf_wa j hj) ht hi hd (kk _ out h1 h2 ar H locs cells slots ls hls hP hD hS hc' hs)
theorem gf_iast (hX : gx_K (gf_V D cl tys u ob) X cc own nL fr lo rt) {i x : Int32} {k : gx_S → gx_R} (j q t0 n : Nat) (hj : j < u.1.2) (hq : u.1.1 + j = q) (ht : tys[t0]? = some (u.2.2.2.1 j, .int)) (hu : ∀ i v q, u.2.1 (gx_sa σ j i v) q = u.2.1 σ q) (hd : decode cc pc = .ok (.iastore, 1)) (hn : pc + 1 = n)
    (kk : ∀ σ', gx_G (gf_V D cl tys u ob) X (k σ') σ' n lv st) : gx_G (gf_V D cl tys u ob) X (gx_st σ j (u.2.2.2.2 j) i x k) σ pc lv (.int x :: .int i :: .ref (ob q) :: st) := by
  subst hn
  subst hq
  obtain ⟨⟨p, l, e, R, s, m, args, below, meth, c⟩, A, σ0, vd⟩ := X
  obtain ⟨hx, hb, hml, hown, hts, hr, hlocks, hK, hA, -⟩ := hX
  intro out h1 h2 ar H locs cells slots ls hls hP hD hS hc' hs
  have hP' : va_P D cl (gf_w u ob σ) H := hP
  have hD' : va_D A (gf_w u ob σ) := hD
  have hK' : va_K D cl tys s := hK
  by_cases hi : i < 0 ∨ u.2.2.2.2 j ≤ i.toNatClampNeg
  · rw [gx_st, if_pos hi] at h1
    cases h1
  · rw [gx_st, if_neg hi] at h1
    refine va_iast hx hb hK' hP' hD' hS (u.1.1 + j) t0 (gf_wa j hj) ht hi hd (fun H1 locs1 hP1 hD1 hS1 => ?_)
    have e := gf_setA (ob := ob) (σ := σ) (σ' := gx_sa σ j i.toNatClampNeg x) (f := upd (σ.2.1 j) i.toNatClampNeg x) hj (fun q _ => hu _ _ q) (by show (if j = j then _ else _) = _; rw [if_pos rfl]) (fun q hq => by show (if q = j then _ else _) = _; rw [if_neg hq])
    rw [e] at hP1 hD1
    exact kk _ out h1 h2 ar H1 locs1 cells slots ls hls hP1 hD1 hS1 hc' hs
theorem gf_bald (hX : gx_K (gf_V D cl tys u ob) X cc own nL fr lo rt) {i : Int32} {k : Int32 → gx_R} (j q t0 n : Nat) (hj : j < u.1.2) (hq : u.1.1 + j = q) (ht : tys[t0]? = some (u.2.2.2.1 j, .byte)) (hd : decode cc pc = .ok (.baload, 1)) (hn : pc + 1 = n)
    (kk : ∀ r, gx_G (gf_V D cl tys u ob) X (k r) σ n lv (.int r :: st)) : gx_G (gf_V D cl tys u ob) X (gx_ld σ j (u.2.2.2.2 j) i k) σ pc lv (.int i :: .ref (ob q) :: st) := by
  subst hn
  subst hq
  obtain ⟨⟨p, l, e, R, s, m, args, below, meth, c⟩, A, σ0, vd⟩ := X
  obtain ⟨hx, hb, hml, hown, hts, hr, hlocks, hK, hA, -⟩ := hX
  intro out h1 h2 ar H locs cells slots ls hls hP hD hS hc' hs
  have hP' : va_P D cl (gf_w u ob σ) H := hP
  have hK' : va_K D cl tys s := hK
  by_cases hi : i < 0 ∨ u.2.2.2.2 j ≤ i.toNatClampNeg
  · rw [gx_ld, if_pos hi] at h1
    cases h1
  · rw [gx_ld, if_neg hi] at h1
    exact va_bald hx hb hK' hP' (u.1.1 + j) t0 (gf_wa j hj) ht hi hd (kk _ out h1 h2 ar H locs cells slots ls hls hP hD hS hc' hs)
theorem gf_bast (hX : gx_K (gf_V D cl tys u ob) X cc own nL fr lo rt) {i x : Int32} {k : gx_S → gx_R} (j q t0 n : Nat) (hj : j < u.1.2) (hq : u.1.1 + j = q) (ht : tys[t0]? = some (u.2.2.2.1 j, .byte)) (hu : ∀ i v q, u.2.1 (gx_sa σ j i v) q = u.2.1 σ q) (hd : decode cc pc = .ok (.bastore, 1)) (hn : pc + 1 = n)
    (kk : ∀ σ', gx_G (gf_V D cl tys u ob) X (k σ') σ' n lv st) : gx_G (gf_V D cl tys u ob) X (gx_st σ j (u.2.2.2.2 j) i (vp_nar .byte x) k) σ pc lv (.int x :: .int i :: .ref (ob q) :: st) := by
  subst hn
  subst hq
  obtain ⟨⟨p, l, e, R, s, m, args, below, meth, c⟩, A, σ0, vd⟩ := X
  obtain ⟨hx, hb, hml, hown, hts, hr, hlocks, hK, hA, -⟩ := hX
  intro out h1 h2 ar H locs cells slots ls hls hP hD hS hc' hs
  have hP' : va_P D cl (gf_w u ob σ) H := hP
  have hD' : va_D A (gf_w u ob σ) := hD
  have hK' : va_K D cl tys s := hK
  by_cases hi : i < 0 ∨ u.2.2.2.2 j ≤ i.toNatClampNeg
  · rw [gx_st, if_pos hi] at h1
    cases h1
  · rw [gx_st, if_neg hi] at h1
    refine va_bast hx hb hK' hP' hD' hS (u.1.1 + j) t0 (gf_wa j hj) ht hi hd (fun H1 locs1 hP1 hD1 hS1 => ?_)
    have e := gf_setA (ob := ob) (σ := σ) (σ' := gx_sa σ j i.toNatClampNeg (vp_nar .byte x)) (f := upd (σ.2.1 j) i.toNatClampNeg (vp_nar .byte x)) hj (fun q _ => hu _ _ q) (by show (if j = j then _ else _) = _; rw [if_pos rfl]) (fun q hq => by show (if q = j then _ else _) = _; rw [if_neg hq])
    rw [e] at hP1 hD1
    exact kk _ out h1 h2 ar H1 locs1 cells slots ls hls hP1 hD1 hS1 hc' hs
theorem gf_zald (hX : gx_K (gf_V D cl tys u ob) X cc own nL fr lo rt) {i : Int32} {k : Int32 → gx_R} (j q t0 n : Nat) (hj : j < u.1.2) (hq : u.1.1 + j = q) (ht : tys[t0]? = some (u.2.2.2.1 j, .boolean)) (hd : decode cc pc = .ok (.baload, 1)) (hn : pc + 1 = n)
    (kk : ∀ r, gx_G (gf_V D cl tys u ob) X (k r) σ n lv (.int r :: st)) : gx_G (gf_V D cl tys u ob) X (gx_ld σ j (u.2.2.2.2 j) i k) σ pc lv (.int i :: .ref (ob q) :: st) := by
  subst hn
  subst hq
  obtain ⟨⟨p, l, e, R, s, m, args, below, meth, c⟩, A, σ0, vd⟩ := X
  obtain ⟨hx, hb, hml, hown, hts, hr, hlocks, hK, hA, -⟩ := hX
  intro out h1 h2 ar H locs cells slots ls hls hP hD hS hc' hs
  have hP' : va_P D cl (gf_w u ob σ) H := hP
  have hK' : va_K D cl tys s := hK
  by_cases hi : i < 0 ∨ u.2.2.2.2 j ≤ i.toNatClampNeg
  · rw [gx_ld, if_pos hi] at h1
    cases h1
  · rw [gx_ld, if_neg hi] at h1
    exact va_zald hx hb hK' hP' (u.1.1 + j) t0 (gf_wa j hj) ht hi hd (kk _ out h1 h2 ar H locs cells slots ls hls hP hD hS hc' hs)
theorem gf_zast (hX : gx_K (gf_V D cl tys u ob) X cc own nL fr lo rt) {i x : Int32} {k : gx_S → gx_R} (j q t0 n : Nat) (hj : j < u.1.2) (hq : u.1.1 + j = q) (ht : tys[t0]? = some (u.2.2.2.1 j, .boolean)) (hu : ∀ i v q, u.2.1 (gx_sa σ j i v) q = u.2.1 σ q) (hd : decode cc pc = .ok (.bastore, 1)) (hn : pc + 1 = n)
    (kk : ∀ σ', gx_G (gf_V D cl tys u ob) X (k σ') σ' n lv st) : gx_G (gf_V D cl tys u ob) X (gx_st σ j (u.2.2.2.2 j) i (vp_nar .boolean x) k) σ pc lv (.int x :: .int i :: .ref (ob q) :: st) := by
  subst hn
  subst hq
  obtain ⟨⟨p, l, e, R, s, m, args, below, meth, c⟩, A, σ0, vd⟩ := X
  obtain ⟨hx, hb, hml, hown, hts, hr, hlocks, hK, hA, -⟩ := hX
  intro out h1 h2 ar H locs cells slots ls hls hP hD hS hc' hs
  have hP' : va_P D cl (gf_w u ob σ) H := hP
  have hD' : va_D A (gf_w u ob σ) := hD
  have hK' : va_K D cl tys s := hK
  by_cases hi : i < 0 ∨ u.2.2.2.2 j ≤ i.toNatClampNeg
  · rw [gx_st, if_pos hi] at h1
    cases h1
  · rw [gx_st, if_neg hi] at h1
    refine va_zast hx hb hK' hP' hD' hS (u.1.1 + j) t0 (gf_wa j hj) ht hi hd (fun H1 locs1 hP1 hD1 hS1 => ?_)
    have e := gf_setA (ob := ob) (σ := σ) (σ' := gx_sa σ j i.toNatClampNeg (vp_nar .boolean x)) (f := upd (σ.2.1 j) i.toNatClampNeg (vp_nar .boolean x)) hj (fun q _ => hu _ _ q) (by show (if j = j then _ else _) = _; rw [if_pos rfl]) (fun q hq => by show (if q = j then _ else _) = _; rw [if_neg hq])
    rw [e] at hP1 hD1
    exact kk _ out h1 h2 ar H1 locs1 cells slots ls hls hP1 hD1 hS1 hc' hs
theorem gf_sald (hX : gx_K (gf_V D cl tys u ob) X cc own nL fr lo rt) {i : Int32} {k : Int32 → gx_R} (j q t0 n : Nat) (hj : j < u.1.2) (hq : u.1.1 + j = q) (ht : tys[t0]? = some (u.2.2.2.1 j, .short)) (hd : decode cc pc = .ok (.saload, 1)) (hn : pc + 1 = n)
    (kk : ∀ r, gx_G (gf_V D cl tys u ob) X (k r) σ n lv (.int r :: st)) : gx_G (gf_V D cl tys u ob) X (gx_ld σ j (u.2.2.2.2 j) i k) σ pc lv (.int i :: .ref (ob q) :: st) := by
  subst hn
  subst hq
  obtain ⟨⟨p, l, e, R, s, m, args, below, meth, c⟩, A, σ0, vd⟩ := X
  obtain ⟨hx, hb, hml, hown, hts, hr, hlocks, hK, hA, -⟩ := hX
  intro out h1 h2 ar H locs cells slots ls hls hP hD hS hc' hs
  have hP' : va_P D cl (gf_w u ob σ) H := hP
  have hK' : va_K D cl tys s := hK
  by_cases hi : i < 0 ∨ u.2.2.2.2 j ≤ i.toNatClampNeg
  · rw [gx_ld, if_pos hi] at h1
    cases h1
  · rw [gx_ld, if_neg hi] at h1
    exact va_sald hx hb hK' hP' (u.1.1 + j) t0 (gf_wa j hj) ht hi hd (kk _ out h1 h2 ar H locs cells slots ls hls hP hD hS hc' hs)
theorem gf_sast (hX : gx_K (gf_V D cl tys u ob) X cc own nL fr lo rt) {i x : Int32} {k : gx_S → gx_R} (j q t0 n : Nat) (hj : j < u.1.2) (hq : u.1.1 + j = q) (ht : tys[t0]? = some (u.2.2.2.1 j, .short)) (hu : ∀ i v q, u.2.1 (gx_sa σ j i v) q = u.2.1 σ q) (hd : decode cc pc = .ok (.sastore, 1)) (hn : pc + 1 = n)
    (kk : ∀ σ', gx_G (gf_V D cl tys u ob) X (k σ') σ' n lv st) : gx_G (gf_V D cl tys u ob) X (gx_st σ j (u.2.2.2.2 j) i (vp_nar .short x) k) σ pc lv (.int x :: .int i :: .ref (ob q) :: st) := by
  subst hn
  subst hq
  obtain ⟨⟨p, l, e, R, s, m, args, below, meth, c⟩, A, σ0, vd⟩ := X
  obtain ⟨hx, hb, hml, hown, hts, hr, hlocks, hK, hA, -⟩ := hX
  intro out h1 h2 ar H locs cells slots ls hls hP hD hS hc' hs
  have hP' : va_P D cl (gf_w u ob σ) H := hP
  have hD' : va_D A (gf_w u ob σ) := hD
  have hK' : va_K D cl tys s := hK
  by_cases hi : i < 0 ∨ u.2.2.2.2 j ≤ i.toNatClampNeg
  · rw [gx_st, if_pos hi] at h1
    cases h1
  · rw [gx_st, if_neg hi] at h1
    refine va_sast hx hb hK' hP' hD' hS (u.1.1 + j) t0 (gf_wa j hj) ht hi hd (fun H1 locs1 hP1 hD1 hS1 => ?_)
    have e := gf_setA (ob := ob) (σ := σ) (σ' := gx_sa σ j i.toNatClampNeg (vp_nar .short x)) (f := upd (σ.2.1 j) i.toNatClampNeg (vp_nar .short x)) hj (fun q _ => hu _ _ q) (by show (if j = j then _ else _) = _; rw [if_pos rfl]) (fun q hq => by show (if q = j then _ else _) = _; rw [if_neg hq])
    rw [e] at hP1 hD1
    exact kk _ out h1 h2 ar H1 locs1 cells slots ls hls hP1 hD1 hS1 hc' hs
end GFA
end
section
theorem tw_105 : (Jvm.Cond.laysFinal "TypeLoom$Ints" "TypeLoom$Ints" "limit" "I") ∈ gx_T := gx_mem (i := 105) (by decide +kernel) (by decide +kernel)
theorem tw_107 : (Jvm.Cond.lays "TypeLoom$Ints" "TypeLoom$Ints" "cells" "[I") ∈ gx_T := gx_mem (i := 107) (by decide +kernel) (by decide +kernel)
theorem tw_115 : (Jvm.Cond.laysFinal "TypeLoom$Constructors" "TypeLoom$Constructors" "arities" "LTypeLoom$Ints;") ∈ gx_T := gx_mem (i := 115) (by decide +kernel) (by decide +kernel)
theorem tw_117 : (Jvm.Cond.laysFinal "TypeLoom$Constructors" "TypeLoom$Constructors" "equalities" "LTypeLoom$Ints;") ∈ gx_T := gx_mem (i := 117) (by decide +kernel) (by decide +kernel)
theorem tw_119 : (Jvm.Cond.lays "TypeLoom$Constructors" "TypeLoom$Constructors" "size" "I") ∈ gx_T := gx_mem (i := 119) (by decide +kernel) (by decide +kernel)
theorem tw_138 : (Jvm.Cond.laysFinal "TypeLoom$Pushed" "TypeLoom$Pushed" "labels" "LTypeLoom$Ints;") ∈ gx_T := gx_mem (i := 138) (by decide +kernel) (by decide +kernel)
theorem tw_140 : (Jvm.Cond.laysFinal "TypeLoom$Pushed" "TypeLoom$Pushed" "nodes" "LTypeLoom$Ints;") ∈ gx_T := gx_mem (i := 140) (by decide +kernel) (by decide +kernel)
theorem tw_142 : (Jvm.Cond.lays "TypeLoom$Pushed" "TypeLoom$Pushed" "size" "I") ∈ gx_T := gx_mem (i := 142) (by decide +kernel) (by decide +kernel)
theorem tw_144 : (Jvm.Cond.lays "TypeLoom$Pushed" "TypeLoom$Pushed" "fields" "I") ∈ gx_T := gx_mem (i := 144) (by decide +kernel) (by decide +kernel)
theorem tw_209 : (Jvm.Cond.laysFinal "TypeLoom$Web" "TypeLoom$Web" "kinds" "LTypeLoom$Ints;") ∈ gx_T := gx_mem (i := 209) (by decide +kernel) (by decide +kernel)
theorem tw_211 : (Jvm.Cond.laysFinal "TypeLoom$Web" "TypeLoom$Web" "heads" "LTypeLoom$Ints;") ∈ gx_T := gx_mem (i := 211) (by decide +kernel) (by decide +kernel)
theorem tw_213 : (Jvm.Cond.laysFinal "TypeLoom$Web" "TypeLoom$Web" "levels" "LTypeLoom$Ints;") ∈ gx_T := gx_mem (i := 213) (by decide +kernel) (by decide +kernel)
theorem tw_215 : (Jvm.Cond.laysFinal "TypeLoom$Web" "TypeLoom$Web" "wishes" "LTypeLoom$Ints;") ∈ gx_T := gx_mem (i := 215) (by decide +kernel) (by decide +kernel)
theorem tw_217 : (Jvm.Cond.laysFinal "TypeLoom$Web" "TypeLoom$Web" "firsts" "LTypeLoom$Ints;") ∈ gx_T := gx_mem (i := 217) (by decide +kernel) (by decide +kernel)
theorem tw_219 : (Jvm.Cond.laysFinal "TypeLoom$Web" "TypeLoom$Web" "sizes" "LTypeLoom$Ints;") ∈ gx_T := gx_mem (i := 219) (by decide +kernel) (by decide +kernel)
theorem tw_221 : (Jvm.Cond.laysFinal "TypeLoom$Web" "TypeLoom$Web" "tails" "LTypeLoom$Ints;") ∈ gx_T := gx_mem (i := 221) (by decide +kernel) (by decide +kernel)
theorem tw_223 : (Jvm.Cond.laysFinal "TypeLoom$Web" "TypeLoom$Web" "parents" "LTypeLoom$Ints;") ∈ gx_T := gx_mem (i := 223) (by decide +kernel) (by decide +kernel)
theorem tw_225 : (Jvm.Cond.laysFinal "TypeLoom$Web" "TypeLoom$Web" "weights" "LTypeLoom$Ints;") ∈ gx_T := gx_mem (i := 225) (by decide +kernel) (by decide +kernel)
theorem tw_227 : (Jvm.Cond.laysFinal "TypeLoom$Web" "TypeLoom$Web" "labels" "LTypeLoom$Ints;") ∈ gx_T := gx_mem (i := 227) (by decide +kernel) (by decide +kernel)
theorem tw_229 : (Jvm.Cond.laysFinal "TypeLoom$Web" "TypeLoom$Web" "parts" "LTypeLoom$Ints;") ∈ gx_T := gx_mem (i := 229) (by decide +kernel) (by decide +kernel)
theorem tw_231 : (Jvm.Cond.laysFinal "TypeLoom$Web" "TypeLoom$Web" "numbered" "LTypeLoom$Ints;") ∈ gx_T := gx_mem (i := 231) (by decide +kernel) (by decide +kernel)
theorem tw_233 : (Jvm.Cond.lays "TypeLoom$Web" "TypeLoom$Web" "nodes" "I") ∈ gx_T := gx_mem (i := 233) (by decide +kernel) (by decide +kernel)
theorem tw_235 : (Jvm.Cond.lays "TypeLoom$Web" "TypeLoom$Web" "slots" "I") ∈ gx_T := gx_mem (i := 235) (by decide +kernel) (by decide +kernel)
theorem tw_237 : (Jvm.Cond.lays "TypeLoom$Web" "TypeLoom$Web" "types" "I") ∈ gx_T := gx_mem (i := 237) (by decide +kernel) (by decide +kernel)
theorem tw_239 : (Jvm.Cond.lays "TypeLoom$Web" "TypeLoom$Web" "partsMade" "I") ∈ gx_T := gx_mem (i := 239) (by decide +kernel) (by decide +kernel)
theorem tw_241 : (Jvm.Cond.lays "TypeLoom$Web" "TypeLoom$Web" "rows" "I") ∈ gx_T := gx_mem (i := 241) (by decide +kernel) (by decide +kernel)
theorem tw_265 : (Jvm.Cond.laysFinal "TypeLoom$Walk" "TypeLoom$Walk" "web" "LTypeLoom$Web;") ∈ gx_T := gx_mem (i := 265) (by decide +kernel) (by decide +kernel)
theorem tw_267 : (Jvm.Cond.laysFinal "TypeLoom$Walk" "TypeLoom$Walk" "known" "LTypeLoom$Constructors;") ∈ gx_T := gx_mem (i := 267) (by decide +kernel) (by decide +kernel)
theorem tw_269 : (Jvm.Cond.laysFinal "TypeLoom$Walk" "TypeLoom$Walk" "stack" "LTypeLoom$Ints;") ∈ gx_T := gx_mem (i := 269) (by decide +kernel) (by decide +kernel)
theorem tw_271 : (Jvm.Cond.laysFinal "TypeLoom$Walk" "TypeLoom$Walk" "places" "LTypeLoom$Ints;") ∈ gx_T := gx_mem (i := 271) (by decide +kernel) (by decide +kernel)
theorem tw_273 : (Jvm.Cond.laysFinal "TypeLoom$Walk" "TypeLoom$Walk" "marks" "LTypeLoom$Ints;") ∈ gx_T := gx_mem (i := 273) (by decide +kernel) (by decide +kernel)
theorem tw_275 : (Jvm.Cond.laysFinal "TypeLoom$Walk" "TypeLoom$Walk" "order" "LTypeLoom$Ints;") ∈ gx_T := gx_mem (i := 275) (by decide +kernel) (by decide +kernel)
theorem tw_277 : (Jvm.Cond.lays "TypeLoom$Walk" "TypeLoom$Walk" "size" "I") ∈ gx_T := gx_mem (i := 277) (by decide +kernel) (by decide +kernel)
theorem tw_279 : (Jvm.Cond.lays "TypeLoom$Walk" "TypeLoom$Walk" "entered" "I") ∈ gx_T := gx_mem (i := 279) (by decide +kernel) (by decide +kernel)
theorem tw_281 : (Jvm.Cond.lays "TypeLoom$Walk" "TypeLoom$Walk" "left" "I") ∈ gx_T := gx_mem (i := 281) (by decide +kernel) (by decide +kernel)
theorem tw_303 : (Jvm.Cond.laysFinal "TypeLoom$Shapes" "TypeLoom$Shapes" "web" "LTypeLoom$Web;") ∈ gx_T := gx_mem (i := 303) (by decide +kernel) (by decide +kernel)
theorem tw_305 : (Jvm.Cond.laysFinal "TypeLoom$Shapes" "TypeLoom$Shapes" "walk" "LTypeLoom$Walk;") ∈ gx_T := gx_mem (i := 305) (by decide +kernel) (by decide +kernel)
theorem tw_307 : (Jvm.Cond.laysFinal "TypeLoom$Shapes" "TypeLoom$Shapes" "ranks" "LTypeLoom$Ints;") ∈ gx_T := gx_mem (i := 307) (by decide +kernel) (by decide +kernel)
theorem tw_309 : (Jvm.Cond.laysFinal "TypeLoom$Shapes" "TypeLoom$Shapes" "buckets" "LTypeLoom$Ints;") ∈ gx_T := gx_mem (i := 309) (by decide +kernel) (by decide +kernel)
theorem tw_311 : (Jvm.Cond.laysFinal "TypeLoom$Shapes" "TypeLoom$Shapes" "nexts" "LTypeLoom$Ints;") ∈ gx_T := gx_mem (i := 311) (by decide +kernel) (by decide +kernel)
theorem tw_313 : (Jvm.Cond.laysFinal "TypeLoom$Shapes" "TypeLoom$Shapes" "nodes" "LTypeLoom$Ints;") ∈ gx_T := gx_mem (i := 313) (by decide +kernel) (by decide +kernel)
theorem tw_315 : (Jvm.Cond.lays "TypeLoom$Shapes" "TypeLoom$Shapes" "size" "I") ∈ gx_T := gx_mem (i := 315) (by decide +kernel) (by decide +kernel)
theorem tw_344 : (Jvm.Cond.laysFinal "TypeLoom$Unifier" "TypeLoom$Unifier" "web" "LTypeLoom$Web;") ∈ gx_T := gx_mem (i := 344) (by decide +kernel) (by decide +kernel)
theorem tw_346 : (Jvm.Cond.laysFinal "TypeLoom$Unifier" "TypeLoom$Unifier" "walk" "LTypeLoom$Walk;") ∈ gx_T := gx_mem (i := 346) (by decide +kernel) (by decide +kernel)
theorem tw_348 : (Jvm.Cond.laysFinal "TypeLoom$Unifier" "TypeLoom$Unifier" "known" "LTypeLoom$Constructors;") ∈ gx_T := gx_mem (i := 348) (by decide +kernel) (by decide +kernel)
theorem tw_350 : (Jvm.Cond.laysFinal "TypeLoom$Unifier" "TypeLoom$Unifier" "lefts" "LTypeLoom$Ints;") ∈ gx_T := gx_mem (i := 350) (by decide +kernel) (by decide +kernel)
theorem tw_352 : (Jvm.Cond.laysFinal "TypeLoom$Unifier" "TypeLoom$Unifier" "rights" "LTypeLoom$Ints;") ∈ gx_T := gx_mem (i := 352) (by decide +kernel) (by decide +kernel)
theorem tw_354 : (Jvm.Cond.laysFinal "TypeLoom$Unifier" "TypeLoom$Unifier" "places" "LTypeLoom$Ints;") ∈ gx_T := gx_mem (i := 354) (by decide +kernel) (by decide +kernel)
theorem tw_356 : (Jvm.Cond.lays "TypeLoom$Unifier" "TypeLoom$Unifier" "depth" "I") ∈ gx_T := gx_mem (i := 356) (by decide +kernel) (by decide +kernel)
theorem tw_358 : (Jvm.Cond.laysFinal "TypeLoom$Unifier" "TypeLoom$Unifier" "joined" "LTypeLoom$Ints;") ∈ gx_T := gx_mem (i := 358) (by decide +kernel) (by decide +kernel)
theorem tw_360 : (Jvm.Cond.lays "TypeLoom$Unifier" "TypeLoom$Unifier" "joins" "I") ∈ gx_T := gx_mem (i := 360) (by decide +kernel) (by decide +kernel)
theorem tw_362 : (Jvm.Cond.laysFinal "TypeLoom$Unifier" "TypeLoom$Unifier" "boundRows" "LTypeLoom$Ints;") ∈ gx_T := gx_mem (i := 362) (by decide +kernel) (by decide +kernel)
theorem tw_364 : (Jvm.Cond.lays "TypeLoom$Unifier" "TypeLoom$Unifier" "bounds" "I") ∈ gx_T := gx_mem (i := 364) (by decide +kernel) (by decide +kernel)
theorem tw_366 : (Jvm.Cond.laysFinal "TypeLoom$Unifier" "TypeLoom$Unifier" "changed" "LTypeLoom$Ints;") ∈ gx_T := gx_mem (i := 366) (by decide +kernel) (by decide +kernel)
theorem tw_368 : (Jvm.Cond.laysFinal "TypeLoom$Unifier" "TypeLoom$Unifier" "oldLevels" "LTypeLoom$Ints;") ∈ gx_T := gx_mem (i := 368) (by decide +kernel) (by decide +kernel)
theorem tw_370 : (Jvm.Cond.laysFinal "TypeLoom$Unifier" "TypeLoom$Unifier" "oldWishes" "LTypeLoom$Ints;") ∈ gx_T := gx_mem (i := 370) (by decide +kernel) (by decide +kernel)
theorem tw_372 : (Jvm.Cond.laysFinal "TypeLoom$Unifier" "TypeLoom$Unifier" "oldHeads" "LTypeLoom$Ints;") ∈ gx_T := gx_mem (i := 372) (by decide +kernel) (by decide +kernel)
theorem tw_374 : (Jvm.Cond.lays "TypeLoom$Unifier" "TypeLoom$Unifier" "changes" "I") ∈ gx_T := gx_mem (i := 374) (by decide +kernel) (by decide +kernel)
theorem tw_376 : (Jvm.Cond.laysFinal "TypeLoom$Unifier" "TypeLoom$Unifier" "changeMarks" "LTypeLoom$Ints;") ∈ gx_T := gx_mem (i := 376) (by decide +kernel) (by decide +kernel)
theorem tw_378 : (Jvm.Cond.lays "TypeLoom$Unifier" "TypeLoom$Unifier" "turn" "I") ∈ gx_T := gx_mem (i := 378) (by decide +kernel) (by decide +kernel)
theorem tw_413 : (Jvm.Cond.laysFinal "TypeLoom$Schemes" "TypeLoom$Schemes" "web" "LTypeLoom$Web;") ∈ gx_T := gx_mem (i := 413) (by decide +kernel) (by decide +kernel)
theorem tw_415 : (Jvm.Cond.laysFinal "TypeLoom$Schemes" "TypeLoom$Schemes" "shapes" "LTypeLoom$Shapes;") ∈ gx_T := gx_mem (i := 415) (by decide +kernel) (by decide +kernel)
theorem tw_417 : (Jvm.Cond.laysFinal "TypeLoom$Schemes" "TypeLoom$Schemes" "kinds" "LTypeLoom$Ints;") ∈ gx_T := gx_mem (i := 417) (by decide +kernel) (by decide +kernel)
theorem tw_419 : (Jvm.Cond.laysFinal "TypeLoom$Schemes" "TypeLoom$Schemes" "heads" "LTypeLoom$Ints;") ∈ gx_T := gx_mem (i := 419) (by decide +kernel) (by decide +kernel)
theorem tw_421 : (Jvm.Cond.laysFinal "TypeLoom$Schemes" "TypeLoom$Schemes" "tails" "LTypeLoom$Ints;") ∈ gx_T := gx_mem (i := 421) (by decide +kernel) (by decide +kernel)
theorem tw_423 : (Jvm.Cond.laysFinal "TypeLoom$Schemes" "TypeLoom$Schemes" "firsts" "LTypeLoom$Ints;") ∈ gx_T := gx_mem (i := 423) (by decide +kernel) (by decide +kernel)
theorem tw_425 : (Jvm.Cond.laysFinal "TypeLoom$Schemes" "TypeLoom$Schemes" "labels" "LTypeLoom$Ints;") ∈ gx_T := gx_mem (i := 425) (by decide +kernel) (by decide +kernel)
theorem tw_427 : (Jvm.Cond.laysFinal "TypeLoom$Schemes" "TypeLoom$Schemes" "ranks" "LTypeLoom$Ints;") ∈ gx_T := gx_mem (i := 427) (by decide +kernel) (by decide +kernel)
theorem tw_429 : (Jvm.Cond.laysFinal "TypeLoom$Schemes" "TypeLoom$Schemes" "starts" "LTypeLoom$Ints;") ∈ gx_T := gx_mem (i := 429) (by decide +kernel) (by decide +kernel)
theorem tw_431 : (Jvm.Cond.laysFinal "TypeLoom$Schemes" "TypeLoom$Schemes" "told" "LTypeLoom$Ints;") ∈ gx_T := gx_mem (i := 431) (by decide +kernel) (by decide +kernel)
theorem tw_433 : (Jvm.Cond.laysFinal "TypeLoom$Schemes" "TypeLoom$Schemes" "quantifieds" "LTypeLoom$Ints;") ∈ gx_T := gx_mem (i := 433) (by decide +kernel) (by decide +kernel)
theorem tw_435 : (Jvm.Cond.laysFinal "TypeLoom$Schemes" "TypeLoom$Schemes" "wishers" "LTypeLoom$Ints;") ∈ gx_T := gx_mem (i := 435) (by decide +kernel) (by decide +kernel)
theorem tw_437 : (Jvm.Cond.laysFinal "TypeLoom$Schemes" "TypeLoom$Schemes" "keeps" "LTypeLoom$Ints;") ∈ gx_T := gx_mem (i := 437) (by decide +kernel) (by decide +kernel)
theorem tw_439 : (Jvm.Cond.laysFinal "TypeLoom$Schemes" "TypeLoom$Schemes" "openRecords" "LTypeLoom$Ints;") ∈ gx_T := gx_mem (i := 439) (by decide +kernel) (by decide +kernel)
theorem tw_441 : (Jvm.Cond.laysFinal "TypeLoom$Schemes" "TypeLoom$Schemes" "made" "LTypeLoom$Ints;") ∈ gx_T := gx_mem (i := 441) (by decide +kernel) (by decide +kernel)
theorem tw_443 : (Jvm.Cond.lays "TypeLoom$Schemes" "TypeLoom$Schemes" "size" "I") ∈ gx_T := gx_mem (i := 443) (by decide +kernel) (by decide +kernel)
theorem tw_445 : (Jvm.Cond.lays "TypeLoom$Schemes" "TypeLoom$Schemes" "types" "I") ∈ gx_T := gx_mem (i := 445) (by decide +kernel) (by decide +kernel)
theorem tw_447 : (Jvm.Cond.lays "TypeLoom$Schemes" "TypeLoom$Schemes" "parts" "I") ∈ gx_T := gx_mem (i := 447) (by decide +kernel) (by decide +kernel)
theorem tw_458 : (Jvm.Cond.laysFinal "TypeLoom" "TypeLoom" "known" "LTypeLoom$Constructors;") ∈ gx_T := gx_mem (i := 458) (by decide +kernel) (by decide +kernel)
theorem tw_460 : (Jvm.Cond.laysFinal "TypeLoom" "TypeLoom" "pushed" "LTypeLoom$Pushed;") ∈ gx_T := gx_mem (i := 460) (by decide +kernel) (by decide +kernel)
theorem tw_462 : (Jvm.Cond.laysFinal "TypeLoom" "TypeLoom" "web" "LTypeLoom$Web;") ∈ gx_T := gx_mem (i := 462) (by decide +kernel) (by decide +kernel)
theorem tw_464 : (Jvm.Cond.laysFinal "TypeLoom" "TypeLoom" "walk" "LTypeLoom$Walk;") ∈ gx_T := gx_mem (i := 464) (by decide +kernel) (by decide +kernel)
theorem tw_466 : (Jvm.Cond.laysFinal "TypeLoom" "TypeLoom" "shapes" "LTypeLoom$Shapes;") ∈ gx_T := gx_mem (i := 466) (by decide +kernel) (by decide +kernel)
theorem tw_468 : (Jvm.Cond.laysFinal "TypeLoom" "TypeLoom" "unifier" "LTypeLoom$Unifier;") ∈ gx_T := gx_mem (i := 468) (by decide +kernel) (by decide +kernel)
theorem tw_470 : (Jvm.Cond.laysFinal "TypeLoom" "TypeLoom" "kept" "LTypeLoom$Schemes;") ∈ gx_T := gx_mem (i := 470) (by decide +kernel) (by decide +kernel)
theorem tw_472 : (Jvm.Cond.lays "TypeLoom" "TypeLoom" "present" "I") ∈ gx_T := gx_mem (i := 472) (by decide +kernel) (by decide +kernel)
theorem tw_981 : (Jvm.Cond.lays "TypeLoomModel" "TypeLoomModel" "constructors" "I") ∈ gx_T := gx_mem (i := 981) (by decide +kernel) (by decide +kernel)
theorem tw_983 : (Jvm.Cond.laysFinal "TypeLoomModel" "TypeLoomModel" "arity" "[B") ∈ gx_T := gx_mem (i := 983) (by decide +kernel) (by decide +kernel)
theorem tw_985 : (Jvm.Cond.laysFinal "TypeLoomModel" "TypeLoomModel" "equality" "[B") ∈ gx_T := gx_mem (i := 985) (by decide +kernel) (by decide +kernel)
theorem tw_987 : (Jvm.Cond.lays "TypeLoomModel" "TypeLoomModel" "types" "I") ∈ gx_T := gx_mem (i := 987) (by decide +kernel) (by decide +kernel)
theorem tw_989 : (Jvm.Cond.laysFinal "TypeLoomModel" "TypeLoomModel" "kind" "[B") ∈ gx_T := gx_mem (i := 989) (by decide +kernel) (by decide +kernel)
theorem tw_991 : (Jvm.Cond.laysFinal "TypeLoomModel" "TypeLoomModel" "con" "[I") ∈ gx_T := gx_mem (i := 991) (by decide +kernel) (by decide +kernel)
theorem tw_993 : (Jvm.Cond.laysFinal "TypeLoomModel" "TypeLoomModel" "first" "[I") ∈ gx_T := gx_mem (i := 993) (by decide +kernel) (by decide +kernel)
theorem tw_995 : (Jvm.Cond.laysFinal "TypeLoomModel" "TypeLoomModel" "many" "[S") ∈ gx_T := gx_mem (i := 995) (by decide +kernel) (by decide +kernel)
theorem tw_997 : (Jvm.Cond.laysFinal "TypeLoomModel" "TypeLoomModel" "rowOf" "[I") ∈ gx_T := gx_mem (i := 997) (by decide +kernel) (by decide +kernel)
theorem tw_999 : (Jvm.Cond.laysFinal "TypeLoomModel" "TypeLoomModel" "level" "[B") ∈ gx_T := gx_mem (i := 999) (by decide +kernel) (by decide +kernel)
theorem tw_1001 : (Jvm.Cond.laysFinal "TypeLoomModel" "TypeLoomModel" "wish" "[Z") ∈ gx_T := gx_mem (i := 1001) (by decide +kernel) (by decide +kernel)
theorem tw_1003 : (Jvm.Cond.laysFinal "TypeLoomModel" "TypeLoomModel" "sets" "[I") ∈ gx_T := gx_mem (i := 1003) (by decide +kernel) (by decide +kernel)
theorem tw_1005 : (Jvm.Cond.laysFinal "TypeLoomModel" "TypeLoomModel" "link" "[I") ∈ gx_T := gx_mem (i := 1005) (by decide +kernel) (by decide +kernel)
theorem tw_1007 : (Jvm.Cond.lays "TypeLoomModel" "TypeLoomModel" "parts" "I") ∈ gx_T := gx_mem (i := 1007) (by decide +kernel) (by decide +kernel)
theorem tw_1009 : (Jvm.Cond.laysFinal "TypeLoomModel" "TypeLoomModel" "part" "[S") ∈ gx_T := gx_mem (i := 1009) (by decide +kernel) (by decide +kernel)
theorem tw_1011 : (Jvm.Cond.laysFinal "TypeLoomModel" "TypeLoomModel" "labels" "[S") ∈ gx_T := gx_mem (i := 1011) (by decide +kernel) (by decide +kernel)
theorem tw_1013 : (Jvm.Cond.lays "TypeLoomModel" "TypeLoomModel" "rows" "I") ∈ gx_T := gx_mem (i := 1013) (by decide +kernel) (by decide +kernel)
theorem tw_1015 : (Jvm.Cond.lays "TypeLoomModel" "TypeLoomModel" "allRows" "I") ∈ gx_T := gx_mem (i := 1015) (by decide +kernel) (by decide +kernel)
theorem tw_1017 : (Jvm.Cond.laysFinal "TypeLoomModel" "TypeLoomModel" "rowLevel" "[B") ∈ gx_T := gx_mem (i := 1017) (by decide +kernel) (by decide +kernel)
theorem tw_1019 : (Jvm.Cond.laysFinal "TypeLoomModel" "TypeLoomModel" "rowWish" "[Z") ∈ gx_T := gx_mem (i := 1019) (by decide +kernel) (by decide +kernel)
theorem tw_1021 : (Jvm.Cond.laysFinal "TypeLoomModel" "TypeLoomModel" "rowFirst" "[I") ∈ gx_T := gx_mem (i := 1021) (by decide +kernel) (by decide +kernel)
theorem tw_1023 : (Jvm.Cond.laysFinal "TypeLoomModel" "TypeLoomModel" "rowMany" "[I") ∈ gx_T := gx_mem (i := 1023) (by decide +kernel) (by decide +kernel)
theorem tw_1025 : (Jvm.Cond.laysFinal "TypeLoomModel" "TypeLoomModel" "rowNext" "[I") ∈ gx_T := gx_mem (i := 1025) (by decide +kernel) (by decide +kernel)
theorem tw_1027 : (Jvm.Cond.lays "TypeLoomModel" "TypeLoomModel" "rowParts" "I") ∈ gx_T := gx_mem (i := 1027) (by decide +kernel) (by decide +kernel)
theorem tw_1029 : (Jvm.Cond.laysFinal "TypeLoomModel" "TypeLoomModel" "rowPart" "[S") ∈ gx_T := gx_mem (i := 1029) (by decide +kernel) (by decide +kernel)
theorem tw_1031 : (Jvm.Cond.laysFinal "TypeLoomModel" "TypeLoomModel" "rowLabel" "[S") ∈ gx_T := gx_mem (i := 1031) (by decide +kernel) (by decide +kernel)
theorem tw_1033 : (Jvm.Cond.lays "TypeLoomModel" "TypeLoomModel" "pushed" "I") ∈ gx_T := gx_mem (i := 1033) (by decide +kernel) (by decide +kernel)
theorem tw_1035 : (Jvm.Cond.laysFinal "TypeLoomModel" "TypeLoomModel" "pushedLabel" "[I") ∈ gx_T := gx_mem (i := 1035) (by decide +kernel) (by decide +kernel)
theorem tw_1037 : (Jvm.Cond.laysFinal "TypeLoomModel" "TypeLoomModel" "pushedType" "[I") ∈ gx_T := gx_mem (i := 1037) (by decide +kernel) (by decide +kernel)
theorem tw_1039 : (Jvm.Cond.lays "TypeLoomModel" "TypeLoomModel" "present" "I") ∈ gx_T := gx_mem (i := 1039) (by decide +kernel) (by decide +kernel)
theorem tw_1041 : (Jvm.Cond.lays "TypeLoomModel" "TypeLoomModel" "schemes" "I") ∈ gx_T := gx_mem (i := 1041) (by decide +kernel) (by decide +kernel)
theorem tw_1043 : (Jvm.Cond.laysFinal "TypeLoomModel" "TypeLoomModel" "schemeFirst" "[I") ∈ gx_T := gx_mem (i := 1043) (by decide +kernel) (by decide +kernel)
theorem tw_1045 : (Jvm.Cond.laysFinal "TypeLoomModel" "TypeLoomModel" "schemeMany" "[I") ∈ gx_T := gx_mem (i := 1045) (by decide +kernel) (by decide +kernel)
theorem tw_1047 : (Jvm.Cond.laysFinal "TypeLoomModel" "TypeLoomModel" "schemeEqual" "[I") ∈ gx_T := gx_mem (i := 1047) (by decide +kernel) (by decide +kernel)
theorem tw_1049 : (Jvm.Cond.laysFinal "TypeLoomModel" "TypeLoomModel" "schemeClosed" "[Z") ∈ gx_T := gx_mem (i := 1049) (by decide +kernel) (by decide +kernel)
theorem tw_1051 : (Jvm.Cond.lays "TypeLoomModel" "TypeLoomModel" "schemeTypes" "I") ∈ gx_T := gx_mem (i := 1051) (by decide +kernel) (by decide +kernel)
theorem tw_1053 : (Jvm.Cond.laysFinal "TypeLoomModel" "TypeLoomModel" "sKind" "[B") ∈ gx_T := gx_mem (i := 1053) (by decide +kernel) (by decide +kernel)
theorem tw_1055 : (Jvm.Cond.laysFinal "TypeLoomModel" "TypeLoomModel" "sWhat" "[I") ∈ gx_T := gx_mem (i := 1055) (by decide +kernel) (by decide +kernel)
theorem tw_1057 : (Jvm.Cond.laysFinal "TypeLoomModel" "TypeLoomModel" "sFirst" "[I") ∈ gx_T := gx_mem (i := 1057) (by decide +kernel) (by decide +kernel)
theorem tw_1059 : (Jvm.Cond.laysFinal "TypeLoomModel" "TypeLoomModel" "sRow" "[I") ∈ gx_T := gx_mem (i := 1059) (by decide +kernel) (by decide +kernel)
theorem tw_1061 : (Jvm.Cond.lays "TypeLoomModel" "TypeLoomModel" "schemeParts" "I") ∈ gx_T := gx_mem (i := 1061) (by decide +kernel) (by decide +kernel)
theorem tw_1063 : (Jvm.Cond.laysFinal "TypeLoomModel" "TypeLoomModel" "sPart" "[S") ∈ gx_T := gx_mem (i := 1063) (by decide +kernel) (by decide +kernel)
theorem tw_1065 : (Jvm.Cond.laysFinal "TypeLoomModel" "TypeLoomModel" "sLabel" "[S") ∈ gx_T := gx_mem (i := 1065) (by decide +kernel) (by decide +kernel)
theorem tw_1067 : (Jvm.Cond.lays "TypeLoomModel" "TypeLoomModel" "equations" "I") ∈ gx_T := gx_mem (i := 1067) (by decide +kernel) (by decide +kernel)
theorem tw_1069 : (Jvm.Cond.laysFinal "TypeLoomModel" "TypeLoomModel" "left" "[S") ∈ gx_T := gx_mem (i := 1069) (by decide +kernel) (by decide +kernel)
theorem tw_1071 : (Jvm.Cond.laysFinal "TypeLoomModel" "TypeLoomModel" "right" "[S") ∈ gx_T := gx_mem (i := 1071) (by decide +kernel) (by decide +kernel)
theorem tw_1073 : (Jvm.Cond.laysFinal "TypeLoomModel" "TypeLoomModel" "join" "[I") ∈ gx_T := gx_mem (i := 1073) (by decide +kernel) (by decide +kernel)
theorem tw_1075 : (Jvm.Cond.laysFinal "TypeLoomModel" "TypeLoomModel" "oldLevel" "[B") ∈ gx_T := gx_mem (i := 1075) (by decide +kernel) (by decide +kernel)
theorem tw_1077 : (Jvm.Cond.laysFinal "TypeLoomModel" "TypeLoomModel" "oldWish" "[Z") ∈ gx_T := gx_mem (i := 1077) (by decide +kernel) (by decide +kernel)
theorem tw_1079 : (Jvm.Cond.laysFinal "TypeLoomModel" "TypeLoomModel" "oldSets" "[I") ∈ gx_T := gx_mem (i := 1079) (by decide +kernel) (by decide +kernel)
theorem tw_1081 : (Jvm.Cond.laysFinal "TypeLoomModel" "TypeLoomModel" "oldLink" "[I") ∈ gx_T := gx_mem (i := 1081) (by decide +kernel) (by decide +kernel)
theorem tw_1083 : (Jvm.Cond.laysFinal "TypeLoomModel" "TypeLoomModel" "oldRowLevel" "[B") ∈ gx_T := gx_mem (i := 1083) (by decide +kernel) (by decide +kernel)
theorem tw_1085 : (Jvm.Cond.laysFinal "TypeLoomModel" "TypeLoomModel" "oldRowWish" "[Z") ∈ gx_T := gx_mem (i := 1085) (by decide +kernel) (by decide +kernel)
theorem tw_1087 : (Jvm.Cond.laysFinal "TypeLoomModel" "TypeLoomModel" "oldRowMany" "[I") ∈ gx_T := gx_mem (i := 1087) (by decide +kernel) (by decide +kernel)
theorem tw_1089 : (Jvm.Cond.lays "TypeLoomModel" "TypeLoomModel" "bound" "I") ∈ gx_T := gx_mem (i := 1089) (by decide +kernel) (by decide +kernel)
theorem tw_1091 : (Jvm.Cond.laysFinal "TypeLoomModel" "TypeLoomModel" "boundOnes" "[S") ∈ gx_T := gx_mem (i := 1091) (by decide +kernel) (by decide +kernel)
theorem tw_1093 : (Jvm.Cond.lays "TypeLoomModel" "TypeLoomModel" "boundRows" "I") ∈ gx_T := gx_mem (i := 1093) (by decide +kernel) (by decide +kernel)
theorem tw_1095 : (Jvm.Cond.laysFinal "TypeLoomModel" "TypeLoomModel" "boundRow" "[S") ∈ gx_T := gx_mem (i := 1095) (by decide +kernel) (by decide +kernel)
theorem tw_1097 : (Jvm.Cond.lays "TypeLoomModel" "TypeLoomModel" "ones" "I") ∈ gx_T := gx_mem (i := 1097) (by decide +kernel) (by decide +kernel)
theorem tw_1099 : (Jvm.Cond.laysFinal "TypeLoomModel" "TypeLoomModel" "oneLabel" "[I") ∈ gx_T := gx_mem (i := 1099) (by decide +kernel) (by decide +kernel)
theorem tw_1101 : (Jvm.Cond.laysFinal "TypeLoomModel" "TypeLoomModel" "one" "[I") ∈ gx_T := gx_mem (i := 1101) (by decide +kernel) (by decide +kernel)
theorem tw_1103 : (Jvm.Cond.lays "TypeLoomModel" "TypeLoomModel" "twos" "I") ∈ gx_T := gx_mem (i := 1103) (by decide +kernel) (by decide +kernel)
theorem tw_1105 : (Jvm.Cond.laysFinal "TypeLoomModel" "TypeLoomModel" "twoLabel" "[I") ∈ gx_T := gx_mem (i := 1105) (by decide +kernel) (by decide +kernel)
theorem tw_1107 : (Jvm.Cond.laysFinal "TypeLoomModel" "TypeLoomModel" "two" "[I") ∈ gx_T := gx_mem (i := 1107) (by decide +kernel) (by decide +kernel)
theorem tw_1109 : (Jvm.Cond.lays "TypeLoomModel" "TypeLoomModel" "piled" "I") ∈ gx_T := gx_mem (i := 1109) (by decide +kernel) (by decide +kernel)
theorem tw_1111 : (Jvm.Cond.laysFinal "TypeLoomModel" "TypeLoomModel" "pile" "[S") ∈ gx_T := gx_mem (i := 1111) (by decide +kernel) (by decide +kernel)
theorem tw_1113 : (Jvm.Cond.laysFinal "TypeLoomModel" "TypeLoomModel" "mark" "[B") ∈ gx_T := gx_mem (i := 1113) (by decide +kernel) (by decide +kernel)
theorem tw_1115 : (Jvm.Cond.laysFinal "TypeLoomModel" "TypeLoomModel" "number" "[I") ∈ gx_T := gx_mem (i := 1115) (by decide +kernel) (by decide +kernel)
theorem tw_1117 : (Jvm.Cond.lays "TypeLoomModel" "TypeLoomModel" "quantities" "I") ∈ gx_T := gx_mem (i := 1117) (by decide +kernel) (by decide +kernel)
theorem tw_1119 : (Jvm.Cond.lays "TypeLoomModel" "TypeLoomModel" "equalities" "I") ∈ gx_T := gx_mem (i := 1119) (by decide +kernel) (by decide +kernel)
theorem tw_1121 : (Jvm.Cond.lays "TypeLoomModel" "TypeLoomModel" "others" "Z") ∈ gx_T := gx_mem (i := 1121) (by decide +kernel) (by decide +kernel)
theorem tw_1123 : (Jvm.Cond.lays "TypeLoomModel" "TypeLoomModel" "full" "Z") ∈ gx_T := gx_mem (i := 1123) (by decide +kernel) (by decide +kernel)
theorem tw_1125 : (Jvm.Cond.laysFinal "TypeLoomModel" "TypeLoomModel" "sWish" "[Z") ∈ gx_T := gx_mem (i := 1125) (by decide +kernel) (by decide +kernel)
end
section
def tf_0 : u_T := fun k => match k with
  | 0 => ("TypeLoom", "known", "LTypeLoom$Constructors;", true)
  | 1 => ("TypeLoom", "pushed", "LTypeLoom$Pushed;", true)
  | 2 => ("TypeLoom", "web", "LTypeLoom$Web;", true)
  | 3 => ("TypeLoom", "walk", "LTypeLoom$Walk;", true)
  | 4 => ("TypeLoom", "shapes", "LTypeLoom$Shapes;", true)
  | 5 => ("TypeLoom", "unifier", "LTypeLoom$Unifier;", true)
  | 6 => ("TypeLoom", "kept", "LTypeLoom$Schemes;", true)
  | _ => ("TypeLoom", "present", "I", false)
def tt_0 : Nat → FieldType := fun k => match k with
  | 0 => .object "TypeLoom$Constructors"
  | 1 => .object "TypeLoom$Pushed"
  | 2 => .object "TypeLoom$Web"
  | 3 => .object "TypeLoom$Walk"
  | 4 => .object "TypeLoom$Shapes"
  | 5 => .object "TypeLoom$Unifier"
  | 6 => .object "TypeLoom$Schemes"
  | _ => .int
theorem tn_0 : ∀ a, a < 8 → ∀ b, b < 8 → a ≠ b → (tf_0 a).2.1 ≠ (tf_0 b).2.1 := by decide +kernel
theorem tk_0 : ∀ k, k < 8 → parseFieldDescriptor (tf_0 k).2.2.1 = some (tt_0 k) := by decide +kernel
theorem ti_0 : ∀ w ∈ u_ws "TypeLoom" tf_0 8, w ∈ gx_T := by
  intro w hw
  obtain ⟨k, hk, rfl⟩ := List.mem_map.mp hw
  have hk := List.mem_range.mp hk
  match k, hk with
  | 0, _ => exact tw_458
  | 1, _ => exact tw_460
  | 2, _ => exact tw_462
  | 3, _ => exact tw_464
  | 4, _ => exact tw_466
  | 5, _ => exact tw_468
  | 6, _ => exact tw_470
  | 7, _ => exact tw_472
  | k + 8, h => exact absurd h (by omega)
def tf_1 : u_T := fun k => match k with
  | 0 => ("TypeLoom$Constructors", "arities", "LTypeLoom$Ints;", true)
  | 1 => ("TypeLoom$Constructors", "equalities", "LTypeLoom$Ints;", true)
  | _ => ("TypeLoom$Constructors", "size", "I", false)
def tt_1 : Nat → FieldType := fun k => match k with
  | 0 => .object "TypeLoom$Ints"
  | 1 => .object "TypeLoom$Ints"
  | _ => .int
theorem tn_1 : ∀ a, a < 3 → ∀ b, b < 3 → a ≠ b → (tf_1 a).2.1 ≠ (tf_1 b).2.1 := by decide +kernel
theorem tk_1 : ∀ k, k < 3 → parseFieldDescriptor (tf_1 k).2.2.1 = some (tt_1 k) := by decide +kernel
theorem ti_1 : ∀ w ∈ u_ws "TypeLoom$Constructors" tf_1 3, w ∈ gx_T := by
  intro w hw
  obtain ⟨k, hk, rfl⟩ := List.mem_map.mp hw
  have hk := List.mem_range.mp hk
  match k, hk with
  | 0, _ => exact tw_115
  | 1, _ => exact tw_117
  | 2, _ => exact tw_119
  | k + 3, h => exact absurd h (by omega)
def tf_2 : u_T := fun k => match k with
  | 0 => ("TypeLoom$Pushed", "labels", "LTypeLoom$Ints;", true)
  | 1 => ("TypeLoom$Pushed", "nodes", "LTypeLoom$Ints;", true)
  | 2 => ("TypeLoom$Pushed", "size", "I", false)
  | _ => ("TypeLoom$Pushed", "fields", "I", false)
def tt_2 : Nat → FieldType := fun k => match k with
  | 0 => .object "TypeLoom$Ints"
  | 1 => .object "TypeLoom$Ints"
  | 2 => .int
  | _ => .int
theorem tn_2 : ∀ a, a < 4 → ∀ b, b < 4 → a ≠ b → (tf_2 a).2.1 ≠ (tf_2 b).2.1 := by decide +kernel
theorem tk_2 : ∀ k, k < 4 → parseFieldDescriptor (tf_2 k).2.2.1 = some (tt_2 k) := by decide +kernel
theorem ti_2 : ∀ w ∈ u_ws "TypeLoom$Pushed" tf_2 4, w ∈ gx_T := by
  intro w hw
  obtain ⟨k, hk, rfl⟩ := List.mem_map.mp hw
  have hk := List.mem_range.mp hk
  match k, hk with
  | 0, _ => exact tw_138
  | 1, _ => exact tw_140
  | 2, _ => exact tw_142
  | 3, _ => exact tw_144
  | k + 4, h => exact absurd h (by omega)
def tf_3 : u_T := fun k => match k with
  | 0 => ("TypeLoom$Web", "kinds", "LTypeLoom$Ints;", true)
  | 1 => ("TypeLoom$Web", "heads", "LTypeLoom$Ints;", true)
  | 2 => ("TypeLoom$Web", "levels", "LTypeLoom$Ints;", true)
  | 3 => ("TypeLoom$Web", "wishes", "LTypeLoom$Ints;", true)
  | 4 => ("TypeLoom$Web", "firsts", "LTypeLoom$Ints;", true)
  | 5 => ("TypeLoom$Web", "sizes", "LTypeLoom$Ints;", true)
  | 6 => ("TypeLoom$Web", "tails", "LTypeLoom$Ints;", true)
  | 7 => ("TypeLoom$Web", "parents", "LTypeLoom$Ints;", true)
  | 8 => ("TypeLoom$Web", "weights", "LTypeLoom$Ints;", true)
  | 9 => ("TypeLoom$Web", "labels", "LTypeLoom$Ints;", true)
  | 10 => ("TypeLoom$Web", "parts", "LTypeLoom$Ints;", true)
  | 11 => ("TypeLoom$Web", "numbered", "LTypeLoom$Ints;", true)
  | 12 => ("TypeLoom$Web", "nodes", "I", false)
  | 13 => ("TypeLoom$Web", "slots", "I", false)
  | 14 => ("TypeLoom$Web", "types", "I", false)
  | 15 => ("TypeLoom$Web", "partsMade", "I", false)
  | _ => ("TypeLoom$Web", "rows", "I", false)
def tt_3 : Nat → FieldType := fun k => match k with
  | 0 => .object "TypeLoom$Ints"
  | 1 => .object "TypeLoom$Ints"
  | 2 => .object "TypeLoom$Ints"
  | 3 => .object "TypeLoom$Ints"
  | 4 => .object "TypeLoom$Ints"
  | 5 => .object "TypeLoom$Ints"
  | 6 => .object "TypeLoom$Ints"
  | 7 => .object "TypeLoom$Ints"
  | 8 => .object "TypeLoom$Ints"
  | 9 => .object "TypeLoom$Ints"
  | 10 => .object "TypeLoom$Ints"
  | 11 => .object "TypeLoom$Ints"
  | 12 => .int
  | 13 => .int
  | 14 => .int
  | 15 => .int
  | _ => .int
theorem tn_3 : ∀ a, a < 17 → ∀ b, b < 17 → a ≠ b → (tf_3 a).2.1 ≠ (tf_3 b).2.1 := by decide +kernel
theorem tk_3 : ∀ k, k < 17 → parseFieldDescriptor (tf_3 k).2.2.1 = some (tt_3 k) := by decide +kernel
theorem ti_3 : ∀ w ∈ u_ws "TypeLoom$Web" tf_3 17, w ∈ gx_T := by
  intro w hw
  obtain ⟨k, hk, rfl⟩ := List.mem_map.mp hw
  have hk := List.mem_range.mp hk
  match k, hk with
  | 0, _ => exact tw_209
  | 1, _ => exact tw_211
  | 2, _ => exact tw_213
  | 3, _ => exact tw_215
  | 4, _ => exact tw_217
  | 5, _ => exact tw_219
  | 6, _ => exact tw_221
  | 7, _ => exact tw_223
  | 8, _ => exact tw_225
  | 9, _ => exact tw_227
  | 10, _ => exact tw_229
  | 11, _ => exact tw_231
  | 12, _ => exact tw_233
  | 13, _ => exact tw_235
  | 14, _ => exact tw_237
  | 15, _ => exact tw_239
  | 16, _ => exact tw_241
  | k + 17, h => exact absurd h (by omega)
def tf_4 : u_T := fun k => match k with
  | 0 => ("TypeLoom$Walk", "web", "LTypeLoom$Web;", true)
  | 1 => ("TypeLoom$Walk", "known", "LTypeLoom$Constructors;", true)
  | 2 => ("TypeLoom$Walk", "stack", "LTypeLoom$Ints;", true)
  | 3 => ("TypeLoom$Walk", "places", "LTypeLoom$Ints;", true)
  | 4 => ("TypeLoom$Walk", "marks", "LTypeLoom$Ints;", true)
  | 5 => ("TypeLoom$Walk", "order", "LTypeLoom$Ints;", true)
  | 6 => ("TypeLoom$Walk", "size", "I", false)
  | 7 => ("TypeLoom$Walk", "entered", "I", false)
  | _ => ("TypeLoom$Walk", "left", "I", false)
def tt_4 : Nat → FieldType := fun k => match k with
  | 0 => .object "TypeLoom$Web"
  | 1 => .object "TypeLoom$Constructors"
  | 2 => .object "TypeLoom$Ints"
  | 3 => .object "TypeLoom$Ints"
  | 4 => .object "TypeLoom$Ints"
  | 5 => .object "TypeLoom$Ints"
  | 6 => .int
  | 7 => .int
  | _ => .int
theorem tn_4 : ∀ a, a < 9 → ∀ b, b < 9 → a ≠ b → (tf_4 a).2.1 ≠ (tf_4 b).2.1 := by decide +kernel
theorem tk_4 : ∀ k, k < 9 → parseFieldDescriptor (tf_4 k).2.2.1 = some (tt_4 k) := by decide +kernel
theorem ti_4 : ∀ w ∈ u_ws "TypeLoom$Walk" tf_4 9, w ∈ gx_T := by
  intro w hw
  obtain ⟨k, hk, rfl⟩ := List.mem_map.mp hw
  have hk := List.mem_range.mp hk
  match k, hk with
  | 0, _ => exact tw_265
  | 1, _ => exact tw_267
  | 2, _ => exact tw_269
  | 3, _ => exact tw_271
  | 4, _ => exact tw_273
  | 5, _ => exact tw_275
  | 6, _ => exact tw_277
  | 7, _ => exact tw_279
  | 8, _ => exact tw_281
  | k + 9, h => exact absurd h (by omega)
def tf_5 : u_T := fun k => match k with
  | 0 => ("TypeLoom$Shapes", "web", "LTypeLoom$Web;", true)
  | 1 => ("TypeLoom$Shapes", "walk", "LTypeLoom$Walk;", true)
  | 2 => ("TypeLoom$Shapes", "ranks", "LTypeLoom$Ints;", true)
  | 3 => ("TypeLoom$Shapes", "buckets", "LTypeLoom$Ints;", true)
  | 4 => ("TypeLoom$Shapes", "nexts", "LTypeLoom$Ints;", true)
  | 5 => ("TypeLoom$Shapes", "nodes", "LTypeLoom$Ints;", true)
  | _ => ("TypeLoom$Shapes", "size", "I", false)
def tt_5 : Nat → FieldType := fun k => match k with
  | 0 => .object "TypeLoom$Web"
  | 1 => .object "TypeLoom$Walk"
  | 2 => .object "TypeLoom$Ints"
  | 3 => .object "TypeLoom$Ints"
  | 4 => .object "TypeLoom$Ints"
  | 5 => .object "TypeLoom$Ints"
  | _ => .int
theorem tn_5 : ∀ a, a < 7 → ∀ b, b < 7 → a ≠ b → (tf_5 a).2.1 ≠ (tf_5 b).2.1 := by decide +kernel
theorem tk_5 : ∀ k, k < 7 → parseFieldDescriptor (tf_5 k).2.2.1 = some (tt_5 k) := by decide +kernel
theorem ti_5 : ∀ w ∈ u_ws "TypeLoom$Shapes" tf_5 7, w ∈ gx_T := by
  intro w hw
  obtain ⟨k, hk, rfl⟩ := List.mem_map.mp hw
  have hk := List.mem_range.mp hk
  match k, hk with
  | 0, _ => exact tw_303
  | 1, _ => exact tw_305
  | 2, _ => exact tw_307
  | 3, _ => exact tw_309
  | 4, _ => exact tw_311
  | 5, _ => exact tw_313
  | 6, _ => exact tw_315
  | k + 7, h => exact absurd h (by omega)
def tf_6 : u_T := fun k => match k with
  | 0 => ("TypeLoom$Unifier", "web", "LTypeLoom$Web;", true)
  | 1 => ("TypeLoom$Unifier", "walk", "LTypeLoom$Walk;", true)
  | 2 => ("TypeLoom$Unifier", "known", "LTypeLoom$Constructors;", true)
  | 3 => ("TypeLoom$Unifier", "lefts", "LTypeLoom$Ints;", true)
  | 4 => ("TypeLoom$Unifier", "rights", "LTypeLoom$Ints;", true)
  | 5 => ("TypeLoom$Unifier", "places", "LTypeLoom$Ints;", true)
  | 6 => ("TypeLoom$Unifier", "depth", "I", false)
  | 7 => ("TypeLoom$Unifier", "joined", "LTypeLoom$Ints;", true)
  | 8 => ("TypeLoom$Unifier", "joins", "I", false)
  | 9 => ("TypeLoom$Unifier", "boundRows", "LTypeLoom$Ints;", true)
  | 10 => ("TypeLoom$Unifier", "bounds", "I", false)
  | 11 => ("TypeLoom$Unifier", "changed", "LTypeLoom$Ints;", true)
  | 12 => ("TypeLoom$Unifier", "oldLevels", "LTypeLoom$Ints;", true)
  | 13 => ("TypeLoom$Unifier", "oldWishes", "LTypeLoom$Ints;", true)
  | 14 => ("TypeLoom$Unifier", "oldHeads", "LTypeLoom$Ints;", true)
  | 15 => ("TypeLoom$Unifier", "changes", "I", false)
  | 16 => ("TypeLoom$Unifier", "changeMarks", "LTypeLoom$Ints;", true)
  | _ => ("TypeLoom$Unifier", "turn", "I", false)
def tt_6 : Nat → FieldType := fun k => match k with
  | 0 => .object "TypeLoom$Web"
  | 1 => .object "TypeLoom$Walk"
  | 2 => .object "TypeLoom$Constructors"
  | 3 => .object "TypeLoom$Ints"
  | 4 => .object "TypeLoom$Ints"
  | 5 => .object "TypeLoom$Ints"
  | 6 => .int
  | 7 => .object "TypeLoom$Ints"
  | 8 => .int
  | 9 => .object "TypeLoom$Ints"
  | 10 => .int
  | 11 => .object "TypeLoom$Ints"
  | 12 => .object "TypeLoom$Ints"
  | 13 => .object "TypeLoom$Ints"
  | 14 => .object "TypeLoom$Ints"
  | 15 => .int
  | 16 => .object "TypeLoom$Ints"
  | _ => .int
theorem tn_6 : ∀ a, a < 18 → ∀ b, b < 18 → a ≠ b → (tf_6 a).2.1 ≠ (tf_6 b).2.1 := by decide +kernel
theorem tk_6 : ∀ k, k < 18 → parseFieldDescriptor (tf_6 k).2.2.1 = some (tt_6 k) := by decide +kernel
theorem ti_6 : ∀ w ∈ u_ws "TypeLoom$Unifier" tf_6 18, w ∈ gx_T := by
  intro w hw
  obtain ⟨k, hk, rfl⟩ := List.mem_map.mp hw
  have hk := List.mem_range.mp hk
  match k, hk with
  | 0, _ => exact tw_344
  | 1, _ => exact tw_346
  | 2, _ => exact tw_348
  | 3, _ => exact tw_350
  | 4, _ => exact tw_352
  | 5, _ => exact tw_354
  | 6, _ => exact tw_356
  | 7, _ => exact tw_358
  | 8, _ => exact tw_360
  | 9, _ => exact tw_362
  | 10, _ => exact tw_364
  | 11, _ => exact tw_366
  | 12, _ => exact tw_368
  | 13, _ => exact tw_370
  | 14, _ => exact tw_372
  | 15, _ => exact tw_374
  | 16, _ => exact tw_376
  | 17, _ => exact tw_378
  | k + 18, h => exact absurd h (by omega)
def tf_7 : u_T := fun k => match k with
  | 0 => ("TypeLoom$Schemes", "web", "LTypeLoom$Web;", true)
  | 1 => ("TypeLoom$Schemes", "shapes", "LTypeLoom$Shapes;", true)
  | 2 => ("TypeLoom$Schemes", "kinds", "LTypeLoom$Ints;", true)
  | 3 => ("TypeLoom$Schemes", "heads", "LTypeLoom$Ints;", true)
  | 4 => ("TypeLoom$Schemes", "tails", "LTypeLoom$Ints;", true)
  | 5 => ("TypeLoom$Schemes", "firsts", "LTypeLoom$Ints;", true)
  | 6 => ("TypeLoom$Schemes", "labels", "LTypeLoom$Ints;", true)
  | 7 => ("TypeLoom$Schemes", "ranks", "LTypeLoom$Ints;", true)
  | 8 => ("TypeLoom$Schemes", "starts", "LTypeLoom$Ints;", true)
  | 9 => ("TypeLoom$Schemes", "told", "LTypeLoom$Ints;", true)
  | 10 => ("TypeLoom$Schemes", "quantifieds", "LTypeLoom$Ints;", true)
  | 11 => ("TypeLoom$Schemes", "wishers", "LTypeLoom$Ints;", true)
  | 12 => ("TypeLoom$Schemes", "keeps", "LTypeLoom$Ints;", true)
  | 13 => ("TypeLoom$Schemes", "openRecords", "LTypeLoom$Ints;", true)
  | 14 => ("TypeLoom$Schemes", "made", "LTypeLoom$Ints;", true)
  | 15 => ("TypeLoom$Schemes", "size", "I", false)
  | 16 => ("TypeLoom$Schemes", "types", "I", false)
  | _ => ("TypeLoom$Schemes", "parts", "I", false)
def tt_7 : Nat → FieldType := fun k => match k with
  | 0 => .object "TypeLoom$Web"
  | 1 => .object "TypeLoom$Shapes"
  | 2 => .object "TypeLoom$Ints"
  | 3 => .object "TypeLoom$Ints"
  | 4 => .object "TypeLoom$Ints"
  | 5 => .object "TypeLoom$Ints"
  | 6 => .object "TypeLoom$Ints"
  | 7 => .object "TypeLoom$Ints"
  | 8 => .object "TypeLoom$Ints"
  | 9 => .object "TypeLoom$Ints"
  | 10 => .object "TypeLoom$Ints"
  | 11 => .object "TypeLoom$Ints"
  | 12 => .object "TypeLoom$Ints"
  | 13 => .object "TypeLoom$Ints"
  | 14 => .object "TypeLoom$Ints"
  | 15 => .int
  | 16 => .int
  | _ => .int
theorem tn_7 : ∀ a, a < 18 → ∀ b, b < 18 → a ≠ b → (tf_7 a).2.1 ≠ (tf_7 b).2.1 := by decide +kernel
theorem tk_7 : ∀ k, k < 18 → parseFieldDescriptor (tf_7 k).2.2.1 = some (tt_7 k) := by decide +kernel
theorem ti_7 : ∀ w ∈ u_ws "TypeLoom$Schemes" tf_7 18, w ∈ gx_T := by
  intro w hw
  obtain ⟨k, hk, rfl⟩ := List.mem_map.mp hw
  have hk := List.mem_range.mp hk
  match k, hk with
  | 0, _ => exact tw_413
  | 1, _ => exact tw_415
  | 2, _ => exact tw_417
  | 3, _ => exact tw_419
  | 4, _ => exact tw_421
  | 5, _ => exact tw_423
  | 6, _ => exact tw_425
  | 7, _ => exact tw_427
  | 8, _ => exact tw_429
  | 9, _ => exact tw_431
  | 10, _ => exact tw_433
  | 11, _ => exact tw_435
  | 12, _ => exact tw_437
  | 13, _ => exact tw_439
  | 14, _ => exact tw_441
  | 15, _ => exact tw_443
  | 16, _ => exact tw_445
  | 17, _ => exact tw_447
  | k + 18, h => exact absurd h (by omega)
def tf_8 : u_T := fun k => match k with
  | 0 => ("TypeLoom$Ints", "limit", "I", true)
  | _ => ("TypeLoom$Ints", "cells", "[I", false)
def tt_8 : Nat → FieldType := fun k => match k with
  | 0 => .int
  | _ => .array .int
theorem tn_8 : ∀ a, a < 2 → ∀ b, b < 2 → a ≠ b → (tf_8 a).2.1 ≠ (tf_8 b).2.1 := by decide +kernel
theorem tk_8 : ∀ k, k < 2 → parseFieldDescriptor (tf_8 k).2.2.1 = some (tt_8 k) := by decide +kernel
theorem ti_8 : ∀ w ∈ u_ws "TypeLoom$Ints" tf_8 2, w ∈ gx_T := by
  intro w hw
  obtain ⟨k, hk, rfl⟩ := List.mem_map.mp hw
  have hk := List.mem_range.mp hk
  match k, hk with
  | 0, _ => exact tw_105
  | 1, _ => exact tw_107
  | k + 2, h => exact absurd h (by omega)
def tf_9 : u_T := fun k => match k with
  | 0 => ("TypeLoomModel", "constructors", "I", false)
  | 1 => ("TypeLoomModel", "arity", "[B", true)
  | 2 => ("TypeLoomModel", "equality", "[B", true)
  | 3 => ("TypeLoomModel", "types", "I", false)
  | 4 => ("TypeLoomModel", "kind", "[B", true)
  | 5 => ("TypeLoomModel", "con", "[I", true)
  | 6 => ("TypeLoomModel", "first", "[I", true)
  | 7 => ("TypeLoomModel", "many", "[S", true)
  | 8 => ("TypeLoomModel", "rowOf", "[I", true)
  | 9 => ("TypeLoomModel", "level", "[B", true)
  | 10 => ("TypeLoomModel", "wish", "[Z", true)
  | 11 => ("TypeLoomModel", "sets", "[I", true)
  | 12 => ("TypeLoomModel", "link", "[I", true)
  | 13 => ("TypeLoomModel", "parts", "I", false)
  | 14 => ("TypeLoomModel", "part", "[S", true)
  | 15 => ("TypeLoomModel", "labels", "[S", true)
  | 16 => ("TypeLoomModel", "rows", "I", false)
  | 17 => ("TypeLoomModel", "allRows", "I", false)
  | 18 => ("TypeLoomModel", "rowLevel", "[B", true)
  | 19 => ("TypeLoomModel", "rowWish", "[Z", true)
  | 20 => ("TypeLoomModel", "rowFirst", "[I", true)
  | 21 => ("TypeLoomModel", "rowMany", "[I", true)
  | 22 => ("TypeLoomModel", "rowNext", "[I", true)
  | 23 => ("TypeLoomModel", "rowParts", "I", false)
  | 24 => ("TypeLoomModel", "rowPart", "[S", true)
  | 25 => ("TypeLoomModel", "rowLabel", "[S", true)
  | 26 => ("TypeLoomModel", "pushed", "I", false)
  | 27 => ("TypeLoomModel", "pushedLabel", "[I", true)
  | 28 => ("TypeLoomModel", "pushedType", "[I", true)
  | 29 => ("TypeLoomModel", "present", "I", false)
  | 30 => ("TypeLoomModel", "schemes", "I", false)
  | 31 => ("TypeLoomModel", "schemeFirst", "[I", true)
  | 32 => ("TypeLoomModel", "schemeMany", "[I", true)
  | 33 => ("TypeLoomModel", "schemeEqual", "[I", true)
  | 34 => ("TypeLoomModel", "schemeClosed", "[Z", true)
  | 35 => ("TypeLoomModel", "schemeTypes", "I", false)
  | 36 => ("TypeLoomModel", "sKind", "[B", true)
  | 37 => ("TypeLoomModel", "sWhat", "[I", true)
  | 38 => ("TypeLoomModel", "sFirst", "[I", true)
  | 39 => ("TypeLoomModel", "sRow", "[I", true)
  | 40 => ("TypeLoomModel", "schemeParts", "I", false)
  | 41 => ("TypeLoomModel", "sPart", "[S", true)
  | 42 => ("TypeLoomModel", "sLabel", "[S", true)
  | 43 => ("TypeLoomModel", "equations", "I", false)
  | 44 => ("TypeLoomModel", "left", "[S", true)
  | 45 => ("TypeLoomModel", "right", "[S", true)
  | 46 => ("TypeLoomModel", "join", "[I", true)
  | 47 => ("TypeLoomModel", "oldLevel", "[B", true)
  | 48 => ("TypeLoomModel", "oldWish", "[Z", true)
  | 49 => ("TypeLoomModel", "oldSets", "[I", true)
  | 50 => ("TypeLoomModel", "oldLink", "[I", true)
  | 51 => ("TypeLoomModel", "oldRowLevel", "[B", true)
  | 52 => ("TypeLoomModel", "oldRowWish", "[Z", true)
  | 53 => ("TypeLoomModel", "oldRowMany", "[I", true)
  | 54 => ("TypeLoomModel", "bound", "I", false)
  | 55 => ("TypeLoomModel", "boundOnes", "[S", true)
  | 56 => ("TypeLoomModel", "boundRows", "I", false)
  | 57 => ("TypeLoomModel", "boundRow", "[S", true)
  | 58 => ("TypeLoomModel", "ones", "I", false)
  | 59 => ("TypeLoomModel", "oneLabel", "[I", true)
  | 60 => ("TypeLoomModel", "one", "[I", true)
  | 61 => ("TypeLoomModel", "twos", "I", false)
  | 62 => ("TypeLoomModel", "twoLabel", "[I", true)
  | 63 => ("TypeLoomModel", "two", "[I", true)
  | 64 => ("TypeLoomModel", "piled", "I", false)
  | 65 => ("TypeLoomModel", "pile", "[S", true)
  | 66 => ("TypeLoomModel", "mark", "[B", true)
  | 67 => ("TypeLoomModel", "number", "[I", true)
  | 68 => ("TypeLoomModel", "quantities", "I", false)
  | 69 => ("TypeLoomModel", "equalities", "I", false)
  | 70 => ("TypeLoomModel", "others", "Z", false)
  | 71 => ("TypeLoomModel", "full", "Z", false)
  | _ => ("TypeLoomModel", "sWish", "[Z", true)
def tt_9 : Nat → FieldType := fun k => match k with
  | 0 => .int
  | 1 => .array .byte
  | 2 => .array .byte
  | 3 => .int
  | 4 => .array .byte
  | 5 => .array .int
  | 6 => .array .int
  | 7 => .array .short
  | 8 => .array .int
  | 9 => .array .byte
  | 10 => .array .boolean
  | 11 => .array .int
  | 12 => .array .int
  | 13 => .int
  | 14 => .array .short
  | 15 => .array .short
  | 16 => .int
  | 17 => .int
  | 18 => .array .byte
  | 19 => .array .boolean
  | 20 => .array .int
  | 21 => .array .int
  | 22 => .array .int
  | 23 => .int
  | 24 => .array .short
  | 25 => .array .short
  | 26 => .int
  | 27 => .array .int
  | 28 => .array .int
  | 29 => .int
  | 30 => .int
  | 31 => .array .int
  | 32 => .array .int
  | 33 => .array .int
  | 34 => .array .boolean
  | 35 => .int
  | 36 => .array .byte
  | 37 => .array .int
  | 38 => .array .int
  | 39 => .array .int
  | 40 => .int
  | 41 => .array .short
  | 42 => .array .short
  | 43 => .int
  | 44 => .array .short
  | 45 => .array .short
  | 46 => .array .int
  | 47 => .array .byte
  | 48 => .array .boolean
  | 49 => .array .int
  | 50 => .array .int
  | 51 => .array .byte
  | 52 => .array .boolean
  | 53 => .array .int
  | 54 => .int
  | 55 => .array .short
  | 56 => .int
  | 57 => .array .short
  | 58 => .int
  | 59 => .array .int
  | 60 => .array .int
  | 61 => .int
  | 62 => .array .int
  | 63 => .array .int
  | 64 => .int
  | 65 => .array .short
  | 66 => .array .byte
  | 67 => .array .int
  | 68 => .int
  | 69 => .int
  | 70 => .boolean
  | 71 => .boolean
  | _ => .array .boolean
theorem tn_9 : ∀ a, a < 73 → ∀ b, b < 73 → a ≠ b → (tf_9 a).2.1 ≠ (tf_9 b).2.1 := by decide +kernel
theorem tk_9 : ∀ k, k < 73 → parseFieldDescriptor (tf_9 k).2.2.1 = some (tt_9 k) := by decide +kernel
theorem ti_9 : ∀ w ∈ u_ws "TypeLoomModel" tf_9 73, w ∈ gx_T := by
  intro w hw
  obtain ⟨k, hk, rfl⟩ := List.mem_map.mp hw
  have hk := List.mem_range.mp hk
  match k, hk with
  | 0, _ => exact tw_981
  | 1, _ => exact tw_983
  | 2, _ => exact tw_985
  | 3, _ => exact tw_987
  | 4, _ => exact tw_989
  | 5, _ => exact tw_991
  | 6, _ => exact tw_993
  | 7, _ => exact tw_995
  | 8, _ => exact tw_997
  | 9, _ => exact tw_999
  | 10, _ => exact tw_1001
  | 11, _ => exact tw_1003
  | 12, _ => exact tw_1005
  | 13, _ => exact tw_1007
  | 14, _ => exact tw_1009
  | 15, _ => exact tw_1011
  | 16, _ => exact tw_1013
  | 17, _ => exact tw_1015
  | 18, _ => exact tw_1017
  | 19, _ => exact tw_1019
  | 20, _ => exact tw_1021
  | 21, _ => exact tw_1023
  | 22, _ => exact tw_1025
  | 23, _ => exact tw_1027
  | 24, _ => exact tw_1029
  | 25, _ => exact tw_1031
  | 26, _ => exact tw_1033
  | 27, _ => exact tw_1035
  | 28, _ => exact tw_1037
  | 29, _ => exact tw_1039
  | 30, _ => exact tw_1041
  | 31, _ => exact tw_1043
  | 32, _ => exact tw_1045
  | 33, _ => exact tw_1047
  | 34, _ => exact tw_1049
  | 35, _ => exact tw_1051
  | 36, _ => exact tw_1053
  | 37, _ => exact tw_1055
  | 38, _ => exact tw_1057
  | 39, _ => exact tw_1059
  | 40, _ => exact tw_1061
  | 41, _ => exact tw_1063
  | 42, _ => exact tw_1065
  | 43, _ => exact tw_1067
  | 44, _ => exact tw_1069
  | 45, _ => exact tw_1071
  | 46, _ => exact tw_1073
  | 47, _ => exact tw_1075
  | 48, _ => exact tw_1077
  | 49, _ => exact tw_1079
  | 50, _ => exact tw_1081
  | 51, _ => exact tw_1083
  | 52, _ => exact tw_1085
  | 53, _ => exact tw_1087
  | 54, _ => exact tw_1089
  | 55, _ => exact tw_1091
  | 56, _ => exact tw_1093
  | 57, _ => exact tw_1095
  | 58, _ => exact tw_1097
  | 59, _ => exact tw_1099
  | 60, _ => exact tw_1101
  | 61, _ => exact tw_1103
  | 62, _ => exact tw_1105
  | 63, _ => exact tw_1107
  | 64, _ => exact tw_1109
  | 65, _ => exact tw_1111
  | 66, _ => exact tw_1113
  | 67, _ => exact tw_1115
  | 68, _ => exact tw_1117
  | 69, _ => exact tw_1119
  | 70, _ => exact tw_1121
  | 71, _ => exact tw_1123
  | 72, _ => exact tw_1125
  | k + 73, h => exact absurd h (by omega)
abbrev tq_cl : List vw_C := [("TypeLoom", tf_0, 8), ("TypeLoom$Constructors", tf_1, 3), ("TypeLoom$Pushed", tf_2, 4), ("TypeLoom$Web", tf_3, 17), ("TypeLoom$Walk", tf_4, 9), ("TypeLoom$Shapes", tf_5, 7), ("TypeLoom$Unifier", tf_6, 18), ("TypeLoom$Schemes", tf_7, 18), ("TypeLoom$Ints", tf_8, 2), ("TypeLoomModel", tf_9, 73)]
end
section
/-! TypeLoom's objects: 0 TypeLoom, 1 Constructors, 2 Pushed, 3 Web, 4 Walk, 5 Shapes, 6 Unifier, 7 Schemes, 8 + j the Ints number j; the arrays 55 + j; as long as no Ints has grown -/
def tc_lims : List Int32 := [2048, 2048, 128, 128, 25600, 25600, 25600, 25600, 25600, 25600, 25600, 25600, 25600, 131072, 131072, 24576, 25600, 25600, 25600, 25600, 25600, 65536, 25600, 25600, 25600, 25600, 25600, 25600, 1024, 25600, 25600, 25600, 25600, 25600, 16384, 16384, 16384, 16385, 32768, 32768, 2049, 2048, 2048, 2048, 2048, 2048, 16384]
def tc_lim (j : Nat) : Int32 := tc_lims.getD j 0
def tc_O (ob : Nat → Nat) (σ : gx_S) (k : Nat) : Nat × List Value :=
  if k = 0 then (0, [.ref (ob 1), .ref (ob 2), .ref (ob 3), .ref (ob 4), .ref (ob 5), .ref (ob 6), .ref (ob 7), .int (σ.1 20)])
  else if k = 1 then (1, [.ref (ob 8), .ref (ob 9), .int (σ.1 0)])
  else if k = 2 then (2, [.ref (ob 10), .ref (ob 11), .int (σ.1 1), .int (σ.1 2)])
  else if k = 3 then (3, [.ref (ob 12), .ref (ob 13), .ref (ob 14), .ref (ob 15), .ref (ob 16), .ref (ob 17), .ref (ob 18), .ref (ob 19), .ref (ob 20), .ref (ob 21), .ref (ob 22), .ref (ob 23), .int (σ.1 3), .int (σ.1 4), .int (σ.1 5), .int (σ.1 6), .int (σ.1 7)])
  else if k = 4 then (4, [.ref (ob 3), .ref (ob 1), .ref (ob 24), .ref (ob 25), .ref (ob 26), .ref (ob 27), .int (σ.1 8), .int (σ.1 9), .int (σ.1 10)])
  else if k = 5 then (5, [.ref (ob 3), .ref (ob 4), .ref (ob 28), .ref (ob 29), .ref (ob 30), .ref (ob 31), .int (σ.1 11)])
  else if k = 6 then (6, [.ref (ob 3), .ref (ob 4), .ref (ob 1), .ref (ob 32), .ref (ob 33), .ref (ob 34), .int (σ.1 12), .ref (ob 35), .int (σ.1 13), .ref (ob 36), .int (σ.1 14), .ref (ob 37), .ref (ob 38), .ref (ob 39), .ref (ob 40), .int (σ.1 15), .ref (ob 41), .int (σ.1 16)])
  else if k = 7 then (7, [.ref (ob 3), .ref (ob 5), .ref (ob 42), .ref (ob 43), .ref (ob 44), .ref (ob 45), .ref (ob 46), .ref (ob 47), .ref (ob 48), .ref (ob 49), .ref (ob 50), .ref (ob 51), .ref (ob 52), .ref (ob 53), .ref (ob 54), .int (σ.1 17), .int (σ.1 18), .int (σ.1 19)])
  else (8, [.int (tc_lim (k - 8)), .ref (ob (47 + k))])
def tc_u (ob : Nat → Nat) (cA : ClassId) : gf_U := ((55, 47), tc_O ob, (fun _ => 0), (fun _ => cA), (fun _ => 32))
def tc_V (D : va_G) (ob : Nat → Nat) (cA : ClassId) : gx_V := gf_V D tq_cl [(cA, .int)] (tc_u ob cA) ob
section TC
variable {D : va_G} {ob : Nat → Nat} {cA : ClassId} {X : gx_X} {cc : ByteArray} {own : String} {nL fr lo : Nat} {rt : Option FieldType} {res : gx_R} {σ : gx_S} {pc : Nat} {lv : List (Nat × Value)} {st : List Value}
theorem tg_0 (hX : gx_K (tc_V D ob cA) X cc own nL fr lo rt) {idx : Nat} {v : Value} (f n : Nat) (hf : f < 8) (hlink : Cond.fieldLink own idx (tf_0 f).1 (tf_0 f).2.1 (tf_0 f).2.2.1 ∈ gx_T) (hv : (tc_O ob σ 0).2[f]? = some v) (hd : decode cc pc = .ok (.getfield idx, 3)) (hn : pc + 3 = n) (kk : gx_G (tc_V D ob cA) X res σ n lv (v :: st)) : gx_G (tc_V D ob cA) X res σ pc lv (.ref (ob 0) :: st) := gf_get (u := tc_u ob cA) hX 0 f n (show 0 < 55 by decide) rfl ti_0 hf hlink rfl hv hd hn kk
theorem tg_1 (hX : gx_K (tc_V D ob cA) X cc own nL fr lo rt) {idx : Nat} {v : Value} (f n : Nat) (hf : f < 3) (hlink : Cond.fieldLink own idx (tf_1 f).1 (tf_1 f).2.1 (tf_1 f).2.2.1 ∈ gx_T) (hv : (tc_O ob σ 1).2[f]? = some v) (hd : decode cc pc = .ok (.getfield idx, 3)) (hn : pc + 3 = n) (kk : gx_G (tc_V D ob cA) X res σ n lv (v :: st)) : gx_G (tc_V D ob cA) X res σ pc lv (.ref (ob 1) :: st) := gf_get (u := tc_u ob cA) hX 1 f n (show 1 < 55 by decide) rfl ti_1 hf hlink rfl hv hd hn kk
theorem tg_2 (hX : gx_K (tc_V D ob cA) X cc own nL fr lo rt) {idx : Nat} {v : Value} (f n : Nat) (hf : f < 4) (hlink : Cond.fieldLink own idx (tf_2 f).1 (tf_2 f).2.1 (tf_2 f).2.2.1 ∈ gx_T) (hv : (tc_O ob σ 2).2[f]? = some v) (hd : decode cc pc = .ok (.getfield idx, 3)) (hn : pc + 3 = n) (kk : gx_G (tc_V D ob cA) X res σ n lv (v :: st)) : gx_G (tc_V D ob cA) X res σ pc lv (.ref (ob 2) :: st) := gf_get (u := tc_u ob cA) hX 2 f n (show 2 < 55 by decide) rfl ti_2 hf hlink rfl hv hd hn kk
theorem tg_3 (hX : gx_K (tc_V D ob cA) X cc own nL fr lo rt) {idx : Nat} {v : Value} (f n : Nat) (hf : f < 17) (hlink : Cond.fieldLink own idx (tf_3 f).1 (tf_3 f).2.1 (tf_3 f).2.2.1 ∈ gx_T) (hv : (tc_O ob σ 3).2[f]? = some v) (hd : decode cc pc = .ok (.getfield idx, 3)) (hn : pc + 3 = n) (kk : gx_G (tc_V D ob cA) X res σ n lv (v :: st)) : gx_G (tc_V D ob cA) X res σ pc lv (.ref (ob 3) :: st) := gf_get (u := tc_u ob cA) hX 3 f n (show 3 < 55 by decide) rfl ti_3 hf hlink rfl hv hd hn kk
theorem tg_4 (hX : gx_K (tc_V D ob cA) X cc own nL fr lo rt) {idx : Nat} {v : Value} (f n : Nat) (hf : f < 9) (hlink : Cond.fieldLink own idx (tf_4 f).1 (tf_4 f).2.1 (tf_4 f).2.2.1 ∈ gx_T) (hv : (tc_O ob σ 4).2[f]? = some v) (hd : decode cc pc = .ok (.getfield idx, 3)) (hn : pc + 3 = n) (kk : gx_G (tc_V D ob cA) X res σ n lv (v :: st)) : gx_G (tc_V D ob cA) X res σ pc lv (.ref (ob 4) :: st) := gf_get (u := tc_u ob cA) hX 4 f n (show 4 < 55 by decide) rfl ti_4 hf hlink rfl hv hd hn kk
theorem tg_5 (hX : gx_K (tc_V D ob cA) X cc own nL fr lo rt) {idx : Nat} {v : Value} (f n : Nat) (hf : f < 7) (hlink : Cond.fieldLink own idx (tf_5 f).1 (tf_5 f).2.1 (tf_5 f).2.2.1 ∈ gx_T) (hv : (tc_O ob σ 5).2[f]? = some v) (hd : decode cc pc = .ok (.getfield idx, 3)) (hn : pc + 3 = n) (kk : gx_G (tc_V D ob cA) X res σ n lv (v :: st)) : gx_G (tc_V D ob cA) X res σ pc lv (.ref (ob 5) :: st) := gf_get (u := tc_u ob cA) hX 5 f n (show 5 < 55 by decide) rfl ti_5 hf hlink rfl hv hd hn kk
theorem tg_6 (hX : gx_K (tc_V D ob cA) X cc own nL fr lo rt) {idx : Nat} {v : Value} (f n : Nat) (hf : f < 18) (hlink : Cond.fieldLink own idx (tf_6 f).1 (tf_6 f).2.1 (tf_6 f).2.2.1 ∈ gx_T) (hv : (tc_O ob σ 6).2[f]? = some v) (hd : decode cc pc = .ok (.getfield idx, 3)) (hn : pc + 3 = n) (kk : gx_G (tc_V D ob cA) X res σ n lv (v :: st)) : gx_G (tc_V D ob cA) X res σ pc lv (.ref (ob 6) :: st) := gf_get (u := tc_u ob cA) hX 6 f n (show 6 < 55 by decide) rfl ti_6 hf hlink rfl hv hd hn kk
theorem tg_7 (hX : gx_K (tc_V D ob cA) X cc own nL fr lo rt) {idx : Nat} {v : Value} (f n : Nat) (hf : f < 18) (hlink : Cond.fieldLink own idx (tf_7 f).1 (tf_7 f).2.1 (tf_7 f).2.2.1 ∈ gx_T) (hv : (tc_O ob σ 7).2[f]? = some v) (hd : decode cc pc = .ok (.getfield idx, 3)) (hn : pc + 3 = n) (kk : gx_G (tc_V D ob cA) X res σ n lv (v :: st)) : gx_G (tc_V D ob cA) X res σ pc lv (.ref (ob 7) :: st) := gf_get (u := tc_u ob cA) hX 7 f n (show 7 < 55 by decide) rfl ti_7 hf hlink rfl hv hd hn kk
theorem tpn_0 (ob : Nat → Nat) (σ : gx_S) (x : Int32) : ∀ q, q < 55 → q ≠ 1 → tc_O ob (gx_si σ 0 x) q = tc_O ob σ q := by
  intro q _ hq
  by_cases h0 : q = 0
  · subst h0; rfl
  by_cases h1 : q = 1
  · exact absurd h1 hq
  by_cases h2 : q = 2
  · subst h2; rfl
  by_cases h3 : q = 3
  · subst h3; rfl
  by_cases h4 : q = 4
  · subst h4; rfl
  by_cases h5 : q = 5
  · subst h5; rfl
  by_cases h6 : q = 6
  · subst h6; rfl
  by_cases h7 : q = 7
  · subst h7; rfl
  unfold tc_O
  rw [if_neg h0, if_neg h1, if_neg h2, if_neg h3, if_neg h4, if_neg h5, if_neg h6, if_neg h7, if_neg h0, if_neg h1, if_neg h2, if_neg h3, if_neg h4, if_neg h5, if_neg h6, if_neg h7]
theorem tp_0 (hX : gx_K (tc_V D ob cA) X cc own nL fr lo rt) {idx : Nat} {x : Int32} {kf : gx_S → gx_R} (n : Nat) (hlink : Cond.fieldLink own idx "TypeLoom$Constructors" "size" "I" ∈ gx_T) (hd : decode cc pc = .ok (.putfield idx, 3)) (hn : pc + 3 = n) (kk : ∀ σ', gx_G (tc_V D ob cA) X (kf σ') σ' n lv st) : gx_G (tc_V D ob cA) X (gx_sb (gx_si σ 0 x) kf) σ pc lv (.int x :: .ref (ob 1) :: st) := gf_put (u := tc_u ob cA) hX 1 2 0 n (show 1 < 55 by decide) rfl ti_1 tt_1 tk_1 tn_1 (by decide) hlink rfl rfl rfl (Nat.le_of_ble_eq_true rfl) rfl (tpn_0 ob σ x) hd hn kk
theorem tpn_1 (ob : Nat → Nat) (σ : gx_S) (x : Int32) : ∀ q, q < 55 → q ≠ 2 → tc_O ob (gx_si σ 1 x) q = tc_O ob σ q := by
  intro q _ hq
  by_cases h0 : q = 0
  · subst h0; rfl
  by_cases h1 : q = 1
  · subst h1; rfl
  by_cases h2 : q = 2
  · exact absurd h2 hq
  by_cases h3 : q = 3
  · subst h3; rfl
  by_cases h4 : q = 4
  · subst h4; rfl
  by_cases h5 : q = 5
  · subst h5; rfl
  by_cases h6 : q = 6
  · subst h6; rfl
  by_cases h7 : q = 7
  · subst h7; rfl
  unfold tc_O
  rw [if_neg h0, if_neg h1, if_neg h2, if_neg h3, if_neg h4, if_neg h5, if_neg h6, if_neg h7, if_neg h0, if_neg h1, if_neg h2, if_neg h3, if_neg h4, if_neg h5, if_neg h6, if_neg h7]
theorem tp_1 (hX : gx_K (tc_V D ob cA) X cc own nL fr lo rt) {idx : Nat} {x : Int32} {kf : gx_S → gx_R} (n : Nat) (hlink : Cond.fieldLink own idx "TypeLoom$Pushed" "size" "I" ∈ gx_T) (hd : decode cc pc = .ok (.putfield idx, 3)) (hn : pc + 3 = n) (kk : ∀ σ', gx_G (tc_V D ob cA) X (kf σ') σ' n lv st) : gx_G (tc_V D ob cA) X (gx_sb (gx_si σ 1 x) kf) σ pc lv (.int x :: .ref (ob 2) :: st) := gf_put (u := tc_u ob cA) hX 2 2 1 n (show 2 < 55 by decide) rfl ti_2 tt_2 tk_2 tn_2 (by decide) hlink rfl rfl rfl (Nat.le_of_ble_eq_true rfl) rfl (tpn_1 ob σ x) hd hn kk
theorem tpn_2 (ob : Nat → Nat) (σ : gx_S) (x : Int32) : ∀ q, q < 55 → q ≠ 2 → tc_O ob (gx_si σ 2 x) q = tc_O ob σ q := by
  intro q _ hq
  by_cases h0 : q = 0
  · subst h0; rfl
  by_cases h1 : q = 1
  · subst h1; rfl
  by_cases h2 : q = 2
  · exact absurd h2 hq
  by_cases h3 : q = 3
  · subst h3; rfl
  by_cases h4 : q = 4
  · subst h4; rfl
  by_cases h5 : q = 5
  · subst h5; rfl
  by_cases h6 : q = 6
  · subst h6; rfl
  by_cases h7 : q = 7
  · subst h7; rfl
  unfold tc_O
  rw [if_neg h0, if_neg h1, if_neg h2, if_neg h3, if_neg h4, if_neg h5, if_neg h6, if_neg h7, if_neg h0, if_neg h1, if_neg h2, if_neg h3, if_neg h4, if_neg h5, if_neg h6, if_neg h7]
theorem tp_2 (hX : gx_K (tc_V D ob cA) X cc own nL fr lo rt) {idx : Nat} {x : Int32} {kf : gx_S → gx_R} (n : Nat) (hlink : Cond.fieldLink own idx "TypeLoom$Pushed" "fields" "I" ∈ gx_T) (hd : decode cc pc = .ok (.putfield idx, 3)) (hn : pc + 3 = n) (kk : ∀ σ', gx_G (tc_V D ob cA) X (kf σ') σ' n lv st) : gx_G (tc_V D ob cA) X (gx_sb (gx_si σ 2 x) kf) σ pc lv (.int x :: .ref (ob 2) :: st) := gf_put (u := tc_u ob cA) hX 2 3 2 n (show 2 < 55 by decide) rfl ti_2 tt_2 tk_2 tn_2 (by decide) hlink rfl rfl rfl (Nat.le_of_ble_eq_true rfl) rfl (tpn_2 ob σ x) hd hn kk
theorem tpn_3 (ob : Nat → Nat) (σ : gx_S) (x : Int32) : ∀ q, q < 55 → q ≠ 3 → tc_O ob (gx_si σ 3 x) q = tc_O ob σ q := by
  intro q _ hq
  by_cases h0 : q = 0
  · subst h0; rfl
  by_cases h1 : q = 1
  · subst h1; rfl
  by_cases h2 : q = 2
  · subst h2; rfl
  by_cases h3 : q = 3
  · exact absurd h3 hq
  by_cases h4 : q = 4
  · subst h4; rfl
  by_cases h5 : q = 5
  · subst h5; rfl
  by_cases h6 : q = 6
  · subst h6; rfl
  by_cases h7 : q = 7
  · subst h7; rfl
  unfold tc_O
  rw [if_neg h0, if_neg h1, if_neg h2, if_neg h3, if_neg h4, if_neg h5, if_neg h6, if_neg h7, if_neg h0, if_neg h1, if_neg h2, if_neg h3, if_neg h4, if_neg h5, if_neg h6, if_neg h7]
theorem tp_3 (hX : gx_K (tc_V D ob cA) X cc own nL fr lo rt) {idx : Nat} {x : Int32} {kf : gx_S → gx_R} (n : Nat) (hlink : Cond.fieldLink own idx "TypeLoom$Web" "nodes" "I" ∈ gx_T) (hd : decode cc pc = .ok (.putfield idx, 3)) (hn : pc + 3 = n) (kk : ∀ σ', gx_G (tc_V D ob cA) X (kf σ') σ' n lv st) : gx_G (tc_V D ob cA) X (gx_sb (gx_si σ 3 x) kf) σ pc lv (.int x :: .ref (ob 3) :: st) := gf_put (u := tc_u ob cA) hX 3 12 3 n (show 3 < 55 by decide) rfl ti_3 tt_3 tk_3 tn_3 (by decide) hlink rfl rfl rfl (Nat.le_of_ble_eq_true rfl) rfl (tpn_3 ob σ x) hd hn kk
theorem tpn_4 (ob : Nat → Nat) (σ : gx_S) (x : Int32) : ∀ q, q < 55 → q ≠ 3 → tc_O ob (gx_si σ 4 x) q = tc_O ob σ q := by
  intro q _ hq
  by_cases h0 : q = 0
  · subst h0; rfl
  by_cases h1 : q = 1
  · subst h1; rfl
  by_cases h2 : q = 2
  · subst h2; rfl
  by_cases h3 : q = 3
  · exact absurd h3 hq
  by_cases h4 : q = 4
  · subst h4; rfl
  by_cases h5 : q = 5
  · subst h5; rfl
  by_cases h6 : q = 6
  · subst h6; rfl
  by_cases h7 : q = 7
  · subst h7; rfl
  unfold tc_O
  rw [if_neg h0, if_neg h1, if_neg h2, if_neg h3, if_neg h4, if_neg h5, if_neg h6, if_neg h7, if_neg h0, if_neg h1, if_neg h2, if_neg h3, if_neg h4, if_neg h5, if_neg h6, if_neg h7]
theorem tp_4 (hX : gx_K (tc_V D ob cA) X cc own nL fr lo rt) {idx : Nat} {x : Int32} {kf : gx_S → gx_R} (n : Nat) (hlink : Cond.fieldLink own idx "TypeLoom$Web" "slots" "I" ∈ gx_T) (hd : decode cc pc = .ok (.putfield idx, 3)) (hn : pc + 3 = n) (kk : ∀ σ', gx_G (tc_V D ob cA) X (kf σ') σ' n lv st) : gx_G (tc_V D ob cA) X (gx_sb (gx_si σ 4 x) kf) σ pc lv (.int x :: .ref (ob 3) :: st) := gf_put (u := tc_u ob cA) hX 3 13 4 n (show 3 < 55 by decide) rfl ti_3 tt_3 tk_3 tn_3 (by decide) hlink rfl rfl rfl (Nat.le_of_ble_eq_true rfl) rfl (tpn_4 ob σ x) hd hn kk
theorem tpn_5 (ob : Nat → Nat) (σ : gx_S) (x : Int32) : ∀ q, q < 55 → q ≠ 3 → tc_O ob (gx_si σ 5 x) q = tc_O ob σ q := by
  intro q _ hq
  by_cases h0 : q = 0
  · subst h0; rfl
  by_cases h1 : q = 1
  · subst h1; rfl
  by_cases h2 : q = 2
  · subst h2; rfl
  by_cases h3 : q = 3
  · exact absurd h3 hq
  by_cases h4 : q = 4
  · subst h4; rfl
  by_cases h5 : q = 5
  · subst h5; rfl
  by_cases h6 : q = 6
  · subst h6; rfl
  by_cases h7 : q = 7
  · subst h7; rfl
  unfold tc_O
  rw [if_neg h0, if_neg h1, if_neg h2, if_neg h3, if_neg h4, if_neg h5, if_neg h6, if_neg h7, if_neg h0, if_neg h1, if_neg h2, if_neg h3, if_neg h4, if_neg h5, if_neg h6, if_neg h7]
theorem tp_5 (hX : gx_K (tc_V D ob cA) X cc own nL fr lo rt) {idx : Nat} {x : Int32} {kf : gx_S → gx_R} (n : Nat) (hlink : Cond.fieldLink own idx "TypeLoom$Web" "types" "I" ∈ gx_T) (hd : decode cc pc = .ok (.putfield idx, 3)) (hn : pc + 3 = n) (kk : ∀ σ', gx_G (tc_V D ob cA) X (kf σ') σ' n lv st) : gx_G (tc_V D ob cA) X (gx_sb (gx_si σ 5 x) kf) σ pc lv (.int x :: .ref (ob 3) :: st) := gf_put (u := tc_u ob cA) hX 3 14 5 n (show 3 < 55 by decide) rfl ti_3 tt_3 tk_3 tn_3 (by decide) hlink rfl rfl rfl (Nat.le_of_ble_eq_true rfl) rfl (tpn_5 ob σ x) hd hn kk
theorem tpn_6 (ob : Nat → Nat) (σ : gx_S) (x : Int32) : ∀ q, q < 55 → q ≠ 3 → tc_O ob (gx_si σ 6 x) q = tc_O ob σ q := by
  intro q _ hq
  by_cases h0 : q = 0
  · subst h0; rfl
  by_cases h1 : q = 1
  · subst h1; rfl
  by_cases h2 : q = 2
  · subst h2; rfl
  by_cases h3 : q = 3
  · exact absurd h3 hq
  by_cases h4 : q = 4
  · subst h4; rfl
  by_cases h5 : q = 5
  · subst h5; rfl
  by_cases h6 : q = 6
  · subst h6; rfl
  by_cases h7 : q = 7
  · subst h7; rfl
  unfold tc_O
  rw [if_neg h0, if_neg h1, if_neg h2, if_neg h3, if_neg h4, if_neg h5, if_neg h6, if_neg h7, if_neg h0, if_neg h1, if_neg h2, if_neg h3, if_neg h4, if_neg h5, if_neg h6, if_neg h7]
theorem tp_6 (hX : gx_K (tc_V D ob cA) X cc own nL fr lo rt) {idx : Nat} {x : Int32} {kf : gx_S → gx_R} (n : Nat) (hlink : Cond.fieldLink own idx "TypeLoom$Web" "partsMade" "I" ∈ gx_T) (hd : decode cc pc = .ok (.putfield idx, 3)) (hn : pc + 3 = n) (kk : ∀ σ', gx_G (tc_V D ob cA) X (kf σ') σ' n lv st) : gx_G (tc_V D ob cA) X (gx_sb (gx_si σ 6 x) kf) σ pc lv (.int x :: .ref (ob 3) :: st) := gf_put (u := tc_u ob cA) hX 3 15 6 n (show 3 < 55 by decide) rfl ti_3 tt_3 tk_3 tn_3 (by decide) hlink rfl rfl rfl (Nat.le_of_ble_eq_true rfl) rfl (tpn_6 ob σ x) hd hn kk
theorem tpn_7 (ob : Nat → Nat) (σ : gx_S) (x : Int32) : ∀ q, q < 55 → q ≠ 3 → tc_O ob (gx_si σ 7 x) q = tc_O ob σ q := by
  intro q _ hq
  by_cases h0 : q = 0
  · subst h0; rfl
  by_cases h1 : q = 1
  · subst h1; rfl
  by_cases h2 : q = 2
  · subst h2; rfl
  by_cases h3 : q = 3
  · exact absurd h3 hq
  by_cases h4 : q = 4
  · subst h4; rfl
  by_cases h5 : q = 5
  · subst h5; rfl
  by_cases h6 : q = 6
  · subst h6; rfl
  by_cases h7 : q = 7
  · subst h7; rfl
  unfold tc_O
  rw [if_neg h0, if_neg h1, if_neg h2, if_neg h3, if_neg h4, if_neg h5, if_neg h6, if_neg h7, if_neg h0, if_neg h1, if_neg h2, if_neg h3, if_neg h4, if_neg h5, if_neg h6, if_neg h7]
theorem tp_7 (hX : gx_K (tc_V D ob cA) X cc own nL fr lo rt) {idx : Nat} {x : Int32} {kf : gx_S → gx_R} (n : Nat) (hlink : Cond.fieldLink own idx "TypeLoom$Web" "rows" "I" ∈ gx_T) (hd : decode cc pc = .ok (.putfield idx, 3)) (hn : pc + 3 = n) (kk : ∀ σ', gx_G (tc_V D ob cA) X (kf σ') σ' n lv st) : gx_G (tc_V D ob cA) X (gx_sb (gx_si σ 7 x) kf) σ pc lv (.int x :: .ref (ob 3) :: st) := gf_put (u := tc_u ob cA) hX 3 16 7 n (show 3 < 55 by decide) rfl ti_3 tt_3 tk_3 tn_3 (by decide) hlink rfl rfl rfl (Nat.le_of_ble_eq_true rfl) rfl (tpn_7 ob σ x) hd hn kk
theorem tpn_8 (ob : Nat → Nat) (σ : gx_S) (x : Int32) : ∀ q, q < 55 → q ≠ 4 → tc_O ob (gx_si σ 8 x) q = tc_O ob σ q := by
  intro q _ hq
  by_cases h0 : q = 0
  · subst h0; rfl
  by_cases h1 : q = 1
  · subst h1; rfl
  by_cases h2 : q = 2
  · subst h2; rfl
  by_cases h3 : q = 3
  · subst h3; rfl
  by_cases h4 : q = 4
  · exact absurd h4 hq
  by_cases h5 : q = 5
  · subst h5; rfl
  by_cases h6 : q = 6
  · subst h6; rfl
  by_cases h7 : q = 7
  · subst h7; rfl
  unfold tc_O
  rw [if_neg h0, if_neg h1, if_neg h2, if_neg h3, if_neg h4, if_neg h5, if_neg h6, if_neg h7, if_neg h0, if_neg h1, if_neg h2, if_neg h3, if_neg h4, if_neg h5, if_neg h6, if_neg h7]
theorem tp_8 (hX : gx_K (tc_V D ob cA) X cc own nL fr lo rt) {idx : Nat} {x : Int32} {kf : gx_S → gx_R} (n : Nat) (hlink : Cond.fieldLink own idx "TypeLoom$Walk" "size" "I" ∈ gx_T) (hd : decode cc pc = .ok (.putfield idx, 3)) (hn : pc + 3 = n) (kk : ∀ σ', gx_G (tc_V D ob cA) X (kf σ') σ' n lv st) : gx_G (tc_V D ob cA) X (gx_sb (gx_si σ 8 x) kf) σ pc lv (.int x :: .ref (ob 4) :: st) := gf_put (u := tc_u ob cA) hX 4 6 8 n (show 4 < 55 by decide) rfl ti_4 tt_4 tk_4 tn_4 (by decide) hlink rfl rfl rfl (Nat.le_of_ble_eq_true rfl) rfl (tpn_8 ob σ x) hd hn kk
theorem tpn_9 (ob : Nat → Nat) (σ : gx_S) (x : Int32) : ∀ q, q < 55 → q ≠ 4 → tc_O ob (gx_si σ 9 x) q = tc_O ob σ q := by
  intro q _ hq
  by_cases h0 : q = 0
  · subst h0; rfl
  by_cases h1 : q = 1
  · subst h1; rfl
  by_cases h2 : q = 2
  · subst h2; rfl
  by_cases h3 : q = 3
  · subst h3; rfl
  by_cases h4 : q = 4
  · exact absurd h4 hq
  by_cases h5 : q = 5
  · subst h5; rfl
  by_cases h6 : q = 6
  · subst h6; rfl
  by_cases h7 : q = 7
  · subst h7; rfl
  unfold tc_O
  rw [if_neg h0, if_neg h1, if_neg h2, if_neg h3, if_neg h4, if_neg h5, if_neg h6, if_neg h7, if_neg h0, if_neg h1, if_neg h2, if_neg h3, if_neg h4, if_neg h5, if_neg h6, if_neg h7]
theorem tp_9 (hX : gx_K (tc_V D ob cA) X cc own nL fr lo rt) {idx : Nat} {x : Int32} {kf : gx_S → gx_R} (n : Nat) (hlink : Cond.fieldLink own idx "TypeLoom$Walk" "entered" "I" ∈ gx_T) (hd : decode cc pc = .ok (.putfield idx, 3)) (hn : pc + 3 = n) (kk : ∀ σ', gx_G (tc_V D ob cA) X (kf σ') σ' n lv st) : gx_G (tc_V D ob cA) X (gx_sb (gx_si σ 9 x) kf) σ pc lv (.int x :: .ref (ob 4) :: st) := gf_put (u := tc_u ob cA) hX 4 7 9 n (show 4 < 55 by decide) rfl ti_4 tt_4 tk_4 tn_4 (by decide) hlink rfl rfl rfl (Nat.le_of_ble_eq_true rfl) rfl (tpn_9 ob σ x) hd hn kk
theorem tpn_10 (ob : Nat → Nat) (σ : gx_S) (x : Int32) : ∀ q, q < 55 → q ≠ 4 → tc_O ob (gx_si σ 10 x) q = tc_O ob σ q := by
  intro q _ hq
  by_cases h0 : q = 0
  · subst h0; rfl
  by_cases h1 : q = 1
  · subst h1; rfl
  by_cases h2 : q = 2
  · subst h2; rfl
  by_cases h3 : q = 3
  · subst h3; rfl
  by_cases h4 : q = 4
  · exact absurd h4 hq
  by_cases h5 : q = 5
  · subst h5; rfl
  by_cases h6 : q = 6
  · subst h6; rfl
  by_cases h7 : q = 7
  · subst h7; rfl
  unfold tc_O
  rw [if_neg h0, if_neg h1, if_neg h2, if_neg h3, if_neg h4, if_neg h5, if_neg h6, if_neg h7, if_neg h0, if_neg h1, if_neg h2, if_neg h3, if_neg h4, if_neg h5, if_neg h6, if_neg h7]
theorem tp_10 (hX : gx_K (tc_V D ob cA) X cc own nL fr lo rt) {idx : Nat} {x : Int32} {kf : gx_S → gx_R} (n : Nat) (hlink : Cond.fieldLink own idx "TypeLoom$Walk" "left" "I" ∈ gx_T) (hd : decode cc pc = .ok (.putfield idx, 3)) (hn : pc + 3 = n) (kk : ∀ σ', gx_G (tc_V D ob cA) X (kf σ') σ' n lv st) : gx_G (tc_V D ob cA) X (gx_sb (gx_si σ 10 x) kf) σ pc lv (.int x :: .ref (ob 4) :: st) := gf_put (u := tc_u ob cA) hX 4 8 10 n (show 4 < 55 by decide) rfl ti_4 tt_4 tk_4 tn_4 (by decide) hlink rfl rfl rfl (Nat.le_of_ble_eq_true rfl) rfl (tpn_10 ob σ x) hd hn kk
theorem tpn_11 (ob : Nat → Nat) (σ : gx_S) (x : Int32) : ∀ q, q < 55 → q ≠ 5 → tc_O ob (gx_si σ 11 x) q = tc_O ob σ q := by
  intro q _ hq
  by_cases h0 : q = 0
  · subst h0; rfl
  by_cases h1 : q = 1
  · subst h1; rfl
  by_cases h2 : q = 2
  · subst h2; rfl
  by_cases h3 : q = 3
  · subst h3; rfl
  by_cases h4 : q = 4
  · subst h4; rfl
  by_cases h5 : q = 5
  · exact absurd h5 hq
  by_cases h6 : q = 6
  · subst h6; rfl
  by_cases h7 : q = 7
  · subst h7; rfl
  unfold tc_O
  rw [if_neg h0, if_neg h1, if_neg h2, if_neg h3, if_neg h4, if_neg h5, if_neg h6, if_neg h7, if_neg h0, if_neg h1, if_neg h2, if_neg h3, if_neg h4, if_neg h5, if_neg h6, if_neg h7]
theorem tp_11 (hX : gx_K (tc_V D ob cA) X cc own nL fr lo rt) {idx : Nat} {x : Int32} {kf : gx_S → gx_R} (n : Nat) (hlink : Cond.fieldLink own idx "TypeLoom$Shapes" "size" "I" ∈ gx_T) (hd : decode cc pc = .ok (.putfield idx, 3)) (hn : pc + 3 = n) (kk : ∀ σ', gx_G (tc_V D ob cA) X (kf σ') σ' n lv st) : gx_G (tc_V D ob cA) X (gx_sb (gx_si σ 11 x) kf) σ pc lv (.int x :: .ref (ob 5) :: st) := gf_put (u := tc_u ob cA) hX 5 6 11 n (show 5 < 55 by decide) rfl ti_5 tt_5 tk_5 tn_5 (by decide) hlink rfl rfl rfl (Nat.le_of_ble_eq_true rfl) rfl (tpn_11 ob σ x) hd hn kk
theorem tpn_12 (ob : Nat → Nat) (σ : gx_S) (x : Int32) : ∀ q, q < 55 → q ≠ 6 → tc_O ob (gx_si σ 12 x) q = tc_O ob σ q := by
  intro q _ hq
  by_cases h0 : q = 0
  · subst h0; rfl
  by_cases h1 : q = 1
  · subst h1; rfl
  by_cases h2 : q = 2
  · subst h2; rfl
  by_cases h3 : q = 3
  · subst h3; rfl
  by_cases h4 : q = 4
  · subst h4; rfl
  by_cases h5 : q = 5
  · subst h5; rfl
  by_cases h6 : q = 6
  · exact absurd h6 hq
  by_cases h7 : q = 7
  · subst h7; rfl
  unfold tc_O
  rw [if_neg h0, if_neg h1, if_neg h2, if_neg h3, if_neg h4, if_neg h5, if_neg h6, if_neg h7, if_neg h0, if_neg h1, if_neg h2, if_neg h3, if_neg h4, if_neg h5, if_neg h6, if_neg h7]
theorem tp_12 (hX : gx_K (tc_V D ob cA) X cc own nL fr lo rt) {idx : Nat} {x : Int32} {kf : gx_S → gx_R} (n : Nat) (hlink : Cond.fieldLink own idx "TypeLoom$Unifier" "depth" "I" ∈ gx_T) (hd : decode cc pc = .ok (.putfield idx, 3)) (hn : pc + 3 = n) (kk : ∀ σ', gx_G (tc_V D ob cA) X (kf σ') σ' n lv st) : gx_G (tc_V D ob cA) X (gx_sb (gx_si σ 12 x) kf) σ pc lv (.int x :: .ref (ob 6) :: st) := gf_put (u := tc_u ob cA) hX 6 6 12 n (show 6 < 55 by decide) rfl ti_6 tt_6 tk_6 tn_6 (by decide) hlink rfl rfl rfl (Nat.le_of_ble_eq_true rfl) rfl (tpn_12 ob σ x) hd hn kk
theorem tpn_13 (ob : Nat → Nat) (σ : gx_S) (x : Int32) : ∀ q, q < 55 → q ≠ 6 → tc_O ob (gx_si σ 13 x) q = tc_O ob σ q := by
  intro q _ hq
  by_cases h0 : q = 0
  · subst h0; rfl
  by_cases h1 : q = 1
  · subst h1; rfl
  by_cases h2 : q = 2
  · subst h2; rfl
  by_cases h3 : q = 3
  · subst h3; rfl
  by_cases h4 : q = 4
  · subst h4; rfl
  by_cases h5 : q = 5
  · subst h5; rfl
  by_cases h6 : q = 6
  · exact absurd h6 hq
  by_cases h7 : q = 7
  · subst h7; rfl
  unfold tc_O
  rw [if_neg h0, if_neg h1, if_neg h2, if_neg h3, if_neg h4, if_neg h5, if_neg h6, if_neg h7, if_neg h0, if_neg h1, if_neg h2, if_neg h3, if_neg h4, if_neg h5, if_neg h6, if_neg h7]
theorem tp_13 (hX : gx_K (tc_V D ob cA) X cc own nL fr lo rt) {idx : Nat} {x : Int32} {kf : gx_S → gx_R} (n : Nat) (hlink : Cond.fieldLink own idx "TypeLoom$Unifier" "joins" "I" ∈ gx_T) (hd : decode cc pc = .ok (.putfield idx, 3)) (hn : pc + 3 = n) (kk : ∀ σ', gx_G (tc_V D ob cA) X (kf σ') σ' n lv st) : gx_G (tc_V D ob cA) X (gx_sb (gx_si σ 13 x) kf) σ pc lv (.int x :: .ref (ob 6) :: st) := gf_put (u := tc_u ob cA) hX 6 8 13 n (show 6 < 55 by decide) rfl ti_6 tt_6 tk_6 tn_6 (by decide) hlink rfl rfl rfl (Nat.le_of_ble_eq_true rfl) rfl (tpn_13 ob σ x) hd hn kk
theorem tpn_14 (ob : Nat → Nat) (σ : gx_S) (x : Int32) : ∀ q, q < 55 → q ≠ 6 → tc_O ob (gx_si σ 14 x) q = tc_O ob σ q := by
  intro q _ hq
  by_cases h0 : q = 0
  · subst h0; rfl
  by_cases h1 : q = 1
  · subst h1; rfl
  by_cases h2 : q = 2
  · subst h2; rfl
  by_cases h3 : q = 3
  · subst h3; rfl
  by_cases h4 : q = 4
  · subst h4; rfl
  by_cases h5 : q = 5
  · subst h5; rfl
  by_cases h6 : q = 6
  · exact absurd h6 hq
  by_cases h7 : q = 7
  · subst h7; rfl
  unfold tc_O
  rw [if_neg h0, if_neg h1, if_neg h2, if_neg h3, if_neg h4, if_neg h5, if_neg h6, if_neg h7, if_neg h0, if_neg h1, if_neg h2, if_neg h3, if_neg h4, if_neg h5, if_neg h6, if_neg h7]
theorem tp_14 (hX : gx_K (tc_V D ob cA) X cc own nL fr lo rt) {idx : Nat} {x : Int32} {kf : gx_S → gx_R} (n : Nat) (hlink : Cond.fieldLink own idx "TypeLoom$Unifier" "bounds" "I" ∈ gx_T) (hd : decode cc pc = .ok (.putfield idx, 3)) (hn : pc + 3 = n) (kk : ∀ σ', gx_G (tc_V D ob cA) X (kf σ') σ' n lv st) : gx_G (tc_V D ob cA) X (gx_sb (gx_si σ 14 x) kf) σ pc lv (.int x :: .ref (ob 6) :: st) := gf_put (u := tc_u ob cA) hX 6 10 14 n (show 6 < 55 by decide) rfl ti_6 tt_6 tk_6 tn_6 (by decide) hlink rfl rfl rfl (Nat.le_of_ble_eq_true rfl) rfl (tpn_14 ob σ x) hd hn kk
theorem tpn_15 (ob : Nat → Nat) (σ : gx_S) (x : Int32) : ∀ q, q < 55 → q ≠ 6 → tc_O ob (gx_si σ 15 x) q = tc_O ob σ q := by
  intro q _ hq
  by_cases h0 : q = 0
  · subst h0; rfl
  by_cases h1 : q = 1
  · subst h1; rfl
  by_cases h2 : q = 2
  · subst h2; rfl
  by_cases h3 : q = 3
  · subst h3; rfl
  by_cases h4 : q = 4
  · subst h4; rfl
  by_cases h5 : q = 5
  · subst h5; rfl
  by_cases h6 : q = 6
  · exact absurd h6 hq
  by_cases h7 : q = 7
  · subst h7; rfl
  unfold tc_O
  rw [if_neg h0, if_neg h1, if_neg h2, if_neg h3, if_neg h4, if_neg h5, if_neg h6, if_neg h7, if_neg h0, if_neg h1, if_neg h2, if_neg h3, if_neg h4, if_neg h5, if_neg h6, if_neg h7]
theorem tp_15 (hX : gx_K (tc_V D ob cA) X cc own nL fr lo rt) {idx : Nat} {x : Int32} {kf : gx_S → gx_R} (n : Nat) (hlink : Cond.fieldLink own idx "TypeLoom$Unifier" "changes" "I" ∈ gx_T) (hd : decode cc pc = .ok (.putfield idx, 3)) (hn : pc + 3 = n) (kk : ∀ σ', gx_G (tc_V D ob cA) X (kf σ') σ' n lv st) : gx_G (tc_V D ob cA) X (gx_sb (gx_si σ 15 x) kf) σ pc lv (.int x :: .ref (ob 6) :: st) := gf_put (u := tc_u ob cA) hX 6 15 15 n (show 6 < 55 by decide) rfl ti_6 tt_6 tk_6 tn_6 (by decide) hlink rfl rfl rfl (Nat.le_of_ble_eq_true rfl) rfl (tpn_15 ob σ x) hd hn kk
theorem tpn_16 (ob : Nat → Nat) (σ : gx_S) (x : Int32) : ∀ q, q < 55 → q ≠ 6 → tc_O ob (gx_si σ 16 x) q = tc_O ob σ q := by
  intro q _ hq
  by_cases h0 : q = 0
  · subst h0; rfl
  by_cases h1 : q = 1
  · subst h1; rfl
  by_cases h2 : q = 2
  · subst h2; rfl
  by_cases h3 : q = 3
  · subst h3; rfl
  by_cases h4 : q = 4
  · subst h4; rfl
  by_cases h5 : q = 5
  · subst h5; rfl
  by_cases h6 : q = 6
  · exact absurd h6 hq
  by_cases h7 : q = 7
  · subst h7; rfl
  unfold tc_O
  rw [if_neg h0, if_neg h1, if_neg h2, if_neg h3, if_neg h4, if_neg h5, if_neg h6, if_neg h7, if_neg h0, if_neg h1, if_neg h2, if_neg h3, if_neg h4, if_neg h5, if_neg h6, if_neg h7]
theorem tp_16 (hX : gx_K (tc_V D ob cA) X cc own nL fr lo rt) {idx : Nat} {x : Int32} {kf : gx_S → gx_R} (n : Nat) (hlink : Cond.fieldLink own idx "TypeLoom$Unifier" "turn" "I" ∈ gx_T) (hd : decode cc pc = .ok (.putfield idx, 3)) (hn : pc + 3 = n) (kk : ∀ σ', gx_G (tc_V D ob cA) X (kf σ') σ' n lv st) : gx_G (tc_V D ob cA) X (gx_sb (gx_si σ 16 x) kf) σ pc lv (.int x :: .ref (ob 6) :: st) := gf_put (u := tc_u ob cA) hX 6 17 16 n (show 6 < 55 by decide) rfl ti_6 tt_6 tk_6 tn_6 (by decide) hlink rfl rfl rfl (Nat.le_of_ble_eq_true rfl) rfl (tpn_16 ob σ x) hd hn kk
theorem tpn_17 (ob : Nat → Nat) (σ : gx_S) (x : Int32) : ∀ q, q < 55 → q ≠ 7 → tc_O ob (gx_si σ 17 x) q = tc_O ob σ q := by
  intro q _ hq
  by_cases h0 : q = 0
  · subst h0; rfl
  by_cases h1 : q = 1
  · subst h1; rfl
  by_cases h2 : q = 2
  · subst h2; rfl
  by_cases h3 : q = 3
  · subst h3; rfl
  by_cases h4 : q = 4
  · subst h4; rfl
  by_cases h5 : q = 5
  · subst h5; rfl
  by_cases h6 : q = 6
  · subst h6; rfl
  by_cases h7 : q = 7
  · exact absurd h7 hq
  unfold tc_O
  rw [if_neg h0, if_neg h1, if_neg h2, if_neg h3, if_neg h4, if_neg h5, if_neg h6, if_neg h7, if_neg h0, if_neg h1, if_neg h2, if_neg h3, if_neg h4, if_neg h5, if_neg h6, if_neg h7]
theorem tp_17 (hX : gx_K (tc_V D ob cA) X cc own nL fr lo rt) {idx : Nat} {x : Int32} {kf : gx_S → gx_R} (n : Nat) (hlink : Cond.fieldLink own idx "TypeLoom$Schemes" "size" "I" ∈ gx_T) (hd : decode cc pc = .ok (.putfield idx, 3)) (hn : pc + 3 = n) (kk : ∀ σ', gx_G (tc_V D ob cA) X (kf σ') σ' n lv st) : gx_G (tc_V D ob cA) X (gx_sb (gx_si σ 17 x) kf) σ pc lv (.int x :: .ref (ob 7) :: st) := gf_put (u := tc_u ob cA) hX 7 15 17 n (show 7 < 55 by decide) rfl ti_7 tt_7 tk_7 tn_7 (by decide) hlink rfl rfl rfl (Nat.le_of_ble_eq_true rfl) rfl (tpn_17 ob σ x) hd hn kk
theorem tpn_18 (ob : Nat → Nat) (σ : gx_S) (x : Int32) : ∀ q, q < 55 → q ≠ 7 → tc_O ob (gx_si σ 18 x) q = tc_O ob σ q := by
  intro q _ hq
  by_cases h0 : q = 0
  · subst h0; rfl
  by_cases h1 : q = 1
  · subst h1; rfl
  by_cases h2 : q = 2
  · subst h2; rfl
  by_cases h3 : q = 3
  · subst h3; rfl
  by_cases h4 : q = 4
  · subst h4; rfl
  by_cases h5 : q = 5
  · subst h5; rfl
  by_cases h6 : q = 6
  · subst h6; rfl
  by_cases h7 : q = 7
  · exact absurd h7 hq
  unfold tc_O
  rw [if_neg h0, if_neg h1, if_neg h2, if_neg h3, if_neg h4, if_neg h5, if_neg h6, if_neg h7, if_neg h0, if_neg h1, if_neg h2, if_neg h3, if_neg h4, if_neg h5, if_neg h6, if_neg h7]
theorem tp_18 (hX : gx_K (tc_V D ob cA) X cc own nL fr lo rt) {idx : Nat} {x : Int32} {kf : gx_S → gx_R} (n : Nat) (hlink : Cond.fieldLink own idx "TypeLoom$Schemes" "types" "I" ∈ gx_T) (hd : decode cc pc = .ok (.putfield idx, 3)) (hn : pc + 3 = n) (kk : ∀ σ', gx_G (tc_V D ob cA) X (kf σ') σ' n lv st) : gx_G (tc_V D ob cA) X (gx_sb (gx_si σ 18 x) kf) σ pc lv (.int x :: .ref (ob 7) :: st) := gf_put (u := tc_u ob cA) hX 7 16 18 n (show 7 < 55 by decide) rfl ti_7 tt_7 tk_7 tn_7 (by decide) hlink rfl rfl rfl (Nat.le_of_ble_eq_true rfl) rfl (tpn_18 ob σ x) hd hn kk
theorem tpn_19 (ob : Nat → Nat) (σ : gx_S) (x : Int32) : ∀ q, q < 55 → q ≠ 7 → tc_O ob (gx_si σ 19 x) q = tc_O ob σ q := by
  intro q _ hq
  by_cases h0 : q = 0
  · subst h0; rfl
  by_cases h1 : q = 1
  · subst h1; rfl
  by_cases h2 : q = 2
  · subst h2; rfl
  by_cases h3 : q = 3
  · subst h3; rfl
  by_cases h4 : q = 4
  · subst h4; rfl
  by_cases h5 : q = 5
  · subst h5; rfl
  by_cases h6 : q = 6
  · subst h6; rfl
  by_cases h7 : q = 7
  · exact absurd h7 hq
  unfold tc_O
  rw [if_neg h0, if_neg h1, if_neg h2, if_neg h3, if_neg h4, if_neg h5, if_neg h6, if_neg h7, if_neg h0, if_neg h1, if_neg h2, if_neg h3, if_neg h4, if_neg h5, if_neg h6, if_neg h7]
theorem tp_19 (hX : gx_K (tc_V D ob cA) X cc own nL fr lo rt) {idx : Nat} {x : Int32} {kf : gx_S → gx_R} (n : Nat) (hlink : Cond.fieldLink own idx "TypeLoom$Schemes" "parts" "I" ∈ gx_T) (hd : decode cc pc = .ok (.putfield idx, 3)) (hn : pc + 3 = n) (kk : ∀ σ', gx_G (tc_V D ob cA) X (kf σ') σ' n lv st) : gx_G (tc_V D ob cA) X (gx_sb (gx_si σ 19 x) kf) σ pc lv (.int x :: .ref (ob 7) :: st) := gf_put (u := tc_u ob cA) hX 7 17 19 n (show 7 < 55 by decide) rfl ti_7 tt_7 tk_7 tn_7 (by decide) hlink rfl rfl rfl (Nat.le_of_ble_eq_true rfl) rfl (tpn_19 ob σ x) hd hn kk
theorem tpn_20 (ob : Nat → Nat) (σ : gx_S) (x : Int32) : ∀ q, q < 55 → q ≠ 0 → tc_O ob (gx_si σ 20 x) q = tc_O ob σ q := by
  intro q _ hq
  by_cases h0 : q = 0
  · exact absurd h0 hq
  by_cases h1 : q = 1
  · subst h1; rfl
  by_cases h2 : q = 2
  · subst h2; rfl
  by_cases h3 : q = 3
  · subst h3; rfl
  by_cases h4 : q = 4
  · subst h4; rfl
  by_cases h5 : q = 5
  · subst h5; rfl
  by_cases h6 : q = 6
  · subst h6; rfl
  by_cases h7 : q = 7
  · subst h7; rfl
  unfold tc_O
  rw [if_neg h0, if_neg h1, if_neg h2, if_neg h3, if_neg h4, if_neg h5, if_neg h6, if_neg h7, if_neg h0, if_neg h1, if_neg h2, if_neg h3, if_neg h4, if_neg h5, if_neg h6, if_neg h7]
theorem tp_20 (hX : gx_K (tc_V D ob cA) X cc own nL fr lo rt) {idx : Nat} {x : Int32} {kf : gx_S → gx_R} (n : Nat) (hlink : Cond.fieldLink own idx "TypeLoom" "present" "I" ∈ gx_T) (hd : decode cc pc = .ok (.putfield idx, 3)) (hn : pc + 3 = n) (kk : ∀ σ', gx_G (tc_V D ob cA) X (kf σ') σ' n lv st) : gx_G (tc_V D ob cA) X (gx_sb (gx_si σ 20 x) kf) σ pc lv (.int x :: .ref (ob 0) :: st) := gf_put (u := tc_u ob cA) hX 0 7 20 n (show 0 < 55 by decide) rfl ti_0 tt_0 tk_0 tn_0 (by decide) hlink rfl rfl rfl (Nat.le_of_ble_eq_true rfl) rfl (tpn_20 ob σ x) hd hn kk
end TC
end
section
theorem tw_0 : (Jvm.Cond.selects "TypeLoom" ({ cls := "TypeLoom", name := "leaf", desc := "(IIZ)I" } : Jvm.MethodName) ({ cls := "TypeLoom", name := "leaf", desc := "(IIZ)I" } : Jvm.MethodName)) ∈ gx_T := gx_mem (i := 0) (by decide +kernel) (by decide +kernel)
theorem tw_70 : (Jvm.Cond.initialized "TypeLoom") ∈ gx_T := gx_mem (i := 70) (by decide +kernel) (by decide +kernel)
theorem tw_71 : (Jvm.Cond.initialized "TypeLoom$Constructors") ∈ gx_T := gx_mem (i := 71) (by decide +kernel) (by decide +kernel)
theorem tw_72 : (Jvm.Cond.initialized "TypeLoom$Ints") ∈ gx_T := gx_mem (i := 72) (by decide +kernel) (by decide +kernel)
theorem tw_73 : (Jvm.Cond.initialized "TypeLoom$Pushed") ∈ gx_T := gx_mem (i := 73) (by decide +kernel) (by decide +kernel)
theorem tw_74 : (Jvm.Cond.initialized "TypeLoom$Web") ∈ gx_T := gx_mem (i := 74) (by decide +kernel) (by decide +kernel)
theorem tw_78 : (Jvm.Cond.initialized "TypeLoom$Schemes") ∈ gx_T := gx_mem (i := 78) (by decide +kernel) (by decide +kernel)
theorem tw_103 : (Jvm.Cond.fieldLink "TypeLoom$Ints" (13 : Nat) "TypeLoom$Ints" "limit" "I") ∈ gx_T := gx_mem (i := 103) (by decide +kernel) (by decide +kernel)
theorem tw_104 : (Jvm.Cond.fieldLink "TypeLoom$Ints" (9 : Nat) "TypeLoom$Ints" "cells" "[I") ∈ gx_T := gx_mem (i := 104) (by decide +kernel) (by decide +kernel)
theorem tw_111 : (Jvm.Cond.fieldLink "TypeLoom$Constructors" (14 : Nat) "TypeLoom$Constructors" "arities" "LTypeLoom$Ints;") ∈ gx_T := gx_mem (i := 111) (by decide +kernel) (by decide +kernel)
theorem tw_112 : (Jvm.Cond.fieldLink "TypeLoom$Constructors" (20 : Nat) "TypeLoom$Constructors" "equalities" "LTypeLoom$Ints;") ∈ gx_T := gx_mem (i := 112) (by decide +kernel) (by decide +kernel)
theorem tw_113 : (Jvm.Cond.fieldLink "TypeLoom$Constructors" (23 : Nat) "TypeLoom$Constructors" "size" "I") ∈ gx_T := gx_mem (i := 113) (by decide +kernel) (by decide +kernel)
theorem tw_114 : (Jvm.Cond.fieldLink "TypeLoom" (206 : Nat) "TypeLoom$Constructors" "size" "I") ∈ gx_T := gx_mem (i := 114) (by decide +kernel) (by decide +kernel)
theorem tw_131 : (Jvm.Cond.fieldLink "TypeLoom" (128 : Nat) "TypeLoom$Pushed" "labels" "LTypeLoom$Ints;") ∈ gx_T := gx_mem (i := 131) (by decide +kernel) (by decide +kernel)
theorem tw_133 : (Jvm.Cond.fieldLink "TypeLoom" (106 : Nat) "TypeLoom$Pushed" "nodes" "LTypeLoom$Ints;") ∈ gx_T := gx_mem (i := 133) (by decide +kernel) (by decide +kernel)
theorem tw_134 : (Jvm.Cond.fieldLink "TypeLoom$Pushed" (23 : Nat) "TypeLoom$Pushed" "size" "I") ∈ gx_T := gx_mem (i := 134) (by decide +kernel) (by decide +kernel)
theorem tw_135 : (Jvm.Cond.fieldLink "TypeLoom" (92 : Nat) "TypeLoom$Pushed" "size" "I") ∈ gx_T := gx_mem (i := 135) (by decide +kernel) (by decide +kernel)
theorem tw_136 : (Jvm.Cond.fieldLink "TypeLoom$Pushed" (27 : Nat) "TypeLoom$Pushed" "fields" "I") ∈ gx_T := gx_mem (i := 136) (by decide +kernel) (by decide +kernel)
theorem tw_137 : (Jvm.Cond.fieldLink "TypeLoom" (89 : Nat) "TypeLoom$Pushed" "fields" "I") ∈ gx_T := gx_mem (i := 137) (by decide +kernel) (by decide +kernel)
theorem tw_156 : (Jvm.Cond.fieldLink "TypeLoom$Web" (14 : Nat) "TypeLoom$Web" "kinds" "LTypeLoom$Ints;") ∈ gx_T := gx_mem (i := 156) (by decide +kernel) (by decide +kernel)
theorem tw_161 : (Jvm.Cond.fieldLink "TypeLoom" (153 : Nat) "TypeLoom$Web" "kinds" "LTypeLoom$Ints;") ∈ gx_T := gx_mem (i := 161) (by decide +kernel) (by decide +kernel)
theorem tw_162 : (Jvm.Cond.fieldLink "TypeLoom$Web" (20 : Nat) "TypeLoom$Web" "heads" "LTypeLoom$Ints;") ∈ gx_T := gx_mem (i := 162) (by decide +kernel) (by decide +kernel)
theorem tw_167 : (Jvm.Cond.fieldLink "TypeLoom" (162 : Nat) "TypeLoom$Web" "heads" "LTypeLoom$Ints;") ∈ gx_T := gx_mem (i := 167) (by decide +kernel) (by decide +kernel)
theorem tw_168 : (Jvm.Cond.fieldLink "TypeLoom$Web" (23 : Nat) "TypeLoom$Web" "levels" "LTypeLoom$Ints;") ∈ gx_T := gx_mem (i := 168) (by decide +kernel) (by decide +kernel)
theorem tw_172 : (Jvm.Cond.fieldLink "TypeLoom$Web" (26 : Nat) "TypeLoom$Web" "wishes" "LTypeLoom$Ints;") ∈ gx_T := gx_mem (i := 172) (by decide +kernel) (by decide +kernel)
theorem tw_176 : (Jvm.Cond.fieldLink "TypeLoom$Web" (29 : Nat) "TypeLoom$Web" "firsts" "LTypeLoom$Ints;") ∈ gx_T := gx_mem (i := 176) (by decide +kernel) (by decide +kernel)
theorem tw_178 : (Jvm.Cond.fieldLink "TypeLoom$Web" (32 : Nat) "TypeLoom$Web" "sizes" "LTypeLoom$Ints;") ∈ gx_T := gx_mem (i := 178) (by decide +kernel) (by decide +kernel)
theorem tw_181 : (Jvm.Cond.fieldLink "TypeLoom$Web" (35 : Nat) "TypeLoom$Web" "tails" "LTypeLoom$Ints;") ∈ gx_T := gx_mem (i := 181) (by decide +kernel) (by decide +kernel)
theorem tw_182 : (Jvm.Cond.fieldLink "TypeLoom" (131 : Nat) "TypeLoom$Web" "tails" "LTypeLoom$Ints;") ∈ gx_T := gx_mem (i := 182) (by decide +kernel) (by decide +kernel)
theorem tw_185 : (Jvm.Cond.fieldLink "TypeLoom$Web" (38 : Nat) "TypeLoom$Web" "parents" "LTypeLoom$Ints;") ∈ gx_T := gx_mem (i := 185) (by decide +kernel) (by decide +kernel)
theorem tw_187 : (Jvm.Cond.fieldLink "TypeLoom$Web" (41 : Nat) "TypeLoom$Web" "weights" "LTypeLoom$Ints;") ∈ gx_T := gx_mem (i := 187) (by decide +kernel) (by decide +kernel)
theorem tw_198 : (Jvm.Cond.fieldLink "TypeLoom$Web" (51 : Nat) "TypeLoom$Web" "numbered" "LTypeLoom$Ints;") ∈ gx_T := gx_mem (i := 198) (by decide +kernel) (by decide +kernel)
theorem tw_199 : (Jvm.Cond.fieldLink "TypeLoom$Web" (54 : Nat) "TypeLoom$Web" "nodes" "I") ∈ gx_T := gx_mem (i := 199) (by decide +kernel) (by decide +kernel)
theorem tw_201 : (Jvm.Cond.fieldLink "TypeLoom$Web" (58 : Nat) "TypeLoom$Web" "slots" "I") ∈ gx_T := gx_mem (i := 201) (by decide +kernel) (by decide +kernel)
theorem tw_203 : (Jvm.Cond.fieldLink "TypeLoom$Web" (61 : Nat) "TypeLoom$Web" "types" "I") ∈ gx_T := gx_mem (i := 203) (by decide +kernel) (by decide +kernel)
theorem tw_204 : (Jvm.Cond.fieldLink "TypeLoom" (215 : Nat) "TypeLoom$Web" "types" "I") ∈ gx_T := gx_mem (i := 204) (by decide +kernel) (by decide +kernel)
theorem tw_205 : (Jvm.Cond.fieldLink "TypeLoom$Web" (64 : Nat) "TypeLoom$Web" "partsMade" "I") ∈ gx_T := gx_mem (i := 205) (by decide +kernel) (by decide +kernel)
theorem tw_206 : (Jvm.Cond.fieldLink "TypeLoom" (219 : Nat) "TypeLoom$Web" "partsMade" "I") ∈ gx_T := gx_mem (i := 206) (by decide +kernel) (by decide +kernel)
theorem tw_207 : (Jvm.Cond.fieldLink "TypeLoom$Web" (67 : Nat) "TypeLoom$Web" "rows" "I") ∈ gx_T := gx_mem (i := 207) (by decide +kernel) (by decide +kernel)
theorem tw_208 : (Jvm.Cond.fieldLink "TypeLoom" (125 : Nat) "TypeLoom$Web" "rows" "I") ∈ gx_T := gx_mem (i := 208) (by decide +kernel) (by decide +kernel)
theorem tw_392 : (Jvm.Cond.fieldLink "TypeLoom$Schemes" (14 : Nat) "TypeLoom$Schemes" "kinds" "LTypeLoom$Ints;") ∈ gx_T := gx_mem (i := 392) (by decide +kernel) (by decide +kernel)
theorem tw_393 : (Jvm.Cond.fieldLink "TypeLoom$Schemes" (20 : Nat) "TypeLoom$Schemes" "heads" "LTypeLoom$Ints;") ∈ gx_T := gx_mem (i := 393) (by decide +kernel) (by decide +kernel)
theorem tw_395 : (Jvm.Cond.fieldLink "TypeLoom$Schemes" (26 : Nat) "TypeLoom$Schemes" "firsts" "LTypeLoom$Ints;") ∈ gx_T := gx_mem (i := 395) (by decide +kernel) (by decide +kernel)
theorem tw_398 : (Jvm.Cond.fieldLink "TypeLoom$Schemes" (36 : Nat) "TypeLoom$Schemes" "starts" "LTypeLoom$Ints;") ∈ gx_T := gx_mem (i := 398) (by decide +kernel) (by decide +kernel)
theorem tw_401 : (Jvm.Cond.fieldLink "TypeLoom" (191 : Nat) "TypeLoom$Schemes" "quantifieds" "LTypeLoom$Ints;") ∈ gx_T := gx_mem (i := 401) (by decide +kernel) (by decide +kernel)
theorem tw_403 : (Jvm.Cond.fieldLink "TypeLoom" (197 : Nat) "TypeLoom$Schemes" "wishers" "LTypeLoom$Ints;") ∈ gx_T := gx_mem (i := 403) (by decide +kernel) (by decide +kernel)
theorem tw_407 : (Jvm.Cond.fieldLink "TypeLoom$Schemes" (57 : Nat) "TypeLoom$Schemes" "size" "I") ∈ gx_T := gx_mem (i := 407) (by decide +kernel) (by decide +kernel)
theorem tw_408 : (Jvm.Cond.fieldLink "TypeLoom" (218 : Nat) "TypeLoom$Schemes" "size" "I") ∈ gx_T := gx_mem (i := 408) (by decide +kernel) (by decide +kernel)
theorem tw_409 : (Jvm.Cond.fieldLink "TypeLoom$Schemes" (61 : Nat) "TypeLoom$Schemes" "types" "I") ∈ gx_T := gx_mem (i := 409) (by decide +kernel) (by decide +kernel)
theorem tw_410 : (Jvm.Cond.fieldLink "TypeLoom" (222 : Nat) "TypeLoom$Schemes" "types" "I") ∈ gx_T := gx_mem (i := 410) (by decide +kernel) (by decide +kernel)
theorem tw_411 : (Jvm.Cond.fieldLink "TypeLoom$Schemes" (64 : Nat) "TypeLoom$Schemes" "parts" "I") ∈ gx_T := gx_mem (i := 411) (by decide +kernel) (by decide +kernel)
theorem tw_412 : (Jvm.Cond.fieldLink "TypeLoom" (223 : Nat) "TypeLoom$Schemes" "parts" "I") ∈ gx_T := gx_mem (i := 412) (by decide +kernel) (by decide +kernel)
theorem tw_450 : (Jvm.Cond.fieldLink "TypeLoom" (12 : Nat) "TypeLoom" "known" "LTypeLoom$Constructors;") ∈ gx_T := gx_mem (i := 450) (by decide +kernel) (by decide +kernel)
theorem tw_451 : (Jvm.Cond.fieldLink "TypeLoom" (19 : Nat) "TypeLoom" "pushed" "LTypeLoom$Pushed;") ∈ gx_T := gx_mem (i := 451) (by decide +kernel) (by decide +kernel)
theorem tw_452 : (Jvm.Cond.fieldLink "TypeLoom" (26 : Nat) "TypeLoom" "web" "LTypeLoom$Web;") ∈ gx_T := gx_mem (i := 452) (by decide +kernel) (by decide +kernel)
theorem tw_453 : (Jvm.Cond.fieldLink "TypeLoom" (35 : Nat) "TypeLoom" "walk" "LTypeLoom$Walk;") ∈ gx_T := gx_mem (i := 453) (by decide +kernel) (by decide +kernel)
theorem tw_454 : (Jvm.Cond.fieldLink "TypeLoom" (44 : Nat) "TypeLoom" "shapes" "LTypeLoom$Shapes;") ∈ gx_T := gx_mem (i := 454) (by decide +kernel) (by decide +kernel)
theorem tw_455 : (Jvm.Cond.fieldLink "TypeLoom" (53 : Nat) "TypeLoom" "unifier" "LTypeLoom$Unifier;") ∈ gx_T := gx_mem (i := 455) (by decide +kernel) (by decide +kernel)
theorem tw_456 : (Jvm.Cond.fieldLink "TypeLoom" (62 : Nat) "TypeLoom" "kept" "LTypeLoom$Schemes;") ∈ gx_T := gx_mem (i := 456) (by decide +kernel) (by decide +kernel)
theorem tw_457 : (Jvm.Cond.fieldLink "TypeLoom" (66 : Nat) "TypeLoom" "present" "I") ∈ gx_T := gx_mem (i := 457) (by decide +kernel) (by decide +kernel)
theorem tw_476 : (Jvm.Cond.instanceMethod ({ cls := "TypeLoom", name := "constructor", desc := "(II)I" } : Jvm.MethodName)) ∈ gx_T := gx_mem (i := 476) (by decide +kernel) (by decide +kernel)
theorem tw_477 : (Jvm.Cond.selects "TypeLoom" ({ cls := "TypeLoom", name := "constructor", desc := "(II)I" } : Jvm.MethodName) ({ cls := "TypeLoom", name := "constructor", desc := "(II)I" } : Jvm.MethodName)) ∈ gx_T := gx_mem (i := 477) (by decide +kernel) (by decide +kernel)
theorem tw_478 : (Jvm.Cond.code ({ cls := "TypeLoom", name := "constructor", desc := "(II)I" } : Jvm.MethodName) prog_1_method_2_code (3 : Nat) (Option.some Jvm.ClassFile.FieldType.int)) ∈ gx_T := gx_mem (i := 478) (by decide +kernel) (by decide +kernel)
theorem tw_479 : (Jvm.Cond.methodLink "TypeLoom" (70 : Nat) ({ cls := "TypeLoom$Constructors", name := "add", desc := "(II)I" } : Jvm.MethodName)) ∈ gx_T := gx_mem (i := 479) (by decide +kernel) (by decide +kernel)
theorem tw_480 : (Jvm.Cond.instanceMethod ({ cls := "TypeLoom$Constructors", name := "add", desc := "(II)I" } : Jvm.MethodName)) ∈ gx_T := gx_mem (i := 480) (by decide +kernel) (by decide +kernel)
theorem tw_481 : (Jvm.Cond.selects "TypeLoom$Constructors" ({ cls := "TypeLoom$Constructors", name := "add", desc := "(II)I" } : Jvm.MethodName) ({ cls := "TypeLoom$Constructors", name := "add", desc := "(II)I" } : Jvm.MethodName)) ∈ gx_T := gx_mem (i := 481) (by decide +kernel) (by decide +kernel)
theorem tw_482 : (Jvm.Cond.code ({ cls := "TypeLoom$Constructors", name := "add", desc := "(II)I" } : Jvm.MethodName) prog_2_method_2_code (3 : Nat) (Option.some Jvm.ClassFile.FieldType.int)) ∈ gx_T := gx_mem (i := 482) (by decide +kernel) (by decide +kernel)
theorem tw_483 : (Jvm.Cond.methodLink "TypeLoom$Constructors" (27 : Nat) ({ cls := "TypeLoom$Ints", name := "put", desc := "(II)V" } : Jvm.MethodName)) ∈ gx_T := gx_mem (i := 483) (by decide +kernel) (by decide +kernel)
theorem tw_484 : (Jvm.Cond.instanceMethod ({ cls := "TypeLoom$Ints", name := "put", desc := "(II)V" } : Jvm.MethodName)) ∈ gx_T := gx_mem (i := 484) (by decide +kernel) (by decide +kernel)
theorem tw_485 : (Jvm.Cond.selects "TypeLoom$Ints" ({ cls := "TypeLoom$Ints", name := "put", desc := "(II)V" } : Jvm.MethodName) ({ cls := "TypeLoom$Ints", name := "put", desc := "(II)V" } : Jvm.MethodName)) ∈ gx_T := gx_mem (i := 485) (by decide +kernel) (by decide +kernel)
theorem tw_486 : (Jvm.Cond.code ({ cls := "TypeLoom$Ints", name := "put", desc := "(II)V" } : Jvm.MethodName) prog_3_method_3_code (3 : Nat) (Option.none : Option Jvm.ClassFile.FieldType)) ∈ gx_T := gx_mem (i := 486) (by decide +kernel) (by decide +kernel)
theorem tw_508 : (Jvm.Cond.instanceMethod ({ cls := "TypeLoom", name := "push", desc := "(II)I" } : Jvm.MethodName)) ∈ gx_T := gx_mem (i := 508) (by decide +kernel) (by decide +kernel)
theorem tw_509 : (Jvm.Cond.selects "TypeLoom" ({ cls := "TypeLoom", name := "push", desc := "(II)I" } : Jvm.MethodName) ({ cls := "TypeLoom", name := "push", desc := "(II)I" } : Jvm.MethodName)) ∈ gx_T := gx_mem (i := 509) (by decide +kernel) (by decide +kernel)
theorem tw_510 : (Jvm.Cond.code ({ cls := "TypeLoom", name := "push", desc := "(II)I" } : Jvm.MethodName) prog_1_method_3_code (3 : Nat) (Option.some Jvm.ClassFile.FieldType.int)) ∈ gx_T := gx_mem (i := 510) (by decide +kernel) (by decide +kernel)
theorem tw_511 : (Jvm.Cond.methodLink "TypeLoom" (74 : Nat) ({ cls := "TypeLoom$Web", name := "isType", desc := "(I)Z" } : Jvm.MethodName)) ∈ gx_T := gx_mem (i := 511) (by decide +kernel) (by decide +kernel)
theorem tw_512 : (Jvm.Cond.instanceMethod ({ cls := "TypeLoom$Web", name := "isType", desc := "(I)Z" } : Jvm.MethodName)) ∈ gx_T := gx_mem (i := 512) (by decide +kernel) (by decide +kernel)
theorem tw_513 : (Jvm.Cond.selects "TypeLoom$Web" ({ cls := "TypeLoom$Web", name := "isType", desc := "(I)Z" } : Jvm.MethodName) ({ cls := "TypeLoom$Web", name := "isType", desc := "(I)Z" } : Jvm.MethodName)) ∈ gx_T := gx_mem (i := 513) (by decide +kernel) (by decide +kernel)
theorem tw_514 : (Jvm.Cond.code ({ cls := "TypeLoom$Web", name := "isType", desc := "(I)Z" } : Jvm.MethodName) prog_9_method_3_code (2 : Nat) (Option.some Jvm.ClassFile.FieldType.boolean)) ∈ gx_T := gx_mem (i := 514) (by decide +kernel) (by decide +kernel)
theorem tw_520 : (Jvm.Cond.instanceMethod ({ cls := "TypeLoom$Ints", name := "at", desc := "(I)I" } : Jvm.MethodName)) ∈ gx_T := gx_mem (i := 520) (by decide +kernel) (by decide +kernel)
theorem tw_521 : (Jvm.Cond.selects "TypeLoom$Ints" ({ cls := "TypeLoom$Ints", name := "at", desc := "(I)I" } : Jvm.MethodName) ({ cls := "TypeLoom$Ints", name := "at", desc := "(I)I" } : Jvm.MethodName)) ∈ gx_T := gx_mem (i := 521) (by decide +kernel) (by decide +kernel)
theorem tw_522 : (Jvm.Cond.code ({ cls := "TypeLoom$Ints", name := "at", desc := "(I)I" } : Jvm.MethodName) prog_3_method_2_code (2 : Nat) (Option.some Jvm.ClassFile.FieldType.int)) ∈ gx_T := gx_mem (i := 522) (by decide +kernel) (by decide +kernel)
theorem tw_527 : (Jvm.Cond.methodLink "TypeLoom$Web" (70 : Nat) ({ cls := "TypeLoom$Ints", name := "at", desc := "(I)I" } : Jvm.MethodName)) ∈ gx_T := gx_mem (i := 527) (by decide +kernel) (by decide +kernel)
theorem tw_534 : (Jvm.Cond.instanceMethod ({ cls := "TypeLoom", name := "built", desc := "(I)I" } : Jvm.MethodName)) ∈ gx_T := gx_mem (i := 534) (by decide +kernel) (by decide +kernel)
theorem tw_535 : (Jvm.Cond.selects "TypeLoom" ({ cls := "TypeLoom", name := "built", desc := "(I)I" } : Jvm.MethodName) ({ cls := "TypeLoom", name := "built", desc := "(I)I" } : Jvm.MethodName)) ∈ gx_T := gx_mem (i := 535) (by decide +kernel) (by decide +kernel)
theorem tw_536 : (Jvm.Cond.code ({ cls := "TypeLoom", name := "built", desc := "(I)I" } : Jvm.MethodName) prog_1_method_4_code (4 : Nat) (Option.some Jvm.ClassFile.FieldType.int)) ∈ gx_T := gx_mem (i := 536) (by decide +kernel) (by decide +kernel)
theorem tw_537 : (Jvm.Cond.methodLink "TypeLoom" (86 : Nat) ({ cls := "TypeLoom$Constructors", name := "has", desc := "(I)Z" } : Jvm.MethodName)) ∈ gx_T := gx_mem (i := 537) (by decide +kernel) (by decide +kernel)
theorem tw_538 : (Jvm.Cond.instanceMethod ({ cls := "TypeLoom$Constructors", name := "has", desc := "(I)Z" } : Jvm.MethodName)) ∈ gx_T := gx_mem (i := 538) (by decide +kernel) (by decide +kernel)
theorem tw_539 : (Jvm.Cond.selects "TypeLoom$Constructors" ({ cls := "TypeLoom$Constructors", name := "has", desc := "(I)Z" } : Jvm.MethodName) ({ cls := "TypeLoom$Constructors", name := "has", desc := "(I)Z" } : Jvm.MethodName)) ∈ gx_T := gx_mem (i := 539) (by decide +kernel) (by decide +kernel)
theorem tw_540 : (Jvm.Cond.code ({ cls := "TypeLoom$Constructors", name := "has", desc := "(I)Z" } : Jvm.MethodName) prog_2_method_3_code (2 : Nat) (Option.some Jvm.ClassFile.FieldType.boolean)) ∈ gx_T := gx_mem (i := 540) (by decide +kernel) (by decide +kernel)
theorem tw_545 : (Jvm.Cond.methodLink "TypeLoom$Constructors" (31 : Nat) ({ cls := "TypeLoom$Ints", name := "at", desc := "(I)I" } : Jvm.MethodName)) ∈ gx_T := gx_mem (i := 545) (by decide +kernel) (by decide +kernel)
theorem tw_546 : (Jvm.Cond.methodLink "TypeLoom" (98 : Nat) ({ cls := "TypeLoom$Web", name := "hasRoom", desc := "(II)Z" } : Jvm.MethodName)) ∈ gx_T := gx_mem (i := 546) (by decide +kernel) (by decide +kernel)
theorem tw_547 : (Jvm.Cond.instanceMethod ({ cls := "TypeLoom$Web", name := "hasRoom", desc := "(II)Z" } : Jvm.MethodName)) ∈ gx_T := gx_mem (i := 547) (by decide +kernel) (by decide +kernel)
theorem tw_548 : (Jvm.Cond.selects "TypeLoom$Web" ({ cls := "TypeLoom$Web", name := "hasRoom", desc := "(II)Z" } : Jvm.MethodName) ({ cls := "TypeLoom$Web", name := "hasRoom", desc := "(II)Z" } : Jvm.MethodName)) ∈ gx_T := gx_mem (i := 548) (by decide +kernel) (by decide +kernel)
theorem tw_549 : (Jvm.Cond.code ({ cls := "TypeLoom$Web", name := "hasRoom", desc := "(II)Z" } : Jvm.MethodName) prog_9_method_5_code (3 : Nat) (Option.some Jvm.ClassFile.FieldType.boolean)) ∈ gx_T := gx_mem (i := 549) (by decide +kernel) (by decide +kernel)
theorem tw_550 : (Jvm.Cond.constant "TypeLoom$Web" (74 : Nat) (65536 : Int32)) ∈ gx_T := gx_mem (i := 550) (by decide +kernel) (by decide +kernel)
theorem tw_551 : (Jvm.Cond.methodLink "TypeLoom" (102 : Nat) ({ cls := "TypeLoom$Web", name := "addNode", desc := "(IIII)I" } : Jvm.MethodName)) ∈ gx_T := gx_mem (i := 551) (by decide +kernel) (by decide +kernel)
theorem tw_552 : (Jvm.Cond.instanceMethod ({ cls := "TypeLoom$Web", name := "addNode", desc := "(IIII)I" } : Jvm.MethodName)) ∈ gx_T := gx_mem (i := 552) (by decide +kernel) (by decide +kernel)
theorem tw_553 : (Jvm.Cond.selects "TypeLoom$Web" ({ cls := "TypeLoom$Web", name := "addNode", desc := "(IIII)I" } : Jvm.MethodName) ({ cls := "TypeLoom$Web", name := "addNode", desc := "(IIII)I" } : Jvm.MethodName)) ∈ gx_T := gx_mem (i := 553) (by decide +kernel) (by decide +kernel)
theorem tw_554 : (Jvm.Cond.code ({ cls := "TypeLoom$Web", name := "addNode", desc := "(IIII)I" } : Jvm.MethodName) prog_9_method_6_code (6 : Nat) (Option.some Jvm.ClassFile.FieldType.int)) ∈ gx_T := gx_mem (i := 554) (by decide +kernel) (by decide +kernel)
theorem tw_555 : (Jvm.Cond.methodLink "TypeLoom$Web" (75 : Nat) ({ cls := "TypeLoom$Ints", name := "put", desc := "(II)V" } : Jvm.MethodName)) ∈ gx_T := gx_mem (i := 555) (by decide +kernel) (by decide +kernel)
theorem tw_556 : (Jvm.Cond.methodLink "TypeLoom" (110 : Nat) ({ cls := "TypeLoom$Ints", name := "at", desc := "(I)I" } : Jvm.MethodName)) ∈ gx_T := gx_mem (i := 556) (by decide +kernel) (by decide +kernel)
theorem tw_561 : (Jvm.Cond.methodLink "TypeLoom" (119 : Nat) ({ cls := "TypeLoom$Pushed", name := "drop", desc := "()V" } : Jvm.MethodName)) ∈ gx_T := gx_mem (i := 561) (by decide +kernel) (by decide +kernel)
theorem tw_562 : (Jvm.Cond.instanceMethod ({ cls := "TypeLoom$Pushed", name := "drop", desc := "()V" } : Jvm.MethodName)) ∈ gx_T := gx_mem (i := 562) (by decide +kernel) (by decide +kernel)
theorem tw_563 : (Jvm.Cond.selects "TypeLoom$Pushed" ({ cls := "TypeLoom$Pushed", name := "drop", desc := "()V" } : Jvm.MethodName) ({ cls := "TypeLoom$Pushed", name := "drop", desc := "()V" } : Jvm.MethodName)) ∈ gx_T := gx_mem (i := 563) (by decide +kernel) (by decide +kernel)
theorem tw_564 : (Jvm.Cond.code ({ cls := "TypeLoom$Pushed", name := "drop", desc := "()V" } : Jvm.MethodName) prog_4_method_4_code (1 : Nat) (Option.none : Option Jvm.ClassFile.FieldType)) ∈ gx_T := gx_mem (i := 564) (by decide +kernel) (by decide +kernel)
theorem tw_565 : (Jvm.Cond.methodLink "TypeLoom" (122 : Nat) ({ cls := "TypeLoom$Web", name := "addType", desc := "(I)I" } : Jvm.MethodName)) ∈ gx_T := gx_mem (i := 565) (by decide +kernel) (by decide +kernel)
theorem tw_566 : (Jvm.Cond.instanceMethod ({ cls := "TypeLoom$Web", name := "addType", desc := "(I)I" } : Jvm.MethodName)) ∈ gx_T := gx_mem (i := 566) (by decide +kernel) (by decide +kernel)
theorem tw_567 : (Jvm.Cond.selects "TypeLoom$Web" ({ cls := "TypeLoom$Web", name := "addType", desc := "(I)I" } : Jvm.MethodName) ({ cls := "TypeLoom$Web", name := "addType", desc := "(I)I" } : Jvm.MethodName)) ∈ gx_T := gx_mem (i := 567) (by decide +kernel) (by decide +kernel)
theorem tw_568 : (Jvm.Cond.code ({ cls := "TypeLoom$Web", name := "addType", desc := "(I)I" } : Jvm.MethodName) prog_9_method_8_code (2 : Nat) (Option.some Jvm.ClassFile.FieldType.int)) ∈ gx_T := gx_mem (i := 568) (by decide +kernel) (by decide +kernel)
theorem tw_570 : (Jvm.Cond.instanceMethod ({ cls := "TypeLoom", name := "record", desc := "(Z)I" } : Jvm.MethodName)) ∈ gx_T := gx_mem (i := 570) (by decide +kernel) (by decide +kernel)
theorem tw_571 : (Jvm.Cond.selects "TypeLoom" ({ cls := "TypeLoom", name := "record", desc := "(Z)I" } : Jvm.MethodName) ({ cls := "TypeLoom", name := "record", desc := "(Z)I" } : Jvm.MethodName)) ∈ gx_T := gx_mem (i := 571) (by decide +kernel) (by decide +kernel)
theorem tw_572 : (Jvm.Cond.code ({ cls := "TypeLoom", name := "record", desc := "(Z)I" } : Jvm.MethodName) prog_1_method_5_code (4 : Nat) (Option.some Jvm.ClassFile.FieldType.int)) ∈ gx_T := gx_mem (i := 572) (by decide +kernel) (by decide +kernel)
theorem tw_573 : (Jvm.Cond.methodLink "TypeLoom" (134 : Nat) ({ cls := "TypeLoom$Ints", name := "put", desc := "(II)V" } : Jvm.MethodName)) ∈ gx_T := gx_mem (i := 573) (by decide +kernel) (by decide +kernel)
theorem tw_575 : (Jvm.Cond.instanceMethod ({ cls := "TypeLoom", name := "function", desc := "(II)I" } : Jvm.MethodName)) ∈ gx_T := gx_mem (i := 575) (by decide +kernel) (by decide +kernel)
theorem tw_576 : (Jvm.Cond.selects "TypeLoom" ({ cls := "TypeLoom", name := "function", desc := "(II)I" } : Jvm.MethodName) ({ cls := "TypeLoom", name := "function", desc := "(II)I" } : Jvm.MethodName)) ∈ gx_T := gx_mem (i := 576) (by decide +kernel) (by decide +kernel)
theorem tw_577 : (Jvm.Cond.code ({ cls := "TypeLoom", name := "function", desc := "(II)I" } : Jvm.MethodName) prog_1_method_6_code (4 : Nat) (Option.some Jvm.ClassFile.FieldType.int)) ∈ gx_T := gx_mem (i := 577) (by decide +kernel) (by decide +kernel)
theorem tw_579 : (Jvm.Cond.instanceMethod ({ cls := "TypeLoom", name := "variable", desc := "(ZI)I" } : Jvm.MethodName)) ∈ gx_T := gx_mem (i := 579) (by decide +kernel) (by decide +kernel)
theorem tw_580 : (Jvm.Cond.selects "TypeLoom" ({ cls := "TypeLoom", name := "variable", desc := "(ZI)I" } : Jvm.MethodName) ({ cls := "TypeLoom", name := "variable", desc := "(ZI)I" } : Jvm.MethodName)) ∈ gx_T := gx_mem (i := 580) (by decide +kernel) (by decide +kernel)
theorem tw_581 : (Jvm.Cond.code ({ cls := "TypeLoom", name := "variable", desc := "(ZI)I" } : Jvm.MethodName) prog_1_method_7_code (3 : Nat) (Option.some Jvm.ClassFile.FieldType.int)) ∈ gx_T := gx_mem (i := 581) (by decide +kernel) (by decide +kernel)
theorem tw_582 : (Jvm.Cond.methodLink "TypeLoom" (138 : Nat) ({ cls := "TypeLoom$Constructors", name := "mayBeSet", desc := "(IZ)Z" } : Jvm.MethodName)) ∈ gx_T := gx_mem (i := 582) (by decide +kernel) (by decide +kernel)
theorem tw_583 : (Jvm.Cond.instanceMethod ({ cls := "TypeLoom$Constructors", name := "mayBeSet", desc := "(IZ)Z" } : Jvm.MethodName)) ∈ gx_T := gx_mem (i := 583) (by decide +kernel) (by decide +kernel)
theorem tw_584 : (Jvm.Cond.selects "TypeLoom$Constructors" ({ cls := "TypeLoom$Constructors", name := "mayBeSet", desc := "(IZ)Z" } : Jvm.MethodName) ({ cls := "TypeLoom$Constructors", name := "mayBeSet", desc := "(IZ)Z" } : Jvm.MethodName)) ∈ gx_T := gx_mem (i := 584) (by decide +kernel) (by decide +kernel)
theorem tw_585 : (Jvm.Cond.code ({ cls := "TypeLoom$Constructors", name := "mayBeSet", desc := "(IZ)Z" } : Jvm.MethodName) prog_2_method_6_code (5 : Nat) (Option.some Jvm.ClassFile.FieldType.boolean)) ∈ gx_T := gx_mem (i := 585) (by decide +kernel) (by decide +kernel)
theorem tw_586 : (Jvm.Cond.methodLink "TypeLoom$Constructors" (35 : Nat) ({ cls := "TypeLoom$Constructors", name := "has", desc := "(I)Z" } : Jvm.MethodName)) ∈ gx_T := gx_mem (i := 586) (by decide +kernel) (by decide +kernel)
theorem tw_587 : (Jvm.Cond.methodLink "TypeLoom" (142 : Nat) ({ cls := "TypeLoom", name := "leaf", desc := "(IIZ)I" } : Jvm.MethodName)) ∈ gx_T := gx_mem (i := 587) (by decide +kernel) (by decide +kernel)
theorem tw_589 : (Jvm.Cond.instanceMethod ({ cls := "TypeLoom", name := "leaf", desc := "(IIZ)I" } : Jvm.MethodName)) ∈ gx_T := gx_mem (i := 589) (by decide +kernel) (by decide +kernel)
theorem tw_590 : (Jvm.Cond.code ({ cls := "TypeLoom", name := "leaf", desc := "(IIZ)I" } : Jvm.MethodName) prog_1_method_9_code (4 : Nat) (Option.some Jvm.ClassFile.FieldType.int)) ∈ gx_T := gx_mem (i := 590) (by decide +kernel) (by decide +kernel)
theorem tw_592 : (Jvm.Cond.instanceMethod ({ cls := "TypeLoom", name := "rigid", desc := "(Z)I" } : Jvm.MethodName)) ∈ gx_T := gx_mem (i := 592) (by decide +kernel) (by decide +kernel)
theorem tw_593 : (Jvm.Cond.selects "TypeLoom" ({ cls := "TypeLoom", name := "rigid", desc := "(Z)I" } : Jvm.MethodName) ({ cls := "TypeLoom", name := "rigid", desc := "(Z)I" } : Jvm.MethodName)) ∈ gx_T := gx_mem (i := 593) (by decide +kernel) (by decide +kernel)
theorem tw_594 : (Jvm.Cond.code ({ cls := "TypeLoom", name := "rigid", desc := "(Z)I" } : Jvm.MethodName) prog_1_method_8_code (2 : Nat) (Option.some Jvm.ClassFile.FieldType.int)) ∈ gx_T := gx_mem (i := 594) (by decide +kernel) (by decide +kernel)
theorem tw_596 : (Jvm.Cond.instanceMethod ({ cls := "TypeLoom", name := "level", desc := "(I)I" } : Jvm.MethodName)) ∈ gx_T := gx_mem (i := 596) (by decide +kernel) (by decide +kernel)
theorem tw_597 : (Jvm.Cond.selects "TypeLoom" ({ cls := "TypeLoom", name := "level", desc := "(I)I" } : Jvm.MethodName) ({ cls := "TypeLoom", name := "level", desc := "(I)I" } : Jvm.MethodName)) ∈ gx_T := gx_mem (i := 597) (by decide +kernel) (by decide +kernel)
theorem tw_598 : (Jvm.Cond.code ({ cls := "TypeLoom", name := "level", desc := "(I)I" } : Jvm.MethodName) prog_1_method_10_code (3 : Nat) (Option.some Jvm.ClassFile.FieldType.int)) ∈ gx_T := gx_mem (i := 598) (by decide +kernel) (by decide +kernel)
theorem tw_600 : (Jvm.Cond.instanceMethod ({ cls := "TypeLoom", name := "unify", desc := "(II)Z" } : Jvm.MethodName)) ∈ gx_T := gx_mem (i := 600) (by decide +kernel) (by decide +kernel)
theorem tw_601 : (Jvm.Cond.selects "TypeLoom" ({ cls := "TypeLoom", name := "unify", desc := "(II)Z" } : Jvm.MethodName) ({ cls := "TypeLoom", name := "unify", desc := "(II)Z" } : Jvm.MethodName)) ∈ gx_T := gx_mem (i := 601) (by decide +kernel) (by decide +kernel)
theorem tw_602 : (Jvm.Cond.code ({ cls := "TypeLoom", name := "unify", desc := "(II)Z" } : Jvm.MethodName) prog_1_method_11_code (3 : Nat) (Option.some Jvm.ClassFile.FieldType.boolean)) ∈ gx_T := gx_mem (i := 602) (by decide +kernel) (by decide +kernel)
theorem tw_735 : (Jvm.Cond.instanceMethod ({ cls := "TypeLoom", name := "same", desc := "(IJIJ)Z" } : Jvm.MethodName)) ∈ gx_T := gx_mem (i := 735) (by decide +kernel) (by decide +kernel)
theorem tw_736 : (Jvm.Cond.selects "TypeLoom" ({ cls := "TypeLoom", name := "same", desc := "(IJIJ)Z" } : Jvm.MethodName) ({ cls := "TypeLoom", name := "same", desc := "(IJIJ)Z" } : Jvm.MethodName)) ∈ gx_T := gx_mem (i := 736) (by decide +kernel) (by decide +kernel)
theorem tw_737 : (Jvm.Cond.code ({ cls := "TypeLoom", name := "same", desc := "(IJIJ)Z" } : Jvm.MethodName) prog_1_method_12_code (9 : Nat) (Option.some Jvm.ClassFile.FieldType.boolean)) ∈ gx_T := gx_mem (i := 737) (by decide +kernel) (by decide +kernel)
theorem tw_738 : (Jvm.Cond.methodLink "TypeLoom" (149 : Nat) ({ cls := "TypeLoom$Web", name := "follow", desc := "(IJ)I" } : Jvm.MethodName)) ∈ gx_T := gx_mem (i := 738) (by decide +kernel) (by decide +kernel)
theorem tw_739 : (Jvm.Cond.instanceMethod ({ cls := "TypeLoom$Web", name := "follow", desc := "(IJ)I" } : Jvm.MethodName)) ∈ gx_T := gx_mem (i := 739) (by decide +kernel) (by decide +kernel)
theorem tw_740 : (Jvm.Cond.selects "TypeLoom$Web" ({ cls := "TypeLoom$Web", name := "follow", desc := "(IJ)I" } : Jvm.MethodName) ({ cls := "TypeLoom$Web", name := "follow", desc := "(IJ)I" } : Jvm.MethodName)) ∈ gx_T := gx_mem (i := 740) (by decide +kernel) (by decide +kernel)
theorem tw_741 : (Jvm.Cond.code ({ cls := "TypeLoom$Web", name := "follow", desc := "(IJ)I" } : Jvm.MethodName) prog_9_method_17_code (8 : Nat) (Option.some Jvm.ClassFile.FieldType.int)) ∈ gx_T := gx_mem (i := 741) (by decide +kernel) (by decide +kernel)
theorem tw_742 : (Jvm.Cond.methodLink "TypeLoom$Web" (93 : Nat) ({ cls := "TypeLoom$Web", name := "isType", desc := "(I)Z" } : Jvm.MethodName)) ∈ gx_T := gx_mem (i := 742) (by decide +kernel) (by decide +kernel)
theorem tw_743 : (Jvm.Cond.constantLong "TypeLoom$Web" (96 : Nat) (255 : Int64)) ∈ gx_T := gx_mem (i := 743) (by decide +kernel) (by decide +kernel)
theorem tw_785 : (Jvm.Cond.instanceMethod ({ cls := "TypeLoom", name := "look", desc := "(IJI)I" } : Jvm.MethodName)) ∈ gx_T := gx_mem (i := 785) (by decide +kernel) (by decide +kernel)
theorem tw_786 : (Jvm.Cond.selects "TypeLoom" ({ cls := "TypeLoom", name := "look", desc := "(IJI)I" } : Jvm.MethodName) ({ cls := "TypeLoom", name := "look", desc := "(IJI)I" } : Jvm.MethodName)) ∈ gx_T := gx_mem (i := 786) (by decide +kernel) (by decide +kernel)
theorem tw_787 : (Jvm.Cond.code ({ cls := "TypeLoom", name := "look", desc := "(IJI)I" } : Jvm.MethodName) prog_1_method_13_code (7 : Nat) (Option.some Jvm.ClassFile.FieldType.int)) ∈ gx_T := gx_mem (i := 787) (by decide +kernel) (by decide +kernel)
theorem tw_806 : (Jvm.Cond.instanceMethod ({ cls := "TypeLoom", name := "label", desc := "(IJI)I" } : Jvm.MethodName)) ∈ gx_T := gx_mem (i := 806) (by decide +kernel) (by decide +kernel)
theorem tw_807 : (Jvm.Cond.selects "TypeLoom" ({ cls := "TypeLoom", name := "label", desc := "(IJI)I" } : Jvm.MethodName) ({ cls := "TypeLoom", name := "label", desc := "(IJI)I" } : Jvm.MethodName)) ∈ gx_T := gx_mem (i := 807) (by decide +kernel) (by decide +kernel)
theorem tw_808 : (Jvm.Cond.code ({ cls := "TypeLoom", name := "label", desc := "(IJI)I" } : Jvm.MethodName) prog_1_method_15_code (7 : Nat) (Option.some Jvm.ClassFile.FieldType.int)) ∈ gx_T := gx_mem (i := 808) (by decide +kernel) (by decide +kernel)
theorem tw_811 : (Jvm.Cond.instanceMethod ({ cls := "TypeLoom", name := "scheme", desc := "(I)I" } : Jvm.MethodName)) ∈ gx_T := gx_mem (i := 811) (by decide +kernel) (by decide +kernel)
theorem tw_812 : (Jvm.Cond.selects "TypeLoom" ({ cls := "TypeLoom", name := "scheme", desc := "(I)I" } : Jvm.MethodName) ({ cls := "TypeLoom", name := "scheme", desc := "(I)I" } : Jvm.MethodName)) ∈ gx_T := gx_mem (i := 812) (by decide +kernel) (by decide +kernel)
theorem tw_813 : (Jvm.Cond.code ({ cls := "TypeLoom", name := "scheme", desc := "(I)I" } : Jvm.MethodName) prog_1_method_16_code (3 : Nat) (Option.some Jvm.ClassFile.FieldType.int)) ∈ gx_T := gx_mem (i := 813) (by decide +kernel) (by decide +kernel)
theorem tw_819 : (Jvm.Cond.methodLink "TypeLoom$Schemes" (75 : Nat) ({ cls := "TypeLoom$Ints", name := "at", desc := "(I)I" } : Jvm.MethodName)) ∈ gx_T := gx_mem (i := 819) (by decide +kernel) (by decide +kernel)
theorem tw_838 : (Jvm.Cond.instanceMethod ({ cls := "TypeLoom", name := "quantified", desc := "(II)I" } : Jvm.MethodName)) ∈ gx_T := gx_mem (i := 838) (by decide +kernel) (by decide +kernel)
theorem tw_839 : (Jvm.Cond.selects "TypeLoom" ({ cls := "TypeLoom", name := "quantified", desc := "(II)I" } : Jvm.MethodName) ({ cls := "TypeLoom", name := "quantified", desc := "(II)I" } : Jvm.MethodName)) ∈ gx_T := gx_mem (i := 839) (by decide +kernel) (by decide +kernel)
theorem tw_840 : (Jvm.Cond.code ({ cls := "TypeLoom", name := "quantified", desc := "(II)I" } : Jvm.MethodName) prog_1_method_17_code (3 : Nat) (Option.some Jvm.ClassFile.FieldType.int)) ∈ gx_T := gx_mem (i := 840) (by decide +kernel) (by decide +kernel)
theorem tw_841 : (Jvm.Cond.methodLink "TypeLoom" (190 : Nat) ({ cls := "TypeLoom$Schemes", name := "has", desc := "(I)Z" } : Jvm.MethodName)) ∈ gx_T := gx_mem (i := 841) (by decide +kernel) (by decide +kernel)
theorem tw_842 : (Jvm.Cond.instanceMethod ({ cls := "TypeLoom$Schemes", name := "has", desc := "(I)Z" } : Jvm.MethodName)) ∈ gx_T := gx_mem (i := 842) (by decide +kernel) (by decide +kernel)
theorem tw_843 : (Jvm.Cond.selects "TypeLoom$Schemes" ({ cls := "TypeLoom$Schemes", name := "has", desc := "(I)Z" } : Jvm.MethodName) ({ cls := "TypeLoom$Schemes", name := "has", desc := "(I)Z" } : Jvm.MethodName)) ∈ gx_T := gx_mem (i := 843) (by decide +kernel) (by decide +kernel)
theorem tw_844 : (Jvm.Cond.code ({ cls := "TypeLoom$Schemes", name := "has", desc := "(I)Z" } : Jvm.MethodName) prog_5_method_2_code (2 : Nat) (Option.some Jvm.ClassFile.FieldType.boolean)) ∈ gx_T := gx_mem (i := 844) (by decide +kernel) (by decide +kernel)
theorem tw_850 : (Jvm.Cond.instanceMethod ({ cls := "TypeLoom", name := "instance", desc := "(I)I" } : Jvm.MethodName)) ∈ gx_T := gx_mem (i := 850) (by decide +kernel) (by decide +kernel)
theorem tw_851 : (Jvm.Cond.selects "TypeLoom" ({ cls := "TypeLoom", name := "instance", desc := "(I)I" } : Jvm.MethodName) ({ cls := "TypeLoom", name := "instance", desc := "(I)I" } : Jvm.MethodName)) ∈ gx_T := gx_mem (i := 851) (by decide +kernel) (by decide +kernel)
theorem tw_852 : (Jvm.Cond.code ({ cls := "TypeLoom", name := "instance", desc := "(I)I" } : Jvm.MethodName) prog_1_method_18_code (2 : Nat) (Option.some Jvm.ClassFile.FieldType.int)) ∈ gx_T := gx_mem (i := 852) (by decide +kernel) (by decide +kernel)
theorem tw_866 : (Jvm.Cond.instanceMethod ({ cls := "TypeLoom", name := "alike", desc := "(II)Z" } : Jvm.MethodName)) ∈ gx_T := gx_mem (i := 866) (by decide +kernel) (by decide +kernel)
theorem tw_867 : (Jvm.Cond.selects "TypeLoom" ({ cls := "TypeLoom", name := "alike", desc := "(II)Z" } : Jvm.MethodName) ({ cls := "TypeLoom", name := "alike", desc := "(II)Z" } : Jvm.MethodName)) ∈ gx_T := gx_mem (i := 867) (by decide +kernel) (by decide +kernel)
theorem tw_868 : (Jvm.Cond.code ({ cls := "TypeLoom", name := "alike", desc := "(II)Z" } : Jvm.MethodName) prog_1_method_19_code (3 : Nat) (Option.some Jvm.ClassFile.FieldType.boolean)) ∈ gx_T := gx_mem (i := 868) (by decide +kernel) (by decide +kernel)
theorem tw_878 : (Jvm.Cond.instanceMethod ({ cls := "TypeLoom", name := "clear", desc := "(II)Z" } : Jvm.MethodName)) ∈ gx_T := gx_mem (i := 878) (by decide +kernel) (by decide +kernel)
theorem tw_879 : (Jvm.Cond.selects "TypeLoom" ({ cls := "TypeLoom", name := "clear", desc := "(II)Z" } : Jvm.MethodName) ({ cls := "TypeLoom", name := "clear", desc := "(II)Z" } : Jvm.MethodName)) ∈ gx_T := gx_mem (i := 879) (by decide +kernel) (by decide +kernel)
theorem tw_880 : (Jvm.Cond.code ({ cls := "TypeLoom", name := "clear", desc := "(II)Z" } : Jvm.MethodName) prog_1_method_20_code (3 : Nat) (Option.some Jvm.ClassFile.FieldType.boolean)) ∈ gx_T := gx_mem (i := 880) (by decide +kernel) (by decide +kernel)
theorem tw_881 : (Jvm.Cond.methodLink "TypeLoom" (207 : Nat) ({ cls := "TypeLoom$Schemes", name := "canKeep", desc := "(II)Z" } : Jvm.MethodName)) ∈ gx_T := gx_mem (i := 881) (by decide +kernel) (by decide +kernel)
theorem tw_882 : (Jvm.Cond.instanceMethod ({ cls := "TypeLoom$Schemes", name := "canKeep", desc := "(II)Z" } : Jvm.MethodName)) ∈ gx_T := gx_mem (i := 882) (by decide +kernel) (by decide +kernel)
theorem tw_883 : (Jvm.Cond.selects "TypeLoom$Schemes" ({ cls := "TypeLoom$Schemes", name := "canKeep", desc := "(II)Z" } : Jvm.MethodName) ({ cls := "TypeLoom$Schemes", name := "canKeep", desc := "(II)Z" } : Jvm.MethodName)) ∈ gx_T := gx_mem (i := 883) (by decide +kernel) (by decide +kernel)
theorem tw_884 : (Jvm.Cond.code ({ cls := "TypeLoom$Schemes", name := "canKeep", desc := "(II)Z" } : Jvm.MethodName) prog_5_method_12_code (4 : Nat) (Option.some Jvm.ClassFile.FieldType.boolean)) ∈ gx_T := gx_mem (i := 884) (by decide +kernel) (by decide +kernel)
theorem tw_886 : (Jvm.Cond.methodLink "TypeLoom" (210 : Nat) ({ cls := "TypeLoom$Schemes", name := "cutTo", desc := "(I)V" } : Jvm.MethodName)) ∈ gx_T := gx_mem (i := 886) (by decide +kernel) (by decide +kernel)
theorem tw_887 : (Jvm.Cond.instanceMethod ({ cls := "TypeLoom$Schemes", name := "cutTo", desc := "(I)V" } : Jvm.MethodName)) ∈ gx_T := gx_mem (i := 887) (by decide +kernel) (by decide +kernel)
theorem tw_888 : (Jvm.Cond.selects "TypeLoom$Schemes" ({ cls := "TypeLoom$Schemes", name := "cutTo", desc := "(I)V" } : Jvm.MethodName) ({ cls := "TypeLoom$Schemes", name := "cutTo", desc := "(I)V" } : Jvm.MethodName)) ∈ gx_T := gx_mem (i := 888) (by decide +kernel) (by decide +kernel)
theorem tw_889 : (Jvm.Cond.code ({ cls := "TypeLoom$Schemes", name := "cutTo", desc := "(I)V" } : Jvm.MethodName) prog_5_method_13_code (2 : Nat) (Option.none : Option Jvm.ClassFile.FieldType)) ∈ gx_T := gx_mem (i := 889) (by decide +kernel) (by decide +kernel)
theorem tw_890 : (Jvm.Cond.methodLink "TypeLoom" (214 : Nat) ({ cls := "TypeLoom$Web", name := "drop", desc := "()V" } : Jvm.MethodName)) ∈ gx_T := gx_mem (i := 890) (by decide +kernel) (by decide +kernel)
theorem tw_891 : (Jvm.Cond.instanceMethod ({ cls := "TypeLoom$Web", name := "drop", desc := "()V" } : Jvm.MethodName)) ∈ gx_T := gx_mem (i := 891) (by decide +kernel) (by decide +kernel)
theorem tw_892 : (Jvm.Cond.selects "TypeLoom$Web" ({ cls := "TypeLoom$Web", name := "drop", desc := "()V" } : Jvm.MethodName) ({ cls := "TypeLoom$Web", name := "drop", desc := "()V" } : Jvm.MethodName)) ∈ gx_T := gx_mem (i := 892) (by decide +kernel) (by decide +kernel)
theorem tw_893 : (Jvm.Cond.code ({ cls := "TypeLoom$Web", name := "drop", desc := "()V" } : Jvm.MethodName) prog_9_method_2_code (1 : Nat) (Option.none : Option Jvm.ClassFile.FieldType)) ∈ gx_T := gx_mem (i := 893) (by decide +kernel) (by decide +kernel)
theorem tw_895 : (Jvm.Cond.instanceMethod ({ cls := "TypeLoom", name := "count", desc := "(I)I" } : Jvm.MethodName)) ∈ gx_T := gx_mem (i := 895) (by decide +kernel) (by decide +kernel)
theorem tw_896 : (Jvm.Cond.selects "TypeLoom" ({ cls := "TypeLoom", name := "count", desc := "(I)I" } : Jvm.MethodName) ({ cls := "TypeLoom", name := "count", desc := "(I)I" } : Jvm.MethodName)) ∈ gx_T := gx_mem (i := 896) (by decide +kernel) (by decide +kernel)
theorem tw_897 : (Jvm.Cond.code ({ cls := "TypeLoom", name := "count", desc := "(I)I" } : Jvm.MethodName) prog_1_method_21_code (2 : Nat) (Option.some Jvm.ClassFile.FieldType.int)) ∈ gx_T := gx_mem (i := 897) (by decide +kernel) (by decide +kernel)
end
section
theorem dw_Ints_at_0 : decode prog_3_method_2_code 0 = .ok (.iload_n 1, 1) := by decide +kernel
theorem dw_Ints_at_1 : decode prog_3_method_2_code 1 = .ok (.ifCond .lt 21, 3) := by decide +kernel
theorem dw_Ints_at_22 : decode prog_3_method_2_code 22 = .ok (.iconst 0, 1) := by decide +kernel
theorem dw_Ints_at_23 : decode prog_3_method_2_code 23 = .ok (.ireturn, 1) := by decide +kernel
theorem dw_Ints_at_4 : decode prog_3_method_2_code 4 = .ok (.iload_n 1, 1) := by decide +kernel
theorem dw_Ints_at_5 : decode prog_3_method_2_code 5 = .ok (.aload_n 0, 1) := by decide +kernel
theorem dw_Ints_at_6 : decode prog_3_method_2_code 6 = .ok (.getfield 9, 3) := by decide +kernel
theorem dw_Ints_at_9 : decode prog_3_method_2_code 9 = .ok (.arraylength, 1) := by decide +kernel
theorem dw_Ints_at_10 : decode prog_3_method_2_code 10 = .ok (.if_icmp .ge 12, 3) := by decide +kernel
theorem dw_Ints_at_13 : decode prog_3_method_2_code 13 = .ok (.aload_n 0, 1) := by decide +kernel
theorem dw_Ints_at_14 : decode prog_3_method_2_code 14 = .ok (.getfield 9, 3) := by decide +kernel
theorem dw_Ints_at_17 : decode prog_3_method_2_code 17 = .ok (.iload_n 1, 1) := by decide +kernel
theorem dw_Ints_at_18 : decode prog_3_method_2_code 18 = .ok (.iaload, 1) := by decide +kernel
theorem dw_Ints_at_19 : decode prog_3_method_2_code 19 = .ok (.goto 4, 3) := by decide +kernel
theorem dw_Ints_put_0 : decode prog_3_method_3_code 0 = .ok (.iload_n 1, 1) := by decide +kernel
theorem dw_Ints_put_1 : decode prog_3_method_3_code 1 = .ok (.ifCond .lt 11, 3) := by decide +kernel
theorem dw_Ints_put_12 : decode prog_3_method_3_code 12 = .ok (.return_, 1) := by decide +kernel
theorem dw_Ints_put_4 : decode prog_3_method_3_code 4 = .ok (.iload_n 1, 1) := by decide +kernel
theorem dw_Ints_put_5 : decode prog_3_method_3_code 5 = .ok (.aload_n 0, 1) := by decide +kernel
theorem dw_Ints_put_6 : decode prog_3_method_3_code 6 = .ok (.getfield 13, 3) := by decide +kernel
theorem dw_Ints_put_9 : decode prog_3_method_3_code 9 = .ok (.if_icmp .lt 4, 3) := by decide +kernel
theorem dw_Ints_put_13 : decode prog_3_method_3_code 13 = .ok (.iload_n 1, 1) := by decide +kernel
theorem dw_Ints_put_14 : decode prog_3_method_3_code 14 = .ok (.aload_n 0, 1) := by decide +kernel
theorem dw_Ints_put_15 : decode prog_3_method_3_code 15 = .ok (.getfield 9, 3) := by decide +kernel
theorem dw_Ints_put_18 : decode prog_3_method_3_code 18 = .ok (.arraylength, 1) := by decide +kernel
theorem dw_Ints_put_19 : decode prog_3_method_3_code 19 = .ok (.if_icmp .lt 34, 3) := by decide +kernel
theorem dw_Ints_put_53 : decode prog_3_method_3_code 53 = .ok (.aload_n 0, 1) := by decide +kernel
theorem dw_Ints_put_54 : decode prog_3_method_3_code 54 = .ok (.getfield 9, 3) := by decide +kernel
theorem dw_Ints_put_57 : decode prog_3_method_3_code 57 = .ok (.iload_n 1, 1) := by decide +kernel
theorem dw_Ints_put_58 : decode prog_3_method_3_code 58 = .ok (.iload_n 2, 1) := by decide +kernel
theorem dw_Ints_put_59 : decode prog_3_method_3_code 59 = .ok (.iastore, 1) := by decide +kernel
theorem dw_Ints_put_60 : decode prog_3_method_3_code 60 = .ok (.return_, 1) := by decide +kernel
theorem dw_Constructors_add_0 : decode prog_2_method_2_code 0 = .ok (.aload_n 0, 1) := by decide +kernel
theorem dw_Constructors_add_1 : decode prog_2_method_2_code 1 = .ok (.getfield 23, 3) := by decide +kernel
theorem dw_Constructors_add_4 : decode prog_2_method_2_code 4 = .ok (.sipush 2048, 3) := by decide +kernel
theorem dw_Constructors_add_7 : decode prog_2_method_2_code 7 = .ok (.if_icmp .lt 6, 3) := by decide +kernel
theorem dw_Constructors_add_13 : decode prog_2_method_2_code 13 = .ok (.aload_n 0, 1) := by decide +kernel
theorem dw_Constructors_add_14 : decode prog_2_method_2_code 14 = .ok (.getfield 14, 3) := by decide +kernel
theorem dw_Constructors_add_17 : decode prog_2_method_2_code 17 = .ok (.aload_n 0, 1) := by decide +kernel
theorem dw_Constructors_add_18 : decode prog_2_method_2_code 18 = .ok (.getfield 23, 3) := by decide +kernel
theorem dw_Constructors_add_21 : decode prog_2_method_2_code 21 = .ok (.iload_n 1, 1) := by decide +kernel
theorem dw_Constructors_add_22 : decode prog_2_method_2_code 22 = .ok (.invokevirtual 27, 3) := by decide +kernel
theorem dw_Constructors_add_25 : decode prog_2_method_2_code 25 = .ok (.aload_n 0, 1) := by decide +kernel
theorem dw_Constructors_add_26 : decode prog_2_method_2_code 26 = .ok (.getfield 20, 3) := by decide +kernel
theorem dw_Constructors_add_29 : decode prog_2_method_2_code 29 = .ok (.aload_n 0, 1) := by decide +kernel
theorem dw_Constructors_add_30 : decode prog_2_method_2_code 30 = .ok (.getfield 23, 3) := by decide +kernel
theorem dw_Constructors_add_33 : decode prog_2_method_2_code 33 = .ok (.iload_n 2, 1) := by decide +kernel
theorem dw_Constructors_add_34 : decode prog_2_method_2_code 34 = .ok (.invokevirtual 27, 3) := by decide +kernel
theorem dw_Constructors_add_37 : decode prog_2_method_2_code 37 = .ok (.aload_n 0, 1) := by decide +kernel
theorem dw_Constructors_add_38 : decode prog_2_method_2_code 38 = .ok (.dup, 1) := by decide +kernel
theorem dw_Constructors_add_39 : decode prog_2_method_2_code 39 = .ok (.getfield 23, 3) := by decide +kernel
theorem dw_Constructors_add_42 : decode prog_2_method_2_code 42 = .ok (.iconst 1, 1) := by decide +kernel
theorem dw_Constructors_add_43 : decode prog_2_method_2_code 43 = .ok (.iadd, 1) := by decide +kernel
theorem dw_Constructors_add_44 : decode prog_2_method_2_code 44 = .ok (.putfield 23, 3) := by decide +kernel
theorem dw_Constructors_add_47 : decode prog_2_method_2_code 47 = .ok (.aload_n 0, 1) := by decide +kernel
theorem dw_Constructors_add_48 : decode prog_2_method_2_code 48 = .ok (.getfield 23, 3) := by decide +kernel
theorem dw_Constructors_add_51 : decode prog_2_method_2_code 51 = .ok (.iconst 1, 1) := by decide +kernel
theorem dw_Constructors_add_52 : decode prog_2_method_2_code 52 = .ok (.isub, 1) := by decide +kernel
theorem dw_Constructors_add_53 : decode prog_2_method_2_code 53 = .ok (.ireturn, 1) := by decide +kernel
theorem dw_Constructors_add_10 : decode prog_2_method_2_code 10 = .ok (.bipush (-2), 2) := by decide +kernel
theorem dw_Constructors_add_12 : decode prog_2_method_2_code 12 = .ok (.ireturn, 1) := by decide +kernel
theorem dw_Constructors_has_0 : decode prog_2_method_3_code 0 = .ok (.iload_n 1, 1) := by decide +kernel
theorem dw_Constructors_has_1 : decode prog_2_method_3_code 1 = .ok (.ifCond .lt 15, 3) := by decide +kernel
theorem dw_Constructors_has_16 : decode prog_2_method_3_code 16 = .ok (.iconst 0, 1) := by decide +kernel
theorem dw_Constructors_has_17 : decode prog_2_method_3_code 17 = .ok (.ireturn, 1) := by decide +kernel
theorem dw_Constructors_has_4 : decode prog_2_method_3_code 4 = .ok (.iload_n 1, 1) := by decide +kernel
theorem dw_Constructors_has_5 : decode prog_2_method_3_code 5 = .ok (.aload_n 0, 1) := by decide +kernel
theorem dw_Constructors_has_6 : decode prog_2_method_3_code 6 = .ok (.getfield 23, 3) := by decide +kernel
theorem dw_Constructors_has_9 : decode prog_2_method_3_code 9 = .ok (.if_icmp .ge 7, 3) := by decide +kernel
theorem dw_Constructors_has_12 : decode prog_2_method_3_code 12 = .ok (.iconst 1, 1) := by decide +kernel
theorem dw_Constructors_has_13 : decode prog_2_method_3_code 13 = .ok (.goto 4, 3) := by decide +kernel
theorem dw_Constructors_mayBeSet_0 : decode prog_2_method_6_code 0 = .ok (.iconst 0, 1) := by decide +kernel
theorem dw_Constructors_mayBeSet_1 : decode prog_2_method_6_code 1 = .ok (.istore_n 3, 1) := by decide +kernel
theorem dw_Constructors_mayBeSet_2 : decode prog_2_method_6_code 2 = .ok (.iload_n 3, 1) := by decide +kernel
theorem dw_Constructors_mayBeSet_3 : decode prog_2_method_6_code 3 = .ok (.bipush 31, 2) := by decide +kernel
theorem dw_Constructors_mayBeSet_5 : decode prog_2_method_6_code 5 = .ok (.if_icmp .ge 65, 3) := by decide +kernel
theorem dw_Constructors_mayBeSet_70 : decode prog_2_method_6_code 70 = .ok (.iconst 1, 1) := by decide +kernel
theorem dw_Constructors_mayBeSet_71 : decode prog_2_method_6_code 71 = .ok (.ireturn, 1) := by decide +kernel
theorem dw_Constructors_mayBeSet_8 : decode prog_2_method_6_code 8 = .ok (.iload_n 1, 1) := by decide +kernel
theorem dw_Constructors_mayBeSet_9 : decode prog_2_method_6_code 9 = .ok (.iload_n 3, 1) := by decide +kernel
theorem dw_Constructors_mayBeSet_10 : decode prog_2_method_6_code 10 = .ok (.ishr, 1) := by decide +kernel
theorem dw_Constructors_mayBeSet_11 : decode prog_2_method_6_code 11 = .ok (.iconst 1, 1) := by decide +kernel
theorem dw_Constructors_mayBeSet_12 : decode prog_2_method_6_code 12 = .ok (.iand, 1) := by decide +kernel
theorem dw_Constructors_mayBeSet_13 : decode prog_2_method_6_code 13 = .ok (.ifCond .eq 7, 3) := by decide +kernel
theorem dw_Constructors_mayBeSet_21 : decode prog_2_method_6_code 21 = .ok (.istore 4, 2) := by decide +kernel
theorem dw_Constructors_mayBeSet_23 : decode prog_2_method_6_code 23 = .ok (.iload 4, 2) := by decide +kernel
theorem dw_Constructors_mayBeSet_25 : decode prog_2_method_6_code 25 = .ok (.ifCond .eq 39, 3) := by decide +kernel
theorem dw_Constructors_mayBeSet_64 : decode prog_2_method_6_code 64 = .ok (.iinc 3 1, 3) := by decide +kernel
theorem dw_Constructors_mayBeSet_67 : decode prog_2_method_6_code 67 = .ok (.goto (-65), 3) := by decide +kernel
theorem dw_Constructors_mayBeSet_28 : decode prog_2_method_6_code 28 = .ok (.aload_n 0, 1) := by decide +kernel
theorem dw_Constructors_mayBeSet_29 : decode prog_2_method_6_code 29 = .ok (.iload_n 3, 1) := by decide +kernel
theorem dw_Constructors_mayBeSet_30 : decode prog_2_method_6_code 30 = .ok (.invokevirtual 35, 3) := by decide +kernel
theorem dw_Constructors_mayBeSet_33 : decode prog_2_method_6_code 33 = .ok (.ifCond .eq 29, 3) := by decide +kernel
theorem dw_Constructors_mayBeSet_62 : decode prog_2_method_6_code 62 = .ok (.iconst 0, 1) := by decide +kernel
theorem dw_Constructors_mayBeSet_63 : decode prog_2_method_6_code 63 = .ok (.ireturn, 1) := by decide +kernel
theorem dw_Constructors_mayBeSet_36 : decode prog_2_method_6_code 36 = .ok (.aload_n 0, 1) := by decide +kernel
theorem dw_Constructors_mayBeSet_37 : decode prog_2_method_6_code 37 = .ok (.getfield 14, 3) := by decide +kernel
theorem dw_Constructors_mayBeSet_40 : decode prog_2_method_6_code 40 = .ok (.iload_n 3, 1) := by decide +kernel
theorem dw_Constructors_mayBeSet_41 : decode prog_2_method_6_code 41 = .ok (.invokevirtual 31, 3) := by decide +kernel
theorem dw_Constructors_mayBeSet_44 : decode prog_2_method_6_code 44 = .ok (.ifCond .ne 18, 3) := by decide +kernel
theorem dw_Constructors_mayBeSet_47 : decode prog_2_method_6_code 47 = .ok (.iload_n 2, 1) := by decide +kernel
theorem dw_Constructors_mayBeSet_48 : decode prog_2_method_6_code 48 = .ok (.ifCond .eq 16, 3) := by decide +kernel
theorem dw_Constructors_mayBeSet_51 : decode prog_2_method_6_code 51 = .ok (.aload_n 0, 1) := by decide +kernel
theorem dw_Constructors_mayBeSet_52 : decode prog_2_method_6_code 52 = .ok (.getfield 20, 3) := by decide +kernel
theorem dw_Constructors_mayBeSet_55 : decode prog_2_method_6_code 55 = .ok (.iload_n 3, 1) := by decide +kernel
theorem dw_Constructors_mayBeSet_56 : decode prog_2_method_6_code 56 = .ok (.invokevirtual 31, 3) := by decide +kernel
theorem dw_Constructors_mayBeSet_59 : decode prog_2_method_6_code 59 = .ok (.ifCond .ne 5, 3) := by decide +kernel
theorem dw_Constructors_mayBeSet_20 : decode prog_2_method_6_code 20 = .ok (.iconst 0, 1) := by decide +kernel
theorem dw_Constructors_mayBeSet_16 : decode prog_2_method_6_code 16 = .ok (.iconst 1, 1) := by decide +kernel
theorem dw_Constructors_mayBeSet_17 : decode prog_2_method_6_code 17 = .ok (.goto 4, 3) := by decide +kernel
theorem dw_Pushed_drop_0 : decode prog_4_method_4_code 0 = .ok (.aload_n 0, 1) := by decide +kernel
theorem dw_Pushed_drop_1 : decode prog_4_method_4_code 1 = .ok (.iconst 0, 1) := by decide +kernel
theorem dw_Pushed_drop_2 : decode prog_4_method_4_code 2 = .ok (.putfield 23, 3) := by decide +kernel
theorem dw_Pushed_drop_5 : decode prog_4_method_4_code 5 = .ok (.aload_n 0, 1) := by decide +kernel
theorem dw_Pushed_drop_6 : decode prog_4_method_4_code 6 = .ok (.iconst 0, 1) := by decide +kernel
theorem dw_Pushed_drop_7 : decode prog_4_method_4_code 7 = .ok (.putfield 27, 3) := by decide +kernel
theorem dw_Pushed_drop_10 : decode prog_4_method_4_code 10 = .ok (.return_, 1) := by decide +kernel
theorem dw_Web_isType_0 : decode prog_9_method_3_code 0 = .ok (.iload_n 1, 1) := by decide +kernel
theorem dw_Web_isType_1 : decode prog_9_method_3_code 1 = .ok (.ifCond .lt 15, 3) := by decide +kernel
theorem dw_Web_isType_16 : decode prog_9_method_3_code 16 = .ok (.iconst 0, 1) := by decide +kernel
theorem dw_Web_isType_17 : decode prog_9_method_3_code 17 = .ok (.ireturn, 1) := by decide +kernel
theorem dw_Web_isType_4 : decode prog_9_method_3_code 4 = .ok (.iload_n 1, 1) := by decide +kernel
theorem dw_Web_isType_5 : decode prog_9_method_3_code 5 = .ok (.aload_n 0, 1) := by decide +kernel
theorem dw_Web_isType_6 : decode prog_9_method_3_code 6 = .ok (.getfield 61, 3) := by decide +kernel
theorem dw_Web_isType_9 : decode prog_9_method_3_code 9 = .ok (.if_icmp .ge 7, 3) := by decide +kernel
theorem dw_Web_isType_12 : decode prog_9_method_3_code 12 = .ok (.iconst 1, 1) := by decide +kernel
theorem dw_Web_isType_13 : decode prog_9_method_3_code 13 = .ok (.goto 4, 3) := by decide +kernel
theorem dw_Web_hasRoom_0 : decode prog_9_method_5_code 0 = .ok (.aload_n 0, 1) := by decide +kernel
theorem dw_Web_hasRoom_1 : decode prog_9_method_5_code 1 = .ok (.getfield 61, 3) := by decide +kernel
theorem dw_Web_hasRoom_4 : decode prog_9_method_5_code 4 = .ok (.iload_n 1, 1) := by decide +kernel
theorem dw_Web_hasRoom_5 : decode prog_9_method_5_code 5 = .ok (.iadd, 1) := by decide +kernel
theorem dw_Web_hasRoom_6 : decode prog_9_method_5_code 6 = .ok (.sipush 24576, 3) := by decide +kernel
theorem dw_Web_hasRoom_9 : decode prog_9_method_5_code 9 = .ok (.if_icmp .gt 18, 3) := by decide +kernel
theorem dw_Web_hasRoom_27 : decode prog_9_method_5_code 27 = .ok (.iconst 0, 1) := by decide +kernel
theorem dw_Web_hasRoom_28 : decode prog_9_method_5_code 28 = .ok (.ireturn, 1) := by decide +kernel
theorem dw_Web_hasRoom_12 : decode prog_9_method_5_code 12 = .ok (.aload_n 0, 1) := by decide +kernel
theorem dw_Web_hasRoom_13 : decode prog_9_method_5_code 13 = .ok (.getfield 64, 3) := by decide +kernel
theorem dw_Web_hasRoom_16 : decode prog_9_method_5_code 16 = .ok (.iload_n 2, 1) := by decide +kernel
theorem dw_Web_hasRoom_17 : decode prog_9_method_5_code 17 = .ok (.iadd, 1) := by decide +kernel
theorem dw_Web_hasRoom_18 : decode prog_9_method_5_code 18 = .ok (.ldc 74, 2) := by decide +kernel
theorem dw_Web_hasRoom_20 : decode prog_9_method_5_code 20 = .ok (.if_icmp .gt 7, 3) := by decide +kernel
theorem dw_Web_hasRoom_23 : decode prog_9_method_5_code 23 = .ok (.iconst 1, 1) := by decide +kernel
theorem dw_Web_hasRoom_24 : decode prog_9_method_5_code 24 = .ok (.goto 4, 3) := by decide +kernel
theorem dw_Web_addNode_0 : decode prog_9_method_6_code 0 = .ok (.aload_n 0, 1) := by decide +kernel
theorem dw_Web_addNode_1 : decode prog_9_method_6_code 1 = .ok (.getfield 54, 3) := by decide +kernel
theorem dw_Web_addNode_4 : decode prog_9_method_6_code 4 = .ok (.istore 5, 2) := by decide +kernel
theorem dw_Web_addNode_6 : decode prog_9_method_6_code 6 = .ok (.aload_n 0, 1) := by decide +kernel
theorem dw_Web_addNode_7 : decode prog_9_method_6_code 7 = .ok (.getfield 14, 3) := by decide +kernel
theorem dw_Web_addNode_10 : decode prog_9_method_6_code 10 = .ok (.iload 5, 2) := by decide +kernel
theorem dw_Web_addNode_12 : decode prog_9_method_6_code 12 = .ok (.iload_n 1, 1) := by decide +kernel
theorem dw_Web_addNode_13 : decode prog_9_method_6_code 13 = .ok (.invokevirtual 75, 3) := by decide +kernel
theorem dw_Web_addNode_16 : decode prog_9_method_6_code 16 = .ok (.aload_n 0, 1) := by decide +kernel
theorem dw_Web_addNode_17 : decode prog_9_method_6_code 17 = .ok (.getfield 20, 3) := by decide +kernel
theorem dw_Web_addNode_20 : decode prog_9_method_6_code 20 = .ok (.iload 5, 2) := by decide +kernel
theorem dw_Web_addNode_22 : decode prog_9_method_6_code 22 = .ok (.iload_n 2, 1) := by decide +kernel
theorem dw_Web_addNode_23 : decode prog_9_method_6_code 23 = .ok (.invokevirtual 75, 3) := by decide +kernel
theorem dw_Web_addNode_26 : decode prog_9_method_6_code 26 = .ok (.aload_n 0, 1) := by decide +kernel
theorem dw_Web_addNode_27 : decode prog_9_method_6_code 27 = .ok (.getfield 23, 3) := by decide +kernel
theorem dw_Web_addNode_30 : decode prog_9_method_6_code 30 = .ok (.iload 5, 2) := by decide +kernel
theorem dw_Web_addNode_32 : decode prog_9_method_6_code 32 = .ok (.iload_n 3, 1) := by decide +kernel
theorem dw_Web_addNode_33 : decode prog_9_method_6_code 33 = .ok (.invokevirtual 75, 3) := by decide +kernel
theorem dw_Web_addNode_36 : decode prog_9_method_6_code 36 = .ok (.aload_n 0, 1) := by decide +kernel
theorem dw_Web_addNode_37 : decode prog_9_method_6_code 37 = .ok (.getfield 26, 3) := by decide +kernel
theorem dw_Web_addNode_40 : decode prog_9_method_6_code 40 = .ok (.iload 5, 2) := by decide +kernel
theorem dw_Web_addNode_42 : decode prog_9_method_6_code 42 = .ok (.iload 4, 2) := by decide +kernel
theorem dw_Web_addNode_44 : decode prog_9_method_6_code 44 = .ok (.invokevirtual 75, 3) := by decide +kernel
theorem dw_Web_addNode_47 : decode prog_9_method_6_code 47 = .ok (.aload_n 0, 1) := by decide +kernel
theorem dw_Web_addNode_48 : decode prog_9_method_6_code 48 = .ok (.getfield 29, 3) := by decide +kernel
theorem dw_Web_addNode_51 : decode prog_9_method_6_code 51 = .ok (.iload 5, 2) := by decide +kernel
theorem dw_Web_addNode_53 : decode prog_9_method_6_code 53 = .ok (.aload_n 0, 1) := by decide +kernel
theorem dw_Web_addNode_54 : decode prog_9_method_6_code 54 = .ok (.getfield 58, 3) := by decide +kernel
theorem dw_Web_addNode_57 : decode prog_9_method_6_code 57 = .ok (.invokevirtual 75, 3) := by decide +kernel
theorem dw_Web_addNode_60 : decode prog_9_method_6_code 60 = .ok (.aload_n 0, 1) := by decide +kernel
theorem dw_Web_addNode_61 : decode prog_9_method_6_code 61 = .ok (.getfield 32, 3) := by decide +kernel
theorem dw_Web_addNode_64 : decode prog_9_method_6_code 64 = .ok (.iload 5, 2) := by decide +kernel
theorem dw_Web_addNode_66 : decode prog_9_method_6_code 66 = .ok (.iconst 0, 1) := by decide +kernel
theorem dw_Web_addNode_67 : decode prog_9_method_6_code 67 = .ok (.invokevirtual 75, 3) := by decide +kernel
theorem dw_Web_addNode_70 : decode prog_9_method_6_code 70 = .ok (.aload_n 0, 1) := by decide +kernel
theorem dw_Web_addNode_71 : decode prog_9_method_6_code 71 = .ok (.getfield 35, 3) := by decide +kernel
theorem dw_Web_addNode_74 : decode prog_9_method_6_code 74 = .ok (.iload 5, 2) := by decide +kernel
theorem dw_Web_addNode_76 : decode prog_9_method_6_code 76 = .ok (.iconst (-1), 1) := by decide +kernel
theorem dw_Web_addNode_77 : decode prog_9_method_6_code 77 = .ok (.invokevirtual 75, 3) := by decide +kernel
theorem dw_Web_addNode_80 : decode prog_9_method_6_code 80 = .ok (.aload_n 0, 1) := by decide +kernel
theorem dw_Web_addNode_81 : decode prog_9_method_6_code 81 = .ok (.getfield 38, 3) := by decide +kernel
theorem dw_Web_addNode_84 : decode prog_9_method_6_code 84 = .ok (.iload 5, 2) := by decide +kernel
theorem dw_Web_addNode_86 : decode prog_9_method_6_code 86 = .ok (.iload 5, 2) := by decide +kernel
theorem dw_Web_addNode_88 : decode prog_9_method_6_code 88 = .ok (.invokevirtual 75, 3) := by decide +kernel
theorem dw_Web_addNode_91 : decode prog_9_method_6_code 91 = .ok (.aload_n 0, 1) := by decide +kernel
theorem dw_Web_addNode_92 : decode prog_9_method_6_code 92 = .ok (.getfield 41, 3) := by decide +kernel
theorem dw_Web_addNode_95 : decode prog_9_method_6_code 95 = .ok (.iload 5, 2) := by decide +kernel
theorem dw_Web_addNode_97 : decode prog_9_method_6_code 97 = .ok (.iconst 1, 1) := by decide +kernel
theorem dw_Web_addNode_98 : decode prog_9_method_6_code 98 = .ok (.invokevirtual 75, 3) := by decide +kernel
theorem dw_Web_addNode_101 : decode prog_9_method_6_code 101 = .ok (.aload_n 0, 1) := by decide +kernel
theorem dw_Web_addNode_102 : decode prog_9_method_6_code 102 = .ok (.dup, 1) := by decide +kernel
theorem dw_Web_addNode_103 : decode prog_9_method_6_code 103 = .ok (.getfield 54, 3) := by decide +kernel
theorem dw_Web_addNode_106 : decode prog_9_method_6_code 106 = .ok (.iconst 1, 1) := by decide +kernel
theorem dw_Web_addNode_107 : decode prog_9_method_6_code 107 = .ok (.iadd, 1) := by decide +kernel
theorem dw_Web_addNode_108 : decode prog_9_method_6_code 108 = .ok (.putfield 54, 3) := by decide +kernel
theorem dw_Web_addNode_111 : decode prog_9_method_6_code 111 = .ok (.iload 5, 2) := by decide +kernel
theorem dw_Web_addNode_113 : decode prog_9_method_6_code 113 = .ok (.ireturn, 1) := by decide +kernel
theorem dw_Web_addType_0 : decode prog_9_method_8_code 0 = .ok (.aload_n 0, 1) := by decide +kernel
theorem dw_Web_addType_1 : decode prog_9_method_8_code 1 = .ok (.getfield 51, 3) := by decide +kernel
theorem dw_Web_addType_4 : decode prog_9_method_8_code 4 = .ok (.aload_n 0, 1) := by decide +kernel
theorem dw_Web_addType_5 : decode prog_9_method_8_code 5 = .ok (.getfield 61, 3) := by decide +kernel
theorem dw_Web_addType_8 : decode prog_9_method_8_code 8 = .ok (.iload_n 1, 1) := by decide +kernel
theorem dw_Web_addType_9 : decode prog_9_method_8_code 9 = .ok (.invokevirtual 75, 3) := by decide +kernel
theorem dw_Web_addType_12 : decode prog_9_method_8_code 12 = .ok (.aload_n 0, 1) := by decide +kernel
theorem dw_Web_addType_13 : decode prog_9_method_8_code 13 = .ok (.dup, 1) := by decide +kernel
theorem dw_Web_addType_14 : decode prog_9_method_8_code 14 = .ok (.getfield 64, 3) := by decide +kernel
theorem dw_Web_addType_17 : decode prog_9_method_8_code 17 = .ok (.aload_n 0, 1) := by decide +kernel
theorem dw_Web_addType_18 : decode prog_9_method_8_code 18 = .ok (.getfield 32, 3) := by decide +kernel
theorem dw_Web_addType_21 : decode prog_9_method_8_code 21 = .ok (.iload_n 1, 1) := by decide +kernel
theorem dw_Web_addType_22 : decode prog_9_method_8_code 22 = .ok (.invokevirtual 70, 3) := by decide +kernel
theorem dw_Web_addType_25 : decode prog_9_method_8_code 25 = .ok (.iadd, 1) := by decide +kernel
theorem dw_Web_addType_26 : decode prog_9_method_8_code 26 = .ok (.putfield 64, 3) := by decide +kernel
theorem dw_Web_addType_29 : decode prog_9_method_8_code 29 = .ok (.aload_n 0, 1) := by decide +kernel
theorem dw_Web_addType_30 : decode prog_9_method_8_code 30 = .ok (.dup, 1) := by decide +kernel
theorem dw_Web_addType_31 : decode prog_9_method_8_code 31 = .ok (.getfield 61, 3) := by decide +kernel
theorem dw_Web_addType_34 : decode prog_9_method_8_code 34 = .ok (.iconst 1, 1) := by decide +kernel
theorem dw_Web_addType_35 : decode prog_9_method_8_code 35 = .ok (.iadd, 1) := by decide +kernel
theorem dw_Web_addType_36 : decode prog_9_method_8_code 36 = .ok (.putfield 61, 3) := by decide +kernel
theorem dw_Web_addType_39 : decode prog_9_method_8_code 39 = .ok (.aload_n 0, 1) := by decide +kernel
theorem dw_Web_addType_40 : decode prog_9_method_8_code 40 = .ok (.getfield 61, 3) := by decide +kernel
theorem dw_Web_addType_43 : decode prog_9_method_8_code 43 = .ok (.iconst 1, 1) := by decide +kernel
theorem dw_Web_addType_44 : decode prog_9_method_8_code 44 = .ok (.isub, 1) := by decide +kernel
theorem dw_Web_addType_45 : decode prog_9_method_8_code 45 = .ok (.ireturn, 1) := by decide +kernel
theorem dw_Web_drop_0 : decode prog_9_method_2_code 0 = .ok (.aload_n 0, 1) := by decide +kernel
theorem dw_Web_drop_1 : decode prog_9_method_2_code 1 = .ok (.iconst 0, 1) := by decide +kernel
theorem dw_Web_drop_2 : decode prog_9_method_2_code 2 = .ok (.putfield 54, 3) := by decide +kernel
theorem dw_Web_drop_5 : decode prog_9_method_2_code 5 = .ok (.aload_n 0, 1) := by decide +kernel
theorem dw_Web_drop_6 : decode prog_9_method_2_code 6 = .ok (.iconst 0, 1) := by decide +kernel
theorem dw_Web_drop_7 : decode prog_9_method_2_code 7 = .ok (.putfield 58, 3) := by decide +kernel
theorem dw_Web_drop_10 : decode prog_9_method_2_code 10 = .ok (.aload_n 0, 1) := by decide +kernel
theorem dw_Web_drop_11 : decode prog_9_method_2_code 11 = .ok (.iconst 0, 1) := by decide +kernel
theorem dw_Web_drop_12 : decode prog_9_method_2_code 12 = .ok (.putfield 61, 3) := by decide +kernel
theorem dw_Web_drop_15 : decode prog_9_method_2_code 15 = .ok (.aload_n 0, 1) := by decide +kernel
theorem dw_Web_drop_16 : decode prog_9_method_2_code 16 = .ok (.iconst 0, 1) := by decide +kernel
theorem dw_Web_drop_17 : decode prog_9_method_2_code 17 = .ok (.putfield 64, 3) := by decide +kernel
theorem dw_Web_drop_20 : decode prog_9_method_2_code 20 = .ok (.aload_n 0, 1) := by decide +kernel
theorem dw_Web_drop_21 : decode prog_9_method_2_code 21 = .ok (.iconst 0, 1) := by decide +kernel
theorem dw_Web_drop_22 : decode prog_9_method_2_code 22 = .ok (.putfield 67, 3) := by decide +kernel
theorem dw_Web_drop_25 : decode prog_9_method_2_code 25 = .ok (.return_, 1) := by decide +kernel
theorem dw_Web_follow_0 : decode prog_9_method_17_code 0 = .ok (.aload_n 0, 1) := by decide +kernel
theorem dw_Web_follow_1 : decode prog_9_method_17_code 1 = .ok (.iload_n 1, 1) := by decide +kernel
theorem dw_Web_follow_2 : decode prog_9_method_17_code 2 = .ok (.invokevirtual 93, 3) := by decide +kernel
theorem dw_Web_follow_5 : decode prog_9_method_17_code 5 = .ok (.ifCond .eq 18, 3) := by decide +kernel
theorem dw_Web_follow_24 : decode prog_9_method_17_code 24 = .ok (.istore 4, 2) := by decide +kernel
theorem dw_Web_follow_26 : decode prog_9_method_17_code 26 = .ok (.lload_n 2, 1) := by decide +kernel
theorem dw_Web_follow_27 : decode prog_9_method_17_code 27 = .ok (.lstore 5, 2) := by decide +kernel
theorem dw_Web_follow_29 : decode prog_9_method_17_code 29 = .ok (.iconst 0, 1) := by decide +kernel
theorem dw_Web_follow_30 : decode prog_9_method_17_code 30 = .ok (.istore 7, 2) := by decide +kernel
theorem dw_Web_follow_32 : decode prog_9_method_17_code 32 = .ok (.iload 7, 2) := by decide +kernel
theorem dw_Web_follow_34 : decode prog_9_method_17_code 34 = .ok (.bipush 8, 2) := by decide +kernel
theorem dw_Web_follow_36 : decode prog_9_method_17_code 36 = .ok (.if_icmp .ge 54, 3) := by decide +kernel
theorem dw_Web_follow_90 : decode prog_9_method_17_code 90 = .ok (.iload 4, 2) := by decide +kernel
theorem dw_Web_follow_92 : decode prog_9_method_17_code 92 = .ok (.ireturn, 1) := by decide +kernel
theorem dw_Web_follow_39 : decode prog_9_method_17_code 39 = .ok (.iload 4, 2) := by decide +kernel
theorem dw_Web_follow_41 : decode prog_9_method_17_code 41 = .ok (.iconst (-1), 1) := by decide +kernel
theorem dw_Web_follow_42 : decode prog_9_method_17_code 42 = .ok (.if_icmp .eq 48, 3) := by decide +kernel
theorem dw_Web_follow_45 : decode prog_9_method_17_code 45 = .ok (.lload 5, 2) := by decide +kernel
theorem dw_Web_follow_47 : decode prog_9_method_17_code 47 = .ok (.ldc2_w 96, 3) := by decide +kernel
theorem dw_Web_follow_50 : decode prog_9_method_17_code 50 = .ok (.land, 1) := by decide +kernel
theorem dw_Web_follow_51 : decode prog_9_method_17_code 51 = .ok (.lconst 0, 1) := by decide +kernel
theorem dw_Web_follow_52 : decode prog_9_method_17_code 52 = .ok (.lcmp, 1) := by decide +kernel
theorem dw_Web_follow_53 : decode prog_9_method_17_code 53 = .ok (.ifCond .eq 37, 3) := by decide +kernel
theorem dw_Web_follow_56 : decode prog_9_method_17_code 56 = .ok (.aload_n 0, 1) := by decide +kernel
theorem dw_Web_follow_57 : decode prog_9_method_17_code 57 = .ok (.aload_n 0, 1) := by decide +kernel
theorem dw_Web_follow_58 : decode prog_9_method_17_code 58 = .ok (.iload 4, 2) := by decide +kernel
theorem dw_Web_follow_60 : decode prog_9_method_17_code 60 = .ok (.lload 5, 2) := by decide +kernel
theorem dw_Web_follow_62 : decode prog_9_method_17_code 62 = .ok (.ldc2_w 96, 3) := by decide +kernel
theorem dw_Web_follow_65 : decode prog_9_method_17_code 65 = .ok (.land, 1) := by decide +kernel
theorem dw_Web_follow_66 : decode prog_9_method_17_code 66 = .ok (.l2i, 1) := by decide +kernel
theorem dw_Web_follow_67 : decode prog_9_method_17_code 67 = .ok (.iconst 1, 1) := by decide +kernel
theorem dw_Web_follow_68 : decode prog_9_method_17_code 68 = .ok (.isub, 1) := by decide +kernel
theorem dw_Web_follow_69 : decode prog_9_method_17_code 69 = .ok (.invokevirtual 98, 3) := by decide +kernel
theorem dw_Web_follow_23 : decode prog_9_method_17_code 23 = .ok (.iconst (-1), 1) := by decide +kernel
theorem dw_Web_follow_8 : decode prog_9_method_17_code 8 = .ok (.aload_n 0, 1) := by decide +kernel
theorem dw_Web_follow_9 : decode prog_9_method_17_code 9 = .ok (.aload_n 0, 1) := by decide +kernel
theorem dw_Web_follow_10 : decode prog_9_method_17_code 10 = .ok (.getfield 51, 3) := by decide +kernel
theorem dw_Web_follow_13 : decode prog_9_method_17_code 13 = .ok (.iload_n 1, 1) := by decide +kernel
theorem dw_Web_follow_14 : decode prog_9_method_17_code 14 = .ok (.invokevirtual 70, 3) := by decide +kernel
theorem dw_Web_follow_17 : decode prog_9_method_17_code 17 = .ok (.invokevirtual 83, 3) := by decide +kernel
theorem dw_Schemes_has_0 : decode prog_5_method_2_code 0 = .ok (.iload_n 1, 1) := by decide +kernel
theorem dw_Schemes_has_1 : decode prog_5_method_2_code 1 = .ok (.ifCond .lt 15, 3) := by decide +kernel
theorem dw_Schemes_has_16 : decode prog_5_method_2_code 16 = .ok (.iconst 0, 1) := by decide +kernel
theorem dw_Schemes_has_17 : decode prog_5_method_2_code 17 = .ok (.ireturn, 1) := by decide +kernel
theorem dw_Schemes_has_4 : decode prog_5_method_2_code 4 = .ok (.iload_n 1, 1) := by decide +kernel
theorem dw_Schemes_has_5 : decode prog_5_method_2_code 5 = .ok (.aload_n 0, 1) := by decide +kernel
theorem dw_Schemes_has_6 : decode prog_5_method_2_code 6 = .ok (.getfield 57, 3) := by decide +kernel
theorem dw_Schemes_has_9 : decode prog_5_method_2_code 9 = .ok (.if_icmp .ge 7, 3) := by decide +kernel
theorem dw_Schemes_has_12 : decode prog_5_method_2_code 12 = .ok (.iconst 1, 1) := by decide +kernel
theorem dw_Schemes_has_13 : decode prog_5_method_2_code 13 = .ok (.goto 4, 3) := by decide +kernel
theorem dw_Schemes_canKeep_0 : decode prog_5_method_12_code 0 = .ok (.iload_n 1, 1) := by decide +kernel
theorem dw_Schemes_canKeep_1 : decode prog_5_method_12_code 1 = .ok (.ifCond .lt 11, 3) := by decide +kernel
theorem dw_Schemes_canKeep_12 : decode prog_5_method_12_code 12 = .ok (.iconst 0, 1) := by decide +kernel
theorem dw_Schemes_canKeep_13 : decode prog_5_method_12_code 13 = .ok (.ireturn, 1) := by decide +kernel
theorem dw_Schemes_canKeep_4 : decode prog_5_method_12_code 4 = .ok (.iload_n 1, 1) := by decide +kernel
theorem dw_Schemes_canKeep_5 : decode prog_5_method_12_code 5 = .ok (.aload_n 0, 1) := by decide +kernel
theorem dw_Schemes_canKeep_6 : decode prog_5_method_12_code 6 = .ok (.getfield 57, 3) := by decide +kernel
theorem dw_Schemes_canKeep_9 : decode prog_5_method_12_code 9 = .ok (.if_icmp .le 5, 3) := by decide +kernel
theorem dw_Schemes_canKeep_14 : decode prog_5_method_12_code 14 = .ok (.iconst 0, 1) := by decide +kernel
theorem dw_Schemes_canKeep_15 : decode prog_5_method_12_code 15 = .ok (.istore_n 3, 1) := by decide +kernel
theorem dw_Schemes_canKeep_37 : decode prog_5_method_12_code 37 = .ok (.iconst 0, 1) := by decide +kernel
theorem dw_Schemes_canKeep_38 : decode prog_5_method_12_code 38 = .ok (.istore_n 3, 1) := by decide +kernel
theorem dw_Schemes_canKeep_39 : decode prog_5_method_12_code 39 = .ok (.iload_n 3, 1) := by decide +kernel
theorem dw_Schemes_canKeep_40 : decode prog_5_method_12_code 40 = .ok (.aload_n 0, 1) := by decide +kernel
theorem dw_Schemes_canKeep_41 : decode prog_5_method_12_code 41 = .ok (.getfield 36, 3) := by decide +kernel
theorem dw_Schemes_canKeep_44 : decode prog_5_method_12_code 44 = .ok (.iload_n 1, 1) := by decide +kernel
theorem dw_Schemes_canKeep_45 : decode prog_5_method_12_code 45 = .ok (.invokevirtual 75, 3) := by decide +kernel
theorem dw_Schemes_canKeep_48 : decode prog_5_method_12_code 48 = .ok (.if_icmp .ge 35, 3) := by decide +kernel
theorem dw_Schemes_canKeep_83 : decode prog_5_method_12_code 83 = .ok (.iconst 1, 1) := by decide +kernel
theorem dw_Schemes_canKeep_84 : decode prog_5_method_12_code 84 = .ok (.ireturn, 1) := by decide +kernel
theorem dw_Schemes_canKeep_51 : decode prog_5_method_12_code 51 = .ok (.aload_n 0, 1) := by decide +kernel
theorem dw_Schemes_canKeep_52 : decode prog_5_method_12_code 52 = .ok (.getfield 14, 3) := by decide +kernel
theorem dw_Schemes_canKeep_55 : decode prog_5_method_12_code 55 = .ok (.iload_n 3, 1) := by decide +kernel
theorem dw_Schemes_canKeep_56 : decode prog_5_method_12_code 56 = .ok (.invokevirtual 75, 3) := by decide +kernel
theorem dw_Schemes_canKeep_59 : decode prog_5_method_12_code 59 = .ok (.iconst 2, 1) := by decide +kernel
theorem dw_Schemes_canKeep_60 : decode prog_5_method_12_code 60 = .ok (.if_icmp .ne 17, 3) := by decide +kernel
theorem dw_Schemes_canKeep_77 : decode prog_5_method_12_code 77 = .ok (.iinc 3 1, 3) := by decide +kernel
theorem dw_Schemes_canKeep_80 : decode prog_5_method_12_code 80 = .ok (.goto (-41), 3) := by decide +kernel
theorem dw_Schemes_canKeep_63 : decode prog_5_method_12_code 63 = .ok (.aload_n 0, 1) := by decide +kernel
theorem dw_Schemes_canKeep_64 : decode prog_5_method_12_code 64 = .ok (.getfield 20, 3) := by decide +kernel
theorem dw_Schemes_canKeep_67 : decode prog_5_method_12_code 67 = .ok (.iload_n 3, 1) := by decide +kernel
theorem dw_Schemes_canKeep_68 : decode prog_5_method_12_code 68 = .ok (.invokevirtual 75, 3) := by decide +kernel
theorem dw_Schemes_canKeep_71 : decode prog_5_method_12_code 71 = .ok (.iload_n 2, 1) := by decide +kernel
theorem dw_Schemes_canKeep_72 : decode prog_5_method_12_code 72 = .ok (.if_icmp .lt 5, 3) := by decide +kernel
theorem dw_Schemes_canKeep_75 : decode prog_5_method_12_code 75 = .ok (.iconst 0, 1) := by decide +kernel
theorem dw_Schemes_canKeep_76 : decode prog_5_method_12_code 76 = .ok (.ireturn, 1) := by decide +kernel
theorem dw_Schemes_canKeep_16 : decode prog_5_method_12_code 16 = .ok (.iload_n 3, 1) := by decide +kernel
theorem dw_Schemes_canKeep_17 : decode prog_5_method_12_code 17 = .ok (.iload_n 1, 1) := by decide +kernel
theorem dw_Schemes_canKeep_18 : decode prog_5_method_12_code 18 = .ok (.if_icmp .ge 19, 3) := by decide +kernel
theorem dw_Schemes_canKeep_21 : decode prog_5_method_12_code 21 = .ok (.aload_n 0, 1) := by decide +kernel
theorem dw_Schemes_canKeep_22 : decode prog_5_method_12_code 22 = .ok (.iload_n 3, 1) := by decide +kernel
theorem dw_Schemes_canKeep_23 : decode prog_5_method_12_code 23 = .ok (.invokevirtual 144, 3) := by decide +kernel
theorem dw_Schemes_cutTo_0 : decode prog_5_method_13_code 0 = .ok (.aload_n 0, 1) := by decide +kernel
theorem dw_Schemes_cutTo_1 : decode prog_5_method_13_code 1 = .ok (.iload_n 1, 1) := by decide +kernel
theorem dw_Schemes_cutTo_2 : decode prog_5_method_13_code 2 = .ok (.putfield 57, 3) := by decide +kernel
theorem dw_Schemes_cutTo_5 : decode prog_5_method_13_code 5 = .ok (.aload_n 0, 1) := by decide +kernel
theorem dw_Schemes_cutTo_6 : decode prog_5_method_13_code 6 = .ok (.aload_n 0, 1) := by decide +kernel
theorem dw_Schemes_cutTo_7 : decode prog_5_method_13_code 7 = .ok (.getfield 36, 3) := by decide +kernel
theorem dw_Schemes_cutTo_10 : decode prog_5_method_13_code 10 = .ok (.iload_n 1, 1) := by decide +kernel
theorem dw_Schemes_cutTo_11 : decode prog_5_method_13_code 11 = .ok (.invokevirtual 75, 3) := by decide +kernel
theorem dw_Schemes_cutTo_14 : decode prog_5_method_13_code 14 = .ok (.putfield 61, 3) := by decide +kernel
theorem dw_Schemes_cutTo_17 : decode prog_5_method_13_code 17 = .ok (.aload_n 0, 1) := by decide +kernel
theorem dw_Schemes_cutTo_18 : decode prog_5_method_13_code 18 = .ok (.aload_n 0, 1) := by decide +kernel
theorem dw_Schemes_cutTo_19 : decode prog_5_method_13_code 19 = .ok (.getfield 26, 3) := by decide +kernel
theorem dw_Schemes_cutTo_22 : decode prog_5_method_13_code 22 = .ok (.aload_n 0, 1) := by decide +kernel
theorem dw_Schemes_cutTo_23 : decode prog_5_method_13_code 23 = .ok (.getfield 61, 3) := by decide +kernel
theorem dw_Schemes_cutTo_26 : decode prog_5_method_13_code 26 = .ok (.invokevirtual 75, 3) := by decide +kernel
theorem dw_Schemes_cutTo_29 : decode prog_5_method_13_code 29 = .ok (.putfield 64, 3) := by decide +kernel
theorem dw_Schemes_cutTo_32 : decode prog_5_method_13_code 32 = .ok (.return_, 1) := by decide +kernel
theorem dw_T_leaf_0 : decode prog_1_method_9_code 0 = .ok (.aload_n 0, 1) := by decide +kernel
theorem dw_T_leaf_1 : decode prog_1_method_9_code 1 = .ok (.getfield 26, 3) := by decide +kernel
theorem dw_T_leaf_4 : decode prog_1_method_9_code 4 = .ok (.iconst 1, 1) := by decide +kernel
theorem dw_T_leaf_5 : decode prog_1_method_9_code 5 = .ok (.iconst 0, 1) := by decide +kernel
theorem dw_T_leaf_6 : decode prog_1_method_9_code 6 = .ok (.invokevirtual 98, 3) := by decide +kernel
theorem dw_T_leaf_9 : decode prog_1_method_9_code 9 = .ok (.ifCond .ne 6, 3) := by decide +kernel
theorem dw_T_leaf_15 : decode prog_1_method_9_code 15 = .ok (.aload_n 0, 1) := by decide +kernel
theorem dw_T_leaf_16 : decode prog_1_method_9_code 16 = .ok (.getfield 26, 3) := by decide +kernel
theorem dw_T_leaf_19 : decode prog_1_method_9_code 19 = .ok (.aload_n 0, 1) := by decide +kernel
theorem dw_T_leaf_20 : decode prog_1_method_9_code 20 = .ok (.getfield 26, 3) := by decide +kernel
theorem dw_T_leaf_23 : decode prog_1_method_9_code 23 = .ok (.iload_n 1, 1) := by decide +kernel
theorem dw_T_leaf_24 : decode prog_1_method_9_code 24 = .ok (.iload_n 2, 1) := by decide +kernel
theorem dw_T_leaf_25 : decode prog_1_method_9_code 25 = .ok (.aload_n 0, 1) := by decide +kernel
theorem dw_T_leaf_26 : decode prog_1_method_9_code 26 = .ok (.getfield 66, 3) := by decide +kernel
theorem dw_T_leaf_29 : decode prog_1_method_9_code 29 = .ok (.iload_n 3, 1) := by decide +kernel
theorem dw_T_leaf_30 : decode prog_1_method_9_code 30 = .ok (.ifCond .eq 7, 3) := by decide +kernel
theorem dw_T_leaf_38 : decode prog_1_method_9_code 38 = .ok (.invokevirtual 102, 3) := by decide +kernel
theorem dw_T_leaf_41 : decode prog_1_method_9_code 41 = .ok (.invokevirtual 122, 3) := by decide +kernel
theorem dw_T_leaf_44 : decode prog_1_method_9_code 44 = .ok (.ireturn, 1) := by decide +kernel
theorem dw_T_leaf_37 : decode prog_1_method_9_code 37 = .ok (.iconst 0, 1) := by decide +kernel
theorem dw_T_leaf_33 : decode prog_1_method_9_code 33 = .ok (.iconst 1, 1) := by decide +kernel
theorem dw_T_leaf_34 : decode prog_1_method_9_code 34 = .ok (.goto 4, 3) := by decide +kernel
theorem dw_T_leaf_12 : decode prog_1_method_9_code 12 = .ok (.bipush (-2), 2) := by decide +kernel
theorem dw_T_leaf_14 : decode prog_1_method_9_code 14 = .ok (.ireturn, 1) := by decide +kernel
theorem dw_T_constructor_0 : decode prog_1_method_2_code 0 = .ok (.iload_n 1, 1) := by decide +kernel
theorem dw_T_constructor_1 : decode prog_1_method_2_code 1 = .ok (.ifCond .lt 18, 3) := by decide +kernel
theorem dw_T_constructor_19 : decode prog_1_method_2_code 19 = .ok (.iconst (-1), 1) := by decide +kernel
theorem dw_T_constructor_20 : decode prog_1_method_2_code 20 = .ok (.ireturn, 1) := by decide +kernel
theorem dw_T_constructor_4 : decode prog_1_method_2_code 4 = .ok (.iload_n 1, 1) := by decide +kernel
theorem dw_T_constructor_5 : decode prog_1_method_2_code 5 = .ok (.bipush 8, 2) := by decide +kernel
theorem dw_T_constructor_7 : decode prog_1_method_2_code 7 = .ok (.if_icmp .gt 12, 3) := by decide +kernel
theorem dw_T_constructor_10 : decode prog_1_method_2_code 10 = .ok (.iload_n 2, 1) := by decide +kernel
theorem dw_T_constructor_11 : decode prog_1_method_2_code 11 = .ok (.ifCond .lt 8, 3) := by decide +kernel
theorem dw_T_constructor_14 : decode prog_1_method_2_code 14 = .ok (.iload_n 2, 1) := by decide +kernel
theorem dw_T_constructor_15 : decode prog_1_method_2_code 15 = .ok (.iconst 2, 1) := by decide +kernel
theorem dw_T_constructor_16 : decode prog_1_method_2_code 16 = .ok (.if_icmp .le 5, 3) := by decide +kernel
theorem dw_T_constructor_21 : decode prog_1_method_2_code 21 = .ok (.aload_n 0, 1) := by decide +kernel
theorem dw_T_constructor_22 : decode prog_1_method_2_code 22 = .ok (.getfield 12, 3) := by decide +kernel
theorem dw_T_constructor_25 : decode prog_1_method_2_code 25 = .ok (.iload_n 1, 1) := by decide +kernel
theorem dw_T_constructor_26 : decode prog_1_method_2_code 26 = .ok (.iload_n 2, 1) := by decide +kernel
theorem dw_T_constructor_27 : decode prog_1_method_2_code 27 = .ok (.invokevirtual 70, 3) := by decide +kernel
theorem dw_T_constructor_30 : decode prog_1_method_2_code 30 = .ok (.ireturn, 1) := by decide +kernel
theorem dw_T_push_0 : decode prog_1_method_3_code 0 = .ok (.iload_n 1, 1) := by decide +kernel
theorem dw_T_push_1 : decode prog_1_method_3_code 1 = .ok (.iconst (-1), 1) := by decide +kernel
theorem dw_T_push_2 : decode prog_1_method_3_code 2 = .ok (.if_icmp .lt 32, 3) := by decide +kernel
theorem dw_T_push_34 : decode prog_1_method_3_code 34 = .ok (.iconst (-1), 1) := by decide +kernel
theorem dw_T_push_35 : decode prog_1_method_3_code 35 = .ok (.ireturn, 1) := by decide +kernel
theorem dw_T_push_5 : decode prog_1_method_3_code 5 = .ok (.iload_n 1, 1) := by decide +kernel
theorem dw_T_push_6 : decode prog_1_method_3_code 6 = .ok (.sipush 32767, 3) := by decide +kernel
theorem dw_T_push_9 : decode prog_1_method_3_code 9 = .ok (.if_icmp .gt 25, 3) := by decide +kernel
theorem dw_T_push_12 : decode prog_1_method_3_code 12 = .ok (.aload_n 0, 1) := by decide +kernel
theorem dw_T_push_13 : decode prog_1_method_3_code 13 = .ok (.getfield 26, 3) := by decide +kernel
theorem dw_T_push_16 : decode prog_1_method_3_code 16 = .ok (.iload_n 2, 1) := by decide +kernel
theorem dw_T_push_17 : decode prog_1_method_3_code 17 = .ok (.invokevirtual 74, 3) := by decide +kernel
theorem dw_T_push_20 : decode prog_1_method_3_code 20 = .ok (.ifCond .eq 14, 3) := by decide +kernel
theorem dw_T_push_23 : decode prog_1_method_3_code 23 = .ok (.aload_n 0, 1) := by decide +kernel
theorem dw_T_push_24 : decode prog_1_method_3_code 24 = .ok (.getfield 19, 3) := by decide +kernel
theorem dw_T_push_27 : decode prog_1_method_3_code 27 = .ok (.iload_n 1, 1) := by decide +kernel
theorem dw_T_push_28 : decode prog_1_method_3_code 28 = .ok (.invokevirtual 78, 3) := by decide +kernel
theorem dw_T_built_0 : decode prog_1_method_4_code 0 = .ok (.aload_n 0, 1) := by decide +kernel
theorem dw_T_built_1 : decode prog_1_method_4_code 1 = .ok (.getfield 12, 3) := by decide +kernel
theorem dw_T_built_4 : decode prog_1_method_4_code 4 = .ok (.iload_n 1, 1) := by decide +kernel
theorem dw_T_built_5 : decode prog_1_method_4_code 5 = .ok (.invokevirtual 86, 3) := by decide +kernel
theorem dw_T_built_8 : decode prog_1_method_4_code 8 = .ok (.ifCond .eq 31, 3) := by decide +kernel
theorem dw_T_built_39 : decode prog_1_method_4_code 39 = .ok (.iconst (-1), 1) := by decide +kernel
theorem dw_T_built_40 : decode prog_1_method_4_code 40 = .ok (.ireturn, 1) := by decide +kernel
theorem dw_T_built_11 : decode prog_1_method_4_code 11 = .ok (.aload_n 0, 1) := by decide +kernel
theorem dw_T_built_12 : decode prog_1_method_4_code 12 = .ok (.getfield 19, 3) := by decide +kernel
theorem dw_T_built_15 : decode prog_1_method_4_code 15 = .ok (.getfield 89, 3) := by decide +kernel
theorem dw_T_built_18 : decode prog_1_method_4_code 18 = .ok (.ifCond .gt 21, 3) := by decide +kernel
theorem dw_T_built_21 : decode prog_1_method_4_code 21 = .ok (.aload_n 0, 1) := by decide +kernel
theorem dw_T_built_22 : decode prog_1_method_4_code 22 = .ok (.getfield 19, 3) := by decide +kernel
theorem dw_T_built_25 : decode prog_1_method_4_code 25 = .ok (.getfield 92, 3) := by decide +kernel
theorem dw_T_built_28 : decode prog_1_method_4_code 28 = .ok (.aload_n 0, 1) := by decide +kernel
theorem dw_T_built_29 : decode prog_1_method_4_code 29 = .ok (.getfield 12, 3) := by decide +kernel
theorem dw_T_built_32 : decode prog_1_method_4_code 32 = .ok (.iload_n 1, 1) := by decide +kernel
theorem dw_T_built_33 : decode prog_1_method_4_code 33 = .ok (.invokevirtual 95, 3) := by decide +kernel
theorem dw_T_record_0 : decode prog_1_method_5_code 0 = .ok (.aload_n 0, 1) := by decide +kernel
theorem dw_T_record_1 : decode prog_1_method_5_code 1 = .ok (.getfield 19, 3) := by decide +kernel
theorem dw_T_record_4 : decode prog_1_method_5_code 4 = .ok (.getfield 89, 3) := by decide +kernel
theorem dw_T_record_7 : decode prog_1_method_5_code 7 = .ok (.aload_n 0, 1) := by decide +kernel
theorem dw_T_record_8 : decode prog_1_method_5_code 8 = .ok (.getfield 19, 3) := by decide +kernel
theorem dw_T_record_11 : decode prog_1_method_5_code 11 = .ok (.getfield 92, 3) := by decide +kernel
theorem dw_T_record_14 : decode prog_1_method_5_code 14 = .ok (.if_icmp .ge 5, 3) := by decide +kernel
theorem dw_T_record_19 : decode prog_1_method_5_code 19 = .ok (.aload_n 0, 1) := by decide +kernel
theorem dw_T_record_20 : decode prog_1_method_5_code 20 = .ok (.getfield 26, 3) := by decide +kernel
theorem dw_T_record_23 : decode prog_1_method_5_code 23 = .ok (.iconst 1, 1) := by decide +kernel
theorem dw_T_record_24 : decode prog_1_method_5_code 24 = .ok (.aload_n 0, 1) := by decide +kernel
theorem dw_T_record_25 : decode prog_1_method_5_code 25 = .ok (.getfield 19, 3) := by decide +kernel
theorem dw_T_record_28 : decode prog_1_method_5_code 28 = .ok (.getfield 92, 3) := by decide +kernel
theorem dw_T_record_31 : decode prog_1_method_5_code 31 = .ok (.invokevirtual 98, 3) := by decide +kernel
theorem dw_T_record_34 : decode prog_1_method_5_code 34 = .ok (.ifCond .eq 20, 3) := by decide +kernel
theorem dw_T_record_54 : decode prog_1_method_5_code 54 = .ok (.bipush (-2), 2) := by decide +kernel
theorem dw_T_record_56 : decode prog_1_method_5_code 56 = .ok (.ireturn, 1) := by decide +kernel
theorem dw_T_record_37 : decode prog_1_method_5_code 37 = .ok (.iload_n 1, 1) := by decide +kernel
theorem dw_T_record_38 : decode prog_1_method_5_code 38 = .ok (.ifCond .eq 19, 3) := by decide +kernel
theorem dw_T_record_57 : decode prog_1_method_5_code 57 = .ok (.aload_n 0, 1) := by decide +kernel
theorem dw_T_record_58 : decode prog_1_method_5_code 58 = .ok (.getfield 26, 3) := by decide +kernel
theorem dw_T_record_61 : decode prog_1_method_5_code 61 = .ok (.iconst 4, 1) := by decide +kernel
theorem dw_T_record_62 : decode prog_1_method_5_code 62 = .ok (.iconst 0, 1) := by decide +kernel
theorem dw_T_record_63 : decode prog_1_method_5_code 63 = .ok (.bipush 101, 2) := by decide +kernel
theorem dw_T_record_65 : decode prog_1_method_5_code 65 = .ok (.iconst 0, 1) := by decide +kernel
theorem dw_T_record_66 : decode prog_1_method_5_code 66 = .ok (.invokevirtual 102, 3) := by decide +kernel
theorem dw_T_record_69 : decode prog_1_method_5_code 69 = .ok (.istore_n 2, 1) := by decide +kernel
theorem dw_T_record_70 : decode prog_1_method_5_code 70 = .ok (.iconst 0, 1) := by decide +kernel
theorem dw_T_record_71 : decode prog_1_method_5_code 71 = .ok (.istore_n 3, 1) := by decide +kernel
theorem dw_T_record_119 : decode prog_1_method_5_code 119 = .ok (.aload_n 0, 1) := by decide +kernel
theorem dw_T_record_120 : decode prog_1_method_5_code 120 = .ok (.getfield 19, 3) := by decide +kernel
theorem dw_T_record_123 : decode prog_1_method_5_code 123 = .ok (.invokevirtual 119, 3) := by decide +kernel
theorem dw_T_record_126 : decode prog_1_method_5_code 126 = .ok (.iload_n 1, 1) := by decide +kernel
theorem dw_T_record_127 : decode prog_1_method_5_code 127 = .ok (.ifCond .eq 41, 3) := by decide +kernel
theorem dw_T_record_168 : decode prog_1_method_5_code 168 = .ok (.aload_n 0, 1) := by decide +kernel
theorem dw_T_record_169 : decode prog_1_method_5_code 169 = .ok (.getfield 26, 3) := by decide +kernel
theorem dw_T_record_172 : decode prog_1_method_5_code 172 = .ok (.iload_n 2, 1) := by decide +kernel
theorem dw_T_record_173 : decode prog_1_method_5_code 173 = .ok (.invokevirtual 122, 3) := by decide +kernel
theorem dw_T_record_176 : decode prog_1_method_5_code 176 = .ok (.ireturn, 1) := by decide +kernel
theorem dw_T_record_130 : decode prog_1_method_5_code 130 = .ok (.aload_n 0, 1) := by decide +kernel
theorem dw_T_record_131 : decode prog_1_method_5_code 131 = .ok (.getfield 26, 3) := by decide +kernel
theorem dw_T_record_134 : decode prog_1_method_5_code 134 = .ok (.getfield 131, 3) := by decide +kernel
theorem dw_T_record_137 : decode prog_1_method_5_code 137 = .ok (.iload_n 2, 1) := by decide +kernel
theorem dw_T_record_138 : decode prog_1_method_5_code 138 = .ok (.aload_n 0, 1) := by decide +kernel
theorem dw_T_record_139 : decode prog_1_method_5_code 139 = .ok (.getfield 26, 3) := by decide +kernel
theorem dw_T_record_142 : decode prog_1_method_5_code 142 = .ok (.iconst 5, 1) := by decide +kernel
theorem dw_T_record_143 : decode prog_1_method_5_code 143 = .ok (.iconst 0, 1) := by decide +kernel
theorem dw_T_record_144 : decode prog_1_method_5_code 144 = .ok (.aload_n 0, 1) := by decide +kernel
theorem dw_T_record_145 : decode prog_1_method_5_code 145 = .ok (.getfield 66, 3) := by decide +kernel
theorem dw_T_record_148 : decode prog_1_method_5_code 148 = .ok (.iconst 0, 1) := by decide +kernel
theorem dw_T_record_149 : decode prog_1_method_5_code 149 = .ok (.invokevirtual 102, 3) := by decide +kernel
theorem dw_T_record_152 : decode prog_1_method_5_code 152 = .ok (.invokevirtual 134, 3) := by decide +kernel
theorem dw_T_record_155 : decode prog_1_method_5_code 155 = .ok (.aload_n 0, 1) := by decide +kernel
theorem dw_T_record_156 : decode prog_1_method_5_code 156 = .ok (.getfield 26, 3) := by decide +kernel
theorem dw_T_record_159 : decode prog_1_method_5_code 159 = .ok (.dup, 1) := by decide +kernel
theorem dw_T_record_160 : decode prog_1_method_5_code 160 = .ok (.getfield 125, 3) := by decide +kernel
theorem dw_T_record_163 : decode prog_1_method_5_code 163 = .ok (.iconst 1, 1) := by decide +kernel
theorem dw_T_record_164 : decode prog_1_method_5_code 164 = .ok (.iadd, 1) := by decide +kernel
theorem dw_T_record_165 : decode prog_1_method_5_code 165 = .ok (.putfield 125, 3) := by decide +kernel
theorem dw_T_record_72 : decode prog_1_method_5_code 72 = .ok (.iload_n 3, 1) := by decide +kernel
theorem dw_T_record_73 : decode prog_1_method_5_code 73 = .ok (.aload_n 0, 1) := by decide +kernel
theorem dw_T_record_74 : decode prog_1_method_5_code 74 = .ok (.getfield 19, 3) := by decide +kernel
theorem dw_T_record_77 : decode prog_1_method_5_code 77 = .ok (.getfield 92, 3) := by decide +kernel
theorem dw_T_record_80 : decode prog_1_method_5_code 80 = .ok (.if_icmp .ge 39, 3) := by decide +kernel
theorem dw_T_record_83 : decode prog_1_method_5_code 83 = .ok (.aload_n 0, 1) := by decide +kernel
theorem dw_T_record_84 : decode prog_1_method_5_code 84 = .ok (.getfield 26, 3) := by decide +kernel
theorem dw_T_record_87 : decode prog_1_method_5_code 87 = .ok (.iload_n 2, 1) := by decide +kernel
theorem dw_T_record_88 : decode prog_1_method_5_code 88 = .ok (.aload_n 0, 1) := by decide +kernel
theorem dw_T_record_89 : decode prog_1_method_5_code 89 = .ok (.getfield 19, 3) := by decide +kernel
theorem dw_T_record_92 : decode prog_1_method_5_code 92 = .ok (.getfield 128, 3) := by decide +kernel
theorem dw_T_record_95 : decode prog_1_method_5_code 95 = .ok (.iload_n 3, 1) := by decide +kernel
theorem dw_T_record_96 : decode prog_1_method_5_code 96 = .ok (.invokevirtual 110, 3) := by decide +kernel
theorem dw_T_record_99 : decode prog_1_method_5_code 99 = .ok (.aload_n 0, 1) := by decide +kernel
theorem dw_T_record_100 : decode prog_1_method_5_code 100 = .ok (.getfield 19, 3) := by decide +kernel
theorem dw_T_record_103 : decode prog_1_method_5_code 103 = .ok (.getfield 106, 3) := by decide +kernel
theorem dw_T_record_106 : decode prog_1_method_5_code 106 = .ok (.iload_n 3, 1) := by decide +kernel
theorem dw_T_record_107 : decode prog_1_method_5_code 107 = .ok (.invokevirtual 110, 3) := by decide +kernel
theorem dw_T_record_110 : decode prog_1_method_5_code 110 = .ok (.invokevirtual 115, 3) := by decide +kernel
theorem dw_T_record_41 : decode prog_1_method_5_code 41 = .ok (.aload_n 0, 1) := by decide +kernel
theorem dw_T_record_42 : decode prog_1_method_5_code 42 = .ok (.getfield 26, 3) := by decide +kernel
theorem dw_T_record_45 : decode prog_1_method_5_code 45 = .ok (.getfield 125, 3) := by decide +kernel
theorem dw_T_record_48 : decode prog_1_method_5_code 48 = .ok (.sipush 512, 3) := by decide +kernel
theorem dw_T_record_51 : decode prog_1_method_5_code 51 = .ok (.if_icmp .lt 6, 3) := by decide +kernel
theorem dw_T_record_17 : decode prog_1_method_5_code 17 = .ok (.iconst (-1), 1) := by decide +kernel
theorem dw_T_record_18 : decode prog_1_method_5_code 18 = .ok (.ireturn, 1) := by decide +kernel
theorem dw_T_function_0 : decode prog_1_method_6_code 0 = .ok (.aload_n 0, 1) := by decide +kernel
theorem dw_T_function_1 : decode prog_1_method_6_code 1 = .ok (.getfield 26, 3) := by decide +kernel
theorem dw_T_function_4 : decode prog_1_method_6_code 4 = .ok (.iload_n 1, 1) := by decide +kernel
theorem dw_T_function_5 : decode prog_1_method_6_code 5 = .ok (.invokevirtual 74, 3) := by decide +kernel
theorem dw_T_function_8 : decode prog_1_method_6_code 8 = .ok (.ifCond .eq 14, 3) := by decide +kernel
theorem dw_T_function_22 : decode prog_1_method_6_code 22 = .ok (.iconst (-1), 1) := by decide +kernel
theorem dw_T_function_23 : decode prog_1_method_6_code 23 = .ok (.ireturn, 1) := by decide +kernel
theorem dw_T_function_11 : decode prog_1_method_6_code 11 = .ok (.aload_n 0, 1) := by decide +kernel
theorem dw_T_function_12 : decode prog_1_method_6_code 12 = .ok (.getfield 26, 3) := by decide +kernel
theorem dw_T_function_15 : decode prog_1_method_6_code 15 = .ok (.iload_n 2, 1) := by decide +kernel
theorem dw_T_function_16 : decode prog_1_method_6_code 16 = .ok (.invokevirtual 74, 3) := by decide +kernel
theorem dw_T_function_19 : decode prog_1_method_6_code 19 = .ok (.ifCond .ne 5, 3) := by decide +kernel
theorem dw_T_function_24 : decode prog_1_method_6_code 24 = .ok (.aload_n 0, 1) := by decide +kernel
theorem dw_T_function_25 : decode prog_1_method_6_code 25 = .ok (.getfield 26, 3) := by decide +kernel
theorem dw_T_function_28 : decode prog_1_method_6_code 28 = .ok (.iconst 1, 1) := by decide +kernel
theorem dw_T_function_29 : decode prog_1_method_6_code 29 = .ok (.iconst 2, 1) := by decide +kernel
theorem dw_T_function_30 : decode prog_1_method_6_code 30 = .ok (.invokevirtual 98, 3) := by decide +kernel
theorem dw_T_function_33 : decode prog_1_method_6_code 33 = .ok (.ifCond .ne 6, 3) := by decide +kernel
theorem dw_T_function_39 : decode prog_1_method_6_code 39 = .ok (.aload_n 0, 1) := by decide +kernel
theorem dw_T_function_40 : decode prog_1_method_6_code 40 = .ok (.getfield 26, 3) := by decide +kernel
theorem dw_T_function_43 : decode prog_1_method_6_code 43 = .ok (.iconst 3, 1) := by decide +kernel
theorem dw_T_function_44 : decode prog_1_method_6_code 44 = .ok (.iconst 0, 1) := by decide +kernel
theorem dw_T_function_45 : decode prog_1_method_6_code 45 = .ok (.bipush 101, 2) := by decide +kernel
theorem dw_T_function_47 : decode prog_1_method_6_code 47 = .ok (.iconst 0, 1) := by decide +kernel
theorem dw_T_function_48 : decode prog_1_method_6_code 48 = .ok (.invokevirtual 102, 3) := by decide +kernel
theorem dw_T_function_51 : decode prog_1_method_6_code 51 = .ok (.istore_n 3, 1) := by decide +kernel
theorem dw_T_function_52 : decode prog_1_method_6_code 52 = .ok (.aload_n 0, 1) := by decide +kernel
theorem dw_T_function_53 : decode prog_1_method_6_code 53 = .ok (.getfield 26, 3) := by decide +kernel
theorem dw_T_function_56 : decode prog_1_method_6_code 56 = .ok (.iload_n 3, 1) := by decide +kernel
theorem dw_T_function_57 : decode prog_1_method_6_code 57 = .ok (.iconst 0, 1) := by decide +kernel
theorem dw_T_function_58 : decode prog_1_method_6_code 58 = .ok (.aload_n 0, 1) := by decide +kernel
theorem dw_T_function_59 : decode prog_1_method_6_code 59 = .ok (.getfield 26, 3) := by decide +kernel
theorem dw_T_function_62 : decode prog_1_method_6_code 62 = .ok (.iload_n 1, 1) := by decide +kernel
theorem dw_T_function_63 : decode prog_1_method_6_code 63 = .ok (.invokevirtual 81, 3) := by decide +kernel
theorem dw_T_function_36 : decode prog_1_method_6_code 36 = .ok (.bipush (-2), 2) := by decide +kernel
theorem dw_T_function_38 : decode prog_1_method_6_code 38 = .ok (.ireturn, 1) := by decide +kernel
theorem dw_T_variable_0 : decode prog_1_method_7_code 0 = .ok (.iload_n 2, 1) := by decide +kernel
theorem dw_T_variable_1 : decode prog_1_method_7_code 1 = .ok (.ifCond .lt 15, 3) := by decide +kernel
theorem dw_T_variable_16 : decode prog_1_method_7_code 16 = .ok (.iconst (-1), 1) := by decide +kernel
theorem dw_T_variable_17 : decode prog_1_method_7_code 17 = .ok (.ireturn, 1) := by decide +kernel
theorem dw_T_variable_4 : decode prog_1_method_7_code 4 = .ok (.aload_n 0, 1) := by decide +kernel
theorem dw_T_variable_5 : decode prog_1_method_7_code 5 = .ok (.getfield 12, 3) := by decide +kernel
theorem dw_T_variable_8 : decode prog_1_method_7_code 8 = .ok (.iload_n 2, 1) := by decide +kernel
theorem dw_T_variable_9 : decode prog_1_method_7_code 9 = .ok (.iload_n 1, 1) := by decide +kernel
theorem dw_T_variable_10 : decode prog_1_method_7_code 10 = .ok (.invokevirtual 138, 3) := by decide +kernel
theorem dw_T_variable_13 : decode prog_1_method_7_code 13 = .ok (.ifCond .ne 5, 3) := by decide +kernel
theorem dw_T_variable_18 : decode prog_1_method_7_code 18 = .ok (.aload_n 0, 1) := by decide +kernel
theorem dw_T_variable_19 : decode prog_1_method_7_code 19 = .ok (.iconst 0, 1) := by decide +kernel
theorem dw_T_variable_20 : decode prog_1_method_7_code 20 = .ok (.iload_n 2, 1) := by decide +kernel
theorem dw_T_variable_21 : decode prog_1_method_7_code 21 = .ok (.iload_n 1, 1) := by decide +kernel
theorem dw_T_variable_22 : decode prog_1_method_7_code 22 = .ok (.invokevirtual 142, 3) := by decide +kernel
theorem dw_T_variable_25 : decode prog_1_method_7_code 25 = .ok (.ireturn, 1) := by decide +kernel
theorem dw_T_rigid_0 : decode prog_1_method_8_code 0 = .ok (.aload_n 0, 1) := by decide +kernel
theorem dw_T_rigid_1 : decode prog_1_method_8_code 1 = .ok (.iconst 1, 1) := by decide +kernel
theorem dw_T_rigid_2 : decode prog_1_method_8_code 2 = .ok (.iconst 0, 1) := by decide +kernel
theorem dw_T_rigid_3 : decode prog_1_method_8_code 3 = .ok (.iload_n 1, 1) := by decide +kernel
theorem dw_T_rigid_4 : decode prog_1_method_8_code 4 = .ok (.invokevirtual 142, 3) := by decide +kernel
theorem dw_T_rigid_7 : decode prog_1_method_8_code 7 = .ok (.ireturn, 1) := by decide +kernel
theorem dw_T_level_0 : decode prog_1_method_10_code 0 = .ok (.iload_n 1, 1) := by decide +kernel
theorem dw_T_level_1 : decode prog_1_method_10_code 1 = .ok (.ifCond .lt 9, 3) := by decide +kernel
theorem dw_T_level_10 : decode prog_1_method_10_code 10 = .ok (.iconst (-1), 1) := by decide +kernel
theorem dw_T_level_11 : decode prog_1_method_10_code 11 = .ok (.ireturn, 1) := by decide +kernel
theorem dw_T_level_4 : decode prog_1_method_10_code 4 = .ok (.iload_n 1, 1) := by decide +kernel
theorem dw_T_level_5 : decode prog_1_method_10_code 5 = .ok (.bipush 100, 2) := by decide +kernel
theorem dw_T_level_7 : decode prog_1_method_10_code 7 = .ok (.if_icmp .le 5, 3) := by decide +kernel
theorem dw_T_level_12 : decode prog_1_method_10_code 12 = .ok (.aload_n 0, 1) := by decide +kernel
theorem dw_T_level_13 : decode prog_1_method_10_code 13 = .ok (.getfield 66, 3) := by decide +kernel
theorem dw_T_level_16 : decode prog_1_method_10_code 16 = .ok (.istore_n 2, 1) := by decide +kernel
theorem dw_T_level_17 : decode prog_1_method_10_code 17 = .ok (.aload_n 0, 1) := by decide +kernel
theorem dw_T_level_18 : decode prog_1_method_10_code 18 = .ok (.iload_n 1, 1) := by decide +kernel
theorem dw_T_level_19 : decode prog_1_method_10_code 19 = .ok (.putfield 66, 3) := by decide +kernel
theorem dw_T_level_22 : decode prog_1_method_10_code 22 = .ok (.iload_n 2, 1) := by decide +kernel
theorem dw_T_level_23 : decode prog_1_method_10_code 23 = .ok (.ireturn, 1) := by decide +kernel
theorem dw_T_unify_0 : decode prog_1_method_11_code 0 = .ok (.aload_n 0, 1) := by decide +kernel
theorem dw_T_unify_1 : decode prog_1_method_11_code 1 = .ok (.getfield 26, 3) := by decide +kernel
theorem dw_T_unify_4 : decode prog_1_method_11_code 4 = .ok (.iload_n 1, 1) := by decide +kernel
theorem dw_T_unify_5 : decode prog_1_method_11_code 5 = .ok (.invokevirtual 74, 3) := by decide +kernel
theorem dw_T_unify_8 : decode prog_1_method_11_code 8 = .ok (.ifCond .eq 44, 3) := by decide +kernel
theorem dw_T_unify_52 : decode prog_1_method_11_code 52 = .ok (.iconst 0, 1) := by decide +kernel
theorem dw_T_unify_53 : decode prog_1_method_11_code 53 = .ok (.ireturn, 1) := by decide +kernel
theorem dw_T_unify_11 : decode prog_1_method_11_code 11 = .ok (.aload_n 0, 1) := by decide +kernel
theorem dw_T_unify_12 : decode prog_1_method_11_code 12 = .ok (.getfield 26, 3) := by decide +kernel
theorem dw_T_unify_15 : decode prog_1_method_11_code 15 = .ok (.iload_n 2, 1) := by decide +kernel
theorem dw_T_unify_16 : decode prog_1_method_11_code 16 = .ok (.invokevirtual 74, 3) := by decide +kernel
theorem dw_T_unify_19 : decode prog_1_method_11_code 19 = .ok (.ifCond .eq 33, 3) := by decide +kernel
theorem dw_T_unify_22 : decode prog_1_method_11_code 22 = .ok (.aload_n 0, 1) := by decide +kernel
theorem dw_T_unify_23 : decode prog_1_method_11_code 23 = .ok (.getfield 53, 3) := by decide +kernel
theorem dw_T_unify_26 : decode prog_1_method_11_code 26 = .ok (.aload_n 0, 1) := by decide +kernel
theorem dw_T_unify_27 : decode prog_1_method_11_code 27 = .ok (.getfield 26, 3) := by decide +kernel
theorem dw_T_unify_30 : decode prog_1_method_11_code 30 = .ok (.iload_n 1, 1) := by decide +kernel
theorem dw_T_unify_31 : decode prog_1_method_11_code 31 = .ok (.invokevirtual 81, 3) := by decide +kernel
theorem dw_T_same_0 : decode prog_1_method_12_code 0 = .ok (.aload_n 0, 1) := by decide +kernel
theorem dw_T_same_1 : decode prog_1_method_12_code 1 = .ok (.getfield 26, 3) := by decide +kernel
theorem dw_T_same_4 : decode prog_1_method_12_code 4 = .ok (.iload_n 1, 1) := by decide +kernel
theorem dw_T_same_5 : decode prog_1_method_12_code 5 = .ok (.lload_n 2, 1) := by decide +kernel
theorem dw_T_same_6 : decode prog_1_method_12_code 6 = .ok (.invokevirtual 149, 3) := by decide +kernel
theorem dw_T_same_9 : decode prog_1_method_12_code 9 = .ok (.istore 7, 2) := by decide +kernel
theorem dw_T_same_11 : decode prog_1_method_12_code 11 = .ok (.aload_n 0, 1) := by decide +kernel
theorem dw_T_same_12 : decode prog_1_method_12_code 12 = .ok (.getfield 26, 3) := by decide +kernel
theorem dw_T_same_15 : decode prog_1_method_12_code 15 = .ok (.iload 4, 2) := by decide +kernel
theorem dw_T_same_17 : decode prog_1_method_12_code 17 = .ok (.lload 5, 2) := by decide +kernel
theorem dw_T_same_19 : decode prog_1_method_12_code 19 = .ok (.invokevirtual 149, 3) := by decide +kernel
theorem dw_T_same_22 : decode prog_1_method_12_code 22 = .ok (.istore 8, 2) := by decide +kernel
theorem dw_T_same_24 : decode prog_1_method_12_code 24 = .ok (.iload 7, 2) := by decide +kernel
theorem dw_T_same_26 : decode prog_1_method_12_code 26 = .ok (.iconst (-1), 1) := by decide +kernel
theorem dw_T_same_27 : decode prog_1_method_12_code 27 = .ok (.if_icmp .eq 36, 3) := by decide +kernel
theorem dw_T_same_63 : decode prog_1_method_12_code 63 = .ok (.iconst 0, 1) := by decide +kernel
theorem dw_T_same_64 : decode prog_1_method_12_code 64 = .ok (.ireturn, 1) := by decide +kernel
theorem dw_T_same_30 : decode prog_1_method_12_code 30 = .ok (.iload 8, 2) := by decide +kernel
theorem dw_T_same_32 : decode prog_1_method_12_code 32 = .ok (.iconst (-1), 1) := by decide +kernel
theorem dw_T_same_33 : decode prog_1_method_12_code 33 = .ok (.if_icmp .eq 30, 3) := by decide +kernel
theorem dw_T_same_36 : decode prog_1_method_12_code 36 = .ok (.aload_n 0, 1) := by decide +kernel
theorem dw_T_same_37 : decode prog_1_method_12_code 37 = .ok (.getfield 26, 3) := by decide +kernel
theorem dw_T_same_40 : decode prog_1_method_12_code 40 = .ok (.getfield 153, 3) := by decide +kernel
theorem dw_T_same_43 : decode prog_1_method_12_code 43 = .ok (.iload 7, 2) := by decide +kernel
theorem dw_T_same_45 : decode prog_1_method_12_code 45 = .ok (.invokevirtual 110, 3) := by decide +kernel
theorem dw_T_same_48 : decode prog_1_method_12_code 48 = .ok (.aload_n 0, 1) := by decide +kernel
theorem dw_T_same_49 : decode prog_1_method_12_code 49 = .ok (.getfield 26, 3) := by decide +kernel
theorem dw_T_same_52 : decode prog_1_method_12_code 52 = .ok (.getfield 153, 3) := by decide +kernel
theorem dw_T_same_55 : decode prog_1_method_12_code 55 = .ok (.iload 8, 2) := by decide +kernel
theorem dw_T_same_57 : decode prog_1_method_12_code 57 = .ok (.invokevirtual 110, 3) := by decide +kernel
theorem dw_T_same_60 : decode prog_1_method_12_code 60 = .ok (.if_icmp .eq 5, 3) := by decide +kernel
theorem dw_T_same_65 : decode prog_1_method_12_code 65 = .ok (.aload_n 0, 1) := by decide +kernel
theorem dw_T_same_66 : decode prog_1_method_12_code 66 = .ok (.getfield 44, 3) := by decide +kernel
theorem dw_T_same_69 : decode prog_1_method_12_code 69 = .ok (.iload 7, 2) := by decide +kernel
theorem dw_T_same_71 : decode prog_1_method_12_code 71 = .ok (.iload 8, 2) := by decide +kernel
theorem dw_T_same_73 : decode prog_1_method_12_code 73 = .ok (.invokevirtual 156, 3) := by decide +kernel
theorem dw_T_look_0 : decode prog_1_method_13_code 0 = .ok (.aload_n 0, 1) := by decide +kernel
theorem dw_T_look_1 : decode prog_1_method_13_code 1 = .ok (.getfield 26, 3) := by decide +kernel
theorem dw_T_look_4 : decode prog_1_method_13_code 4 = .ok (.iload_n 1, 1) := by decide +kernel
theorem dw_T_look_5 : decode prog_1_method_13_code 5 = .ok (.lload_n 2, 1) := by decide +kernel
theorem dw_T_look_6 : decode prog_1_method_13_code 6 = .ok (.invokevirtual 149, 3) := by decide +kernel
theorem dw_T_look_9 : decode prog_1_method_13_code 9 = .ok (.istore 5, 2) := by decide +kernel
theorem dw_T_look_11 : decode prog_1_method_13_code 11 = .ok (.iload 5, 2) := by decide +kernel
theorem dw_T_look_13 : decode prog_1_method_13_code 13 = .ok (.iconst (-1), 1) := by decide +kernel
theorem dw_T_look_14 : decode prog_1_method_13_code 14 = .ok (.if_icmp .ne 5, 3) := by decide +kernel
theorem dw_T_look_19 : decode prog_1_method_13_code 19 = .ok (.aload_n 0, 1) := by decide +kernel
theorem dw_T_look_20 : decode prog_1_method_13_code 20 = .ok (.getfield 26, 3) := by decide +kernel
theorem dw_T_look_23 : decode prog_1_method_13_code 23 = .ok (.getfield 153, 3) := by decide +kernel
theorem dw_T_look_26 : decode prog_1_method_13_code 26 = .ok (.iload 5, 2) := by decide +kernel
theorem dw_T_look_28 : decode prog_1_method_13_code 28 = .ok (.invokevirtual 110, 3) := by decide +kernel
theorem dw_T_look_31 : decode prog_1_method_13_code 31 = .ok (.istore 6, 2) := by decide +kernel
theorem dw_T_look_33 : decode prog_1_method_13_code 33 = .ok (.iload 4, 2) := by decide +kernel
theorem dw_T_look_35 : decode prog_1_method_13_code 35 = .ok (.tableswitch 153 0 6 #[41, 44, 67, 77, 95, 102, 124], 41) := by decide +kernel
theorem dw_T_look_188 : decode prog_1_method_13_code 188 = .ok (.iconst (-1), 1) := by decide +kernel
theorem dw_T_look_189 : decode prog_1_method_13_code 189 = .ok (.ireturn, 1) := by decide +kernel
theorem dw_T_look_76 : decode prog_1_method_13_code 76 = .ok (.iload 6, 2) := by decide +kernel
theorem dw_T_look_78 : decode prog_1_method_13_code 78 = .ok (.ireturn, 1) := by decide +kernel
theorem dw_T_look_79 : decode prog_1_method_13_code 79 = .ok (.iload 6, 2) := by decide +kernel
theorem dw_T_look_81 : decode prog_1_method_13_code 81 = .ok (.iconst 2, 1) := by decide +kernel
theorem dw_T_look_82 : decode prog_1_method_13_code 82 = .ok (.if_icmp .ne 18, 3) := by decide +kernel
theorem dw_T_look_100 : decode prog_1_method_13_code 100 = .ok (.iconst (-1), 1) := by decide +kernel
theorem dw_T_look_101 : decode prog_1_method_13_code 101 = .ok (.ireturn, 1) := by decide +kernel
theorem dw_T_look_85 : decode prog_1_method_13_code 85 = .ok (.aload_n 0, 1) := by decide +kernel
theorem dw_T_look_86 : decode prog_1_method_13_code 86 = .ok (.getfield 26, 3) := by decide +kernel
theorem dw_T_look_89 : decode prog_1_method_13_code 89 = .ok (.getfield 162, 3) := by decide +kernel
theorem dw_T_look_92 : decode prog_1_method_13_code 92 = .ok (.iload 5, 2) := by decide +kernel
theorem dw_T_look_94 : decode prog_1_method_13_code 94 = .ok (.invokevirtual 110, 3) := by decide +kernel
theorem dw_T_look_97 : decode prog_1_method_13_code 97 = .ok (.goto 4, 3) := by decide +kernel
theorem dw_T_look_102 : decode prog_1_method_13_code 102 = .ok (.aload_n 0, 1) := by decide +kernel
theorem dw_T_look_103 : decode prog_1_method_13_code 103 = .ok (.getfield 26, 3) := by decide +kernel
theorem dw_T_look_106 : decode prog_1_method_13_code 106 = .ok (.iload 5, 2) := by decide +kernel
theorem dw_T_look_108 : decode prog_1_method_13_code 108 = .ok (.invokevirtual 165, 3) := by decide +kernel
theorem dw_T_look_112 : decode prog_1_method_13_code 112 = .ok (.aload_n 0, 1) := by decide +kernel
theorem dw_T_look_113 : decode prog_1_method_13_code 113 = .ok (.getfield 35, 3) := by decide +kernel
theorem dw_T_look_116 : decode prog_1_method_13_code 116 = .ok (.iload 5, 2) := by decide +kernel
theorem dw_T_look_118 : decode prog_1_method_13_code 118 = .ok (.invokevirtual 168, 3) := by decide +kernel
theorem dw_T_look_130 : decode prog_1_method_13_code 130 = .ok (.aload_n 0, 1) := by decide +kernel
theorem dw_T_look_131 : decode prog_1_method_13_code 131 = .ok (.iload 5, 2) := by decide +kernel
theorem dw_T_look_133 : decode prog_1_method_13_code 133 = .ok (.invokevirtual 171, 3) := by decide +kernel
theorem dw_T_look_137 : decode prog_1_method_13_code 137 = .ok (.iload 6, 2) := by decide +kernel
theorem dw_T_look_139 : decode prog_1_method_13_code 139 = .ok (.ifCond .ne 18, 3) := by decide +kernel
theorem dw_T_look_157 : decode prog_1_method_13_code 157 = .ok (.iconst (-1), 1) := by decide +kernel
theorem dw_T_look_158 : decode prog_1_method_13_code 158 = .ok (.ireturn, 1) := by decide +kernel
theorem dw_T_look_142 : decode prog_1_method_13_code 142 = .ok (.aload_n 0, 1) := by decide +kernel
theorem dw_T_look_143 : decode prog_1_method_13_code 143 = .ok (.getfield 26, 3) := by decide +kernel
theorem dw_T_look_146 : decode prog_1_method_13_code 146 = .ok (.getfield 162, 3) := by decide +kernel
theorem dw_T_look_149 : decode prog_1_method_13_code 149 = .ok (.iload 5, 2) := by decide +kernel
theorem dw_T_look_151 : decode prog_1_method_13_code 151 = .ok (.invokevirtual 110, 3) := by decide +kernel
theorem dw_T_look_154 : decode prog_1_method_13_code 154 = .ok (.goto 4, 3) := by decide +kernel
theorem dw_T_look_159 : decode prog_1_method_13_code 159 = .ok (.iload 6, 2) := by decide +kernel
theorem dw_T_look_161 : decode prog_1_method_13_code 161 = .ok (.iconst 4, 1) := by decide +kernel
theorem dw_T_look_162 : decode prog_1_method_13_code 162 = .ok (.if_icmp .eq 7, 3) := by decide +kernel
theorem dw_T_look_169 : decode prog_1_method_13_code 169 = .ok (.aload_n 0, 1) := by decide +kernel
theorem dw_T_look_170 : decode prog_1_method_13_code 170 = .ok (.getfield 26, 3) := by decide +kernel
theorem dw_T_look_173 : decode prog_1_method_13_code 173 = .ok (.iload 5, 2) := by decide +kernel
theorem dw_T_look_175 : decode prog_1_method_13_code 175 = .ok (.invokevirtual 174, 3) := by decide +kernel
theorem dw_T_look_165 : decode prog_1_method_13_code 165 = .ok (.iconst (-1), 1) := by decide +kernel
theorem dw_T_look_166 : decode prog_1_method_13_code 166 = .ok (.goto 21, 3) := by decide +kernel
theorem dw_T_look_187 : decode prog_1_method_13_code 187 = .ok (.ireturn, 1) := by decide +kernel
theorem dw_T_look_17 : decode prog_1_method_13_code 17 = .ok (.iconst (-1), 1) := by decide +kernel
theorem dw_T_look_18 : decode prog_1_method_13_code 18 = .ok (.ireturn, 1) := by decide +kernel
theorem dw_T_label_0 : decode prog_1_method_15_code 0 = .ok (.aload_n 0, 1) := by decide +kernel
theorem dw_T_label_1 : decode prog_1_method_15_code 1 = .ok (.getfield 26, 3) := by decide +kernel
theorem dw_T_label_4 : decode prog_1_method_15_code 4 = .ok (.iload_n 1, 1) := by decide +kernel
theorem dw_T_label_5 : decode prog_1_method_15_code 5 = .ok (.lload_n 2, 1) := by decide +kernel
theorem dw_T_label_6 : decode prog_1_method_15_code 6 = .ok (.invokevirtual 149, 3) := by decide +kernel
theorem dw_T_label_9 : decode prog_1_method_15_code 9 = .ok (.istore 5, 2) := by decide +kernel
theorem dw_T_label_11 : decode prog_1_method_15_code 11 = .ok (.iload 5, 2) := by decide +kernel
theorem dw_T_label_13 : decode prog_1_method_15_code 13 = .ok (.iconst (-1), 1) := by decide +kernel
theorem dw_T_label_14 : decode prog_1_method_15_code 14 = .ok (.if_icmp .eq 19, 3) := by decide +kernel
theorem dw_T_label_33 : decode prog_1_method_15_code 33 = .ok (.iconst (-1), 1) := by decide +kernel
theorem dw_T_label_34 : decode prog_1_method_15_code 34 = .ok (.ireturn, 1) := by decide +kernel
theorem dw_T_label_17 : decode prog_1_method_15_code 17 = .ok (.aload_n 0, 1) := by decide +kernel
theorem dw_T_label_18 : decode prog_1_method_15_code 18 = .ok (.getfield 26, 3) := by decide +kernel
theorem dw_T_label_21 : decode prog_1_method_15_code 21 = .ok (.getfield 153, 3) := by decide +kernel
theorem dw_T_label_24 : decode prog_1_method_15_code 24 = .ok (.iload 5, 2) := by decide +kernel
theorem dw_T_label_26 : decode prog_1_method_15_code 26 = .ok (.invokevirtual 110, 3) := by decide +kernel
theorem dw_T_label_29 : decode prog_1_method_15_code 29 = .ok (.iconst 4, 1) := by decide +kernel
theorem dw_T_label_30 : decode prog_1_method_15_code 30 = .ok (.if_icmp .eq 5, 3) := by decide +kernel
theorem dw_T_label_35 : decode prog_1_method_15_code 35 = .ok (.aload_n 0, 1) := by decide +kernel
theorem dw_T_label_36 : decode prog_1_method_15_code 36 = .ok (.getfield 26, 3) := by decide +kernel
theorem dw_T_label_39 : decode prog_1_method_15_code 39 = .ok (.iload 5, 2) := by decide +kernel
theorem dw_T_label_41 : decode prog_1_method_15_code 41 = .ok (.iload 4, 2) := by decide +kernel
theorem dw_T_label_43 : decode prog_1_method_15_code 43 = .ok (.invokevirtual 180, 3) := by decide +kernel
theorem dw_T_scheme_0 : decode prog_1_method_16_code 0 = .ok (.aload_n 0, 1) := by decide +kernel
theorem dw_T_scheme_1 : decode prog_1_method_16_code 1 = .ok (.getfield 26, 3) := by decide +kernel
theorem dw_T_scheme_4 : decode prog_1_method_16_code 4 = .ok (.iload_n 1, 1) := by decide +kernel
theorem dw_T_scheme_5 : decode prog_1_method_16_code 5 = .ok (.invokevirtual 74, 3) := by decide +kernel
theorem dw_T_scheme_8 : decode prog_1_method_16_code 8 = .ok (.ifCond .ne 5, 3) := by decide +kernel
theorem dw_T_scheme_13 : decode prog_1_method_16_code 13 = .ok (.aload_n 0, 1) := by decide +kernel
theorem dw_T_scheme_14 : decode prog_1_method_16_code 14 = .ok (.getfield 26, 3) := by decide +kernel
theorem dw_T_scheme_17 : decode prog_1_method_16_code 17 = .ok (.aload_n 0, 1) := by decide +kernel
theorem dw_T_scheme_18 : decode prog_1_method_16_code 18 = .ok (.getfield 26, 3) := by decide +kernel
theorem dw_T_scheme_21 : decode prog_1_method_16_code 21 = .ok (.iload_n 1, 1) := by decide +kernel
theorem dw_T_scheme_22 : decode prog_1_method_16_code 22 = .ok (.invokevirtual 81, 3) := by decide +kernel
theorem dw_T_scheme_11 : decode prog_1_method_16_code 11 = .ok (.iconst (-1), 1) := by decide +kernel
theorem dw_T_scheme_12 : decode prog_1_method_16_code 12 = .ok (.ireturn, 1) := by decide +kernel
theorem dw_T_quantified_0 : decode prog_1_method_17_code 0 = .ok (.aload_n 0, 1) := by decide +kernel
theorem dw_T_quantified_1 : decode prog_1_method_17_code 1 = .ok (.getfield 62, 3) := by decide +kernel
theorem dw_T_quantified_4 : decode prog_1_method_17_code 4 = .ok (.iload_n 1, 1) := by decide +kernel
theorem dw_T_quantified_5 : decode prog_1_method_17_code 5 = .ok (.invokevirtual 190, 3) := by decide +kernel
theorem dw_T_quantified_8 : decode prog_1_method_17_code 8 = .ok (.ifCond .ne 5, 3) := by decide +kernel
theorem dw_T_quantified_13 : decode prog_1_method_17_code 13 = .ok (.iload_n 2, 1) := by decide +kernel
theorem dw_T_quantified_14 : decode prog_1_method_17_code 14 = .ok (.tableswitch 67 0 2 #[26, 38, 55], 26) := by decide +kernel
theorem dw_T_quantified_81 : decode prog_1_method_17_code 81 = .ok (.iconst (-1), 1) := by decide +kernel
theorem dw_T_quantified_82 : decode prog_1_method_17_code 82 = .ok (.ireturn, 1) := by decide +kernel
theorem dw_T_quantified_40 : decode prog_1_method_17_code 40 = .ok (.aload_n 0, 1) := by decide +kernel
theorem dw_T_quantified_41 : decode prog_1_method_17_code 41 = .ok (.getfield 62, 3) := by decide +kernel
theorem dw_T_quantified_44 : decode prog_1_method_17_code 44 = .ok (.getfield 191, 3) := by decide +kernel
theorem dw_T_quantified_47 : decode prog_1_method_17_code 47 = .ok (.iload_n 1, 1) := by decide +kernel
theorem dw_T_quantified_48 : decode prog_1_method_17_code 48 = .ok (.invokevirtual 110, 3) := by decide +kernel
theorem dw_T_quantified_51 : decode prog_1_method_17_code 51 = .ok (.ireturn, 1) := by decide +kernel
theorem dw_T_quantified_52 : decode prog_1_method_17_code 52 = .ok (.aload_n 0, 1) := by decide +kernel
theorem dw_T_quantified_53 : decode prog_1_method_17_code 53 = .ok (.getfield 62, 3) := by decide +kernel
theorem dw_T_quantified_56 : decode prog_1_method_17_code 56 = .ok (.iload_n 1, 1) := by decide +kernel
theorem dw_T_quantified_57 : decode prog_1_method_17_code 57 = .ok (.invokevirtual 194, 3) := by decide +kernel
theorem dw_T_quantified_69 : decode prog_1_method_17_code 69 = .ok (.aload_n 0, 1) := by decide +kernel
theorem dw_T_quantified_70 : decode prog_1_method_17_code 70 = .ok (.getfield 62, 3) := by decide +kernel
theorem dw_T_quantified_73 : decode prog_1_method_17_code 73 = .ok (.getfield 197, 3) := by decide +kernel
theorem dw_T_quantified_76 : decode prog_1_method_17_code 76 = .ok (.iload_n 1, 1) := by decide +kernel
theorem dw_T_quantified_77 : decode prog_1_method_17_code 77 = .ok (.invokevirtual 110, 3) := by decide +kernel
theorem dw_T_quantified_80 : decode prog_1_method_17_code 80 = .ok (.ireturn, 1) := by decide +kernel
theorem dw_T_quantified_11 : decode prog_1_method_17_code 11 = .ok (.iconst (-1), 1) := by decide +kernel
theorem dw_T_quantified_12 : decode prog_1_method_17_code 12 = .ok (.ireturn, 1) := by decide +kernel
theorem dw_T_instance_0 : decode prog_1_method_18_code 0 = .ok (.aload_n 0, 1) := by decide +kernel
theorem dw_T_instance_1 : decode prog_1_method_18_code 1 = .ok (.getfield 62, 3) := by decide +kernel
theorem dw_T_instance_4 : decode prog_1_method_18_code 4 = .ok (.iload_n 1, 1) := by decide +kernel
theorem dw_T_instance_5 : decode prog_1_method_18_code 5 = .ok (.invokevirtual 190, 3) := by decide +kernel
theorem dw_T_instance_8 : decode prog_1_method_18_code 8 = .ok (.ifCond .eq 18, 3) := by decide +kernel
theorem dw_T_instance_26 : decode prog_1_method_18_code 26 = .ok (.iconst (-1), 1) := by decide +kernel
theorem dw_T_instance_27 : decode prog_1_method_18_code 27 = .ok (.ireturn, 1) := by decide +kernel
theorem dw_T_instance_11 : decode prog_1_method_18_code 11 = .ok (.aload_n 0, 1) := by decide +kernel
theorem dw_T_instance_12 : decode prog_1_method_18_code 12 = .ok (.getfield 62, 3) := by decide +kernel
theorem dw_T_instance_15 : decode prog_1_method_18_code 15 = .ok (.iload_n 1, 1) := by decide +kernel
theorem dw_T_instance_16 : decode prog_1_method_18_code 16 = .ok (.aload_n 0, 1) := by decide +kernel
theorem dw_T_instance_17 : decode prog_1_method_18_code 17 = .ok (.getfield 66, 3) := by decide +kernel
theorem dw_T_instance_20 : decode prog_1_method_18_code 20 = .ok (.invokevirtual 200, 3) := by decide +kernel
theorem dw_T_alike_0 : decode prog_1_method_19_code 0 = .ok (.aload_n 0, 1) := by decide +kernel
theorem dw_T_alike_1 : decode prog_1_method_19_code 1 = .ok (.getfield 62, 3) := by decide +kernel
theorem dw_T_alike_4 : decode prog_1_method_19_code 4 = .ok (.iload_n 1, 1) := by decide +kernel
theorem dw_T_alike_5 : decode prog_1_method_19_code 5 = .ok (.invokevirtual 190, 3) := by decide +kernel
theorem dw_T_alike_8 : decode prog_1_method_19_code 8 = .ok (.ifCond .eq 52, 3) := by decide +kernel
theorem dw_T_alike_60 : decode prog_1_method_19_code 60 = .ok (.iconst 0, 1) := by decide +kernel
theorem dw_T_alike_61 : decode prog_1_method_19_code 61 = .ok (.ireturn, 1) := by decide +kernel
theorem dw_T_alike_11 : decode prog_1_method_19_code 11 = .ok (.aload_n 0, 1) := by decide +kernel
theorem dw_T_alike_12 : decode prog_1_method_19_code 12 = .ok (.getfield 62, 3) := by decide +kernel
theorem dw_T_alike_15 : decode prog_1_method_19_code 15 = .ok (.iload_n 2, 1) := by decide +kernel
theorem dw_T_alike_16 : decode prog_1_method_19_code 16 = .ok (.invokevirtual 190, 3) := by decide +kernel
theorem dw_T_alike_19 : decode prog_1_method_19_code 19 = .ok (.ifCond .eq 41, 3) := by decide +kernel
theorem dw_T_alike_22 : decode prog_1_method_19_code 22 = .ok (.aload_n 0, 1) := by decide +kernel
theorem dw_T_alike_23 : decode prog_1_method_19_code 23 = .ok (.getfield 62, 3) := by decide +kernel
theorem dw_T_alike_26 : decode prog_1_method_19_code 26 = .ok (.iload_n 1, 1) := by decide +kernel
theorem dw_T_alike_27 : decode prog_1_method_19_code 27 = .ok (.invokevirtual 194, 3) := by decide +kernel
theorem dw_T_clear_0 : decode prog_1_method_20_code 0 = .ok (.iload_n 1, 1) := by decide +kernel
theorem dw_T_clear_1 : decode prog_1_method_20_code 1 = .ok (.ifCond .lt 26, 3) := by decide +kernel
theorem dw_T_clear_27 : decode prog_1_method_20_code 27 = .ok (.iconst 0, 1) := by decide +kernel
theorem dw_T_clear_28 : decode prog_1_method_20_code 28 = .ok (.ireturn, 1) := by decide +kernel
theorem dw_T_clear_4 : decode prog_1_method_20_code 4 = .ok (.iload_n 1, 1) := by decide +kernel
theorem dw_T_clear_5 : decode prog_1_method_20_code 5 = .ok (.aload_n 0, 1) := by decide +kernel
theorem dw_T_clear_6 : decode prog_1_method_20_code 6 = .ok (.getfield 12, 3) := by decide +kernel
theorem dw_T_clear_9 : decode prog_1_method_20_code 9 = .ok (.getfield 206, 3) := by decide +kernel
theorem dw_T_clear_12 : decode prog_1_method_20_code 12 = .ok (.if_icmp .gt 15, 3) := by decide +kernel
theorem dw_T_clear_15 : decode prog_1_method_20_code 15 = .ok (.aload_n 0, 1) := by decide +kernel
theorem dw_T_clear_16 : decode prog_1_method_20_code 16 = .ok (.getfield 62, 3) := by decide +kernel
theorem dw_T_clear_19 : decode prog_1_method_20_code 19 = .ok (.iload_n 2, 1) := by decide +kernel
theorem dw_T_clear_20 : decode prog_1_method_20_code 20 = .ok (.iload_n 1, 1) := by decide +kernel
theorem dw_T_clear_21 : decode prog_1_method_20_code 21 = .ok (.invokevirtual 207, 3) := by decide +kernel
theorem dw_T_clear_24 : decode prog_1_method_20_code 24 = .ok (.ifCond .ne 5, 3) := by decide +kernel
theorem dw_T_clear_29 : decode prog_1_method_20_code 29 = .ok (.aload_n 0, 1) := by decide +kernel
theorem dw_T_clear_30 : decode prog_1_method_20_code 30 = .ok (.getfield 12, 3) := by decide +kernel
theorem dw_T_clear_33 : decode prog_1_method_20_code 33 = .ok (.iload_n 1, 1) := by decide +kernel
theorem dw_T_clear_34 : decode prog_1_method_20_code 34 = .ok (.putfield 206, 3) := by decide +kernel
theorem dw_T_clear_37 : decode prog_1_method_20_code 37 = .ok (.aload_n 0, 1) := by decide +kernel
theorem dw_T_clear_38 : decode prog_1_method_20_code 38 = .ok (.getfield 62, 3) := by decide +kernel
theorem dw_T_clear_41 : decode prog_1_method_20_code 41 = .ok (.iload_n 2, 1) := by decide +kernel
theorem dw_T_clear_42 : decode prog_1_method_20_code 42 = .ok (.invokevirtual 210, 3) := by decide +kernel
theorem dw_T_clear_45 : decode prog_1_method_20_code 45 = .ok (.aload_n 0, 1) := by decide +kernel
theorem dw_T_clear_46 : decode prog_1_method_20_code 46 = .ok (.getfield 26, 3) := by decide +kernel
theorem dw_T_clear_49 : decode prog_1_method_20_code 49 = .ok (.invokevirtual 214, 3) := by decide +kernel
theorem dw_T_clear_52 : decode prog_1_method_20_code 52 = .ok (.aload_n 0, 1) := by decide +kernel
theorem dw_T_clear_53 : decode prog_1_method_20_code 53 = .ok (.getfield 19, 3) := by decide +kernel
theorem dw_T_clear_56 : decode prog_1_method_20_code 56 = .ok (.invokevirtual 119, 3) := by decide +kernel
theorem dw_T_clear_59 : decode prog_1_method_20_code 59 = .ok (.aload_n 0, 1) := by decide +kernel
theorem dw_T_clear_60 : decode prog_1_method_20_code 60 = .ok (.iconst 0, 1) := by decide +kernel
theorem dw_T_clear_61 : decode prog_1_method_20_code 61 = .ok (.putfield 66, 3) := by decide +kernel
theorem dw_T_clear_64 : decode prog_1_method_20_code 64 = .ok (.iconst 1, 1) := by decide +kernel
theorem dw_T_clear_65 : decode prog_1_method_20_code 65 = .ok (.ireturn, 1) := by decide +kernel
theorem dw_T_count_0 : decode prog_1_method_21_code 0 = .ok (.iload_n 1, 1) := by decide +kernel
theorem dw_T_count_1 : decode prog_1_method_21_code 1 = .ok (.tableswitch 120 0 8 #[51, 59, 67, 75, 83, 91, 99, 107, 115], 51) := by decide +kernel
theorem dw_T_count_121 : decode prog_1_method_21_code 121 = .ok (.iconst (-1), 1) := by decide +kernel
theorem dw_T_count_122 : decode prog_1_method_21_code 122 = .ok (.ireturn, 1) := by decide +kernel
theorem dw_T_count_52 : decode prog_1_method_21_code 52 = .ok (.aload_n 0, 1) := by decide +kernel
theorem dw_T_count_53 : decode prog_1_method_21_code 53 = .ok (.getfield 12, 3) := by decide +kernel
theorem dw_T_count_56 : decode prog_1_method_21_code 56 = .ok (.getfield 206, 3) := by decide +kernel
theorem dw_T_count_59 : decode prog_1_method_21_code 59 = .ok (.ireturn, 1) := by decide +kernel
theorem dw_T_count_60 : decode prog_1_method_21_code 60 = .ok (.aload_n 0, 1) := by decide +kernel
theorem dw_T_count_61 : decode prog_1_method_21_code 61 = .ok (.getfield 26, 3) := by decide +kernel
theorem dw_T_count_64 : decode prog_1_method_21_code 64 = .ok (.getfield 215, 3) := by decide +kernel
theorem dw_T_count_67 : decode prog_1_method_21_code 67 = .ok (.ireturn, 1) := by decide +kernel
theorem dw_T_count_68 : decode prog_1_method_21_code 68 = .ok (.aload_n 0, 1) := by decide +kernel
theorem dw_T_count_69 : decode prog_1_method_21_code 69 = .ok (.getfield 19, 3) := by decide +kernel
theorem dw_T_count_72 : decode prog_1_method_21_code 72 = .ok (.getfield 92, 3) := by decide +kernel
theorem dw_T_count_75 : decode prog_1_method_21_code 75 = .ok (.ireturn, 1) := by decide +kernel
theorem dw_T_count_76 : decode prog_1_method_21_code 76 = .ok (.aload_n 0, 1) := by decide +kernel
theorem dw_T_count_77 : decode prog_1_method_21_code 77 = .ok (.getfield 62, 3) := by decide +kernel
theorem dw_T_count_80 : decode prog_1_method_21_code 80 = .ok (.getfield 218, 3) := by decide +kernel
theorem dw_T_count_83 : decode prog_1_method_21_code 83 = .ok (.ireturn, 1) := by decide +kernel
theorem dw_T_count_84 : decode prog_1_method_21_code 84 = .ok (.aload_n 0, 1) := by decide +kernel
theorem dw_T_count_85 : decode prog_1_method_21_code 85 = .ok (.getfield 26, 3) := by decide +kernel
theorem dw_T_count_88 : decode prog_1_method_21_code 88 = .ok (.getfield 219, 3) := by decide +kernel
theorem dw_T_count_91 : decode prog_1_method_21_code 91 = .ok (.ireturn, 1) := by decide +kernel
theorem dw_T_count_92 : decode prog_1_method_21_code 92 = .ok (.aload_n 0, 1) := by decide +kernel
theorem dw_T_count_93 : decode prog_1_method_21_code 93 = .ok (.getfield 62, 3) := by decide +kernel
theorem dw_T_count_96 : decode prog_1_method_21_code 96 = .ok (.getfield 222, 3) := by decide +kernel
theorem dw_T_count_99 : decode prog_1_method_21_code 99 = .ok (.ireturn, 1) := by decide +kernel
theorem dw_T_count_100 : decode prog_1_method_21_code 100 = .ok (.aload_n 0, 1) := by decide +kernel
theorem dw_T_count_101 : decode prog_1_method_21_code 101 = .ok (.getfield 62, 3) := by decide +kernel
theorem dw_T_count_104 : decode prog_1_method_21_code 104 = .ok (.getfield 223, 3) := by decide +kernel
theorem dw_T_count_107 : decode prog_1_method_21_code 107 = .ok (.ireturn, 1) := by decide +kernel
theorem dw_T_count_108 : decode prog_1_method_21_code 108 = .ok (.aload_n 0, 1) := by decide +kernel
theorem dw_T_count_109 : decode prog_1_method_21_code 109 = .ok (.getfield 26, 3) := by decide +kernel
theorem dw_T_count_112 : decode prog_1_method_21_code 112 = .ok (.getfield 125, 3) := by decide +kernel
theorem dw_T_count_115 : decode prog_1_method_21_code 115 = .ok (.ireturn, 1) := by decide +kernel
theorem dw_T_count_116 : decode prog_1_method_21_code 116 = .ok (.aload_n 0, 1) := by decide +kernel
theorem dw_T_count_117 : decode prog_1_method_21_code 117 = .ok (.getfield 66, 3) := by decide +kernel
theorem dw_T_count_120 : decode prog_1_method_21_code 120 = .ok (.ireturn, 1) := by decide +kernel
end
section

theorem tc_Oi (ob : Nat → Nat) (σ : gx_S) (j : Nat) : tc_O ob σ (8 + j) = (8, [.int (tc_lim j), .ref (ob (55 + j))]) := by
  unfold tc_O
  rw [if_neg (show ¬ 8 + j = 0 by omega), if_neg (show ¬ 8 + j = 1 by omega), if_neg (show ¬ 8 + j = 2 by omega), if_neg (show ¬ 8 + j = 3 by omega), if_neg (show ¬ 8 + j = 4 by omega), if_neg (show ¬ 8 + j = 5 by omega), if_neg (show ¬ 8 + j = 6 by omega), if_neg (show ¬ 8 + j = 7 by omega), show 8 + j - 8 = j by omega, show 47 + (8 + j) = 55 + j by omega]
def tc_at (σ : gx_S) (j : Nat) (i : Int32) : Int32 := if i < 0 then 0 else if 32 ≤ i then 0 else σ.2.1 j i.toNatClampNeg
def tc_pt (σ : gx_S) (j : Nat) (i v : Int32) : gx_R := if i < 0 then some (σ, 0) else if i < tc_lim j then (if i < 32 then gx_st σ j 32 i v (fun σ' => some (σ', 0)) else none) else some (σ, 0)
theorem tc_in {i : Int32} (h1 : ¬ i < 0) (h2 : i < 32) : ¬ (i < 0 ∨ 32 ≤ i.toNatClampNeg) := by
  obtain ⟨k, hk, rfl⟩ := nI_of h1
  have h3 : k < 32 := (nI_ltI hk (by decide)).mp h2
  rw [nI_clamp hk]
  intro h
  rcases h with h | h
  · exact h1 h
  · omega
section TCI
variable {D : va_G} {ob : Nat → Nat} {cA : ClassId} {X : gx_X} {cc : ByteArray} {own : String} {nL fr lo : Nat} {rt : Option FieldType} {res : gx_R} {σ : gx_S} {pc : Nat} {lv : List (Nat × Value)} {st : List Value}
theorem tg_I (hX : gx_K (tc_V D ob cA) X cc own nL fr lo rt) {idx : Nat} {v : Value} (j f n : Nat) (hj : j < 47) (hf : f < 2) (hlink : Cond.fieldLink own idx (tf_8 f).1 (tf_8 f).2.1 (tf_8 f).2.2.1 ∈ gx_T) (hv : ([.int (tc_lim j), .ref (ob (55 + j))] : List Value)[f]? = some v) (hd : decode cc pc = .ok (.getfield idx, 3)) (hn : pc + 3 = n) (kk : gx_G (tc_V D ob cA) X res σ n lv (v :: st)) : gx_G (tc_V D ob cA) X res σ pc lv (.ref (ob (8 + j)) :: st) := gf_get (u := tc_u ob cA) hX (8 + j) f n (show 8 + j < 55 by omega) rfl ti_8 hf hlink (by show (tc_O ob σ (8 + j)).1 = 8; rw [tc_Oi]) (by show (tc_O ob σ (8 + j)).2[f]? = _; rw [tc_Oi]; exact hv) hd hn kk
set_option maxRecDepth 100000 in
theorem tl_Ints_at (hX : gx_K (tc_V D ob cA) X prog_3_method_2_code "TypeLoom$Ints" 2 0 0 (some .int)) (σ : gx_S) (j : Nat) (hj : j < 47) (L1 : Int32) : gx_G (tc_V D ob cA) X (some (σ, tc_at σ j L1)) σ 0 [(0, .ref (ob (8 + j))), (1, .int L1)] [] := by
  have e : (some (σ, tc_at σ j L1) : gx_R) = if L1 < 0 then some (σ, 0) else if 32 ≤ L1 then some (σ, 0) else gx_ld σ j 32 L1 (fun r => some (σ, r)) := by
    unfold tc_at gx_ld
    by_cases h : L1 < 0
    · rw [if_pos h, if_pos h]
    · rw [if_neg h, if_neg h]
      by_cases h2 : 32 ≤ L1
      · rw [if_pos h2, if_pos h2]
      · rw [if_neg h2, if_neg h2, if_neg (tc_in h (Int32.not_le.mp h2))]
  rw [e]
  refine gx_iload_n hX 1 1 dw_Ints_at_0 rfl rfl rfl ?_
  refine gx_if_lt hX 22 4 dw_Ints_at_1 (by decide) rfl (fun _ => ?_) (fun _ => ?_)
  · refine gx_iconst hX 0 23 dw_Ints_at_22 (by decide) rfl ?_
    exact gx_ret hX dw_Ints_at_23
  · refine gx_iload_n hX 1 5 dw_Ints_at_4 rfl rfl rfl ?_
    refine gx_aload_n hX 0 6 dw_Ints_at_5 rfl rfl rfl ?_
    refine tg_I hX j 1 9 hj (by decide) tw_104 rfl dw_Ints_at_6 rfl ?_
    refine gf_alen (u := tc_u ob cA) hX j (55 + j) 0 10 32 (show j < 47 from hj) rfl rfl (show Int32.ofNat 32 = 32 by decide) dw_Ints_at_9 rfl ?_
    refine gx_icmp_ge hX 22 13 dw_Ints_at_10 (by decide) rfl (fun _ => ?_) (fun _ => ?_)
    · refine gx_iconst hX 0 23 dw_Ints_at_22 (by decide) rfl ?_
      exact gx_ret hX dw_Ints_at_23
    · refine gx_aload_n hX 0 14 dw_Ints_at_13 rfl rfl rfl ?_
      refine tg_I hX j 1 17 hj (by decide) tw_104 rfl dw_Ints_at_14 rfl ?_
      refine gx_iload_n hX 1 18 dw_Ints_at_17 rfl rfl rfl ?_
      refine gf_iald (u := tc_u ob cA) hX j (55 + j) 0 19 (show j < 47 from hj) rfl rfl dw_Ints_at_18 rfl (fun r => ?_)
      refine gx_goto hX 23 dw_Ints_at_19 (by decide) ?_
      exact gx_ret hX dw_Ints_at_23
set_option maxRecDepth 100000 in
theorem tl_Ints_put (hX : gx_K (tc_V D ob cA) X prog_3_method_3_code "TypeLoom$Ints" 3 0 0 none) (σ : gx_S) (j : Nat) (hj : j < 47) (L1 L2 : Int32) : gx_G (tc_V D ob cA) X (tc_pt σ j L1 L2) σ 0 [(0, .ref (ob (8 + j))), (1, .int L1), (2, .int L2)] [] := by
  unfold tc_pt
  refine gx_iload_n hX 1 1 dw_Ints_put_0 rfl rfl rfl ?_
  refine gx_if_lt hX 12 4 dw_Ints_put_1 (by decide) rfl (fun _ => ?_) (fun _ => ?_)
  · exact gx_retv hX dw_Ints_put_12
  · refine gx_iload_n hX 1 5 dw_Ints_put_4 rfl rfl rfl ?_
    refine gx_aload_n hX 0 6 dw_Ints_put_5 rfl rfl rfl ?_
    refine tg_I hX j 0 9 hj (by decide) tw_103 rfl dw_Ints_put_6 rfl ?_
    refine gx_icmp_lt hX 13 12 dw_Ints_put_9 (by decide) rfl (fun _ => ?_) (fun _ => ?_)
    · refine gx_iload_n hX 1 14 dw_Ints_put_13 rfl rfl rfl ?_
      refine gx_aload_n hX 0 15 dw_Ints_put_14 rfl rfl rfl ?_
      refine tg_I hX j 1 18 hj (by decide) tw_104 rfl dw_Ints_put_15 rfl ?_
      refine gf_alen (u := tc_u ob cA) hX j (55 + j) 0 19 32 (show j < 47 from hj) rfl rfl (show Int32.ofNat 32 = 32 by decide) dw_Ints_put_18 rfl ?_
      refine gx_icmp_lt hX 53 22 dw_Ints_put_19 (by decide) rfl (fun _ => ?_) (fun _ => ?_)
      · refine gx_aload_n hX 0 54 dw_Ints_put_53 rfl rfl rfl ?_
        refine tg_I hX j 1 57 hj (by decide) tw_104 rfl dw_Ints_put_54 rfl ?_
        refine gx_iload_n hX 1 58 dw_Ints_put_57 rfl rfl rfl ?_
        refine gx_iload_n hX 2 59 dw_Ints_put_58 rfl rfl rfl ?_
        refine gf_iast (u := tc_u ob cA) hX j (55 + j) 0 60 (show j < 47 from hj) rfl rfl (fun _ _ _ => rfl) dw_Ints_put_59 rfl (fun σ' => ?_)
        exact gx_retv hX dw_Ints_put_60
      · exact gx_none
    · exact gx_retv hX dw_Ints_put_12
end TCI
def my_Ints_at : MethodName := ⟨"TypeLoom$Ints", "at", "(I)I"⟩
def my_Ints_put : MethodName := ⟨"TypeLoom$Ints", "put", "(II)V"⟩
theorem hy_Ints_at : (my_Ints_at.cls ≠ "java/lang/invoke/MethodHandle" ∧ my_Ints_at.cls ≠ "java/lang/invoke/VarHandle") ∧ (parseMethodDescriptor my_Ints_at.desc).map (fun d => d.parameters.length) = some 1 := by decide +kernel
theorem hy_Ints_put : (my_Ints_put.cls ≠ "java/lang/invoke/MethodHandle" ∧ my_Ints_put.cls ≠ "java/lang/invoke/VarHandle") ∧ (parseMethodDescriptor my_Ints_put.desc).map (fun d => d.parameters.length) = some 2 := by decide +kernel
theorem tm_Ints_at {D : va_G} {ob : Nat → Nat} {cA : ClassId} (l : Launch) (σ : gx_S) (j : Nat) (hj : j < 47) (L1 : Int32) : gx_C l (tc_V D ob cA) my_Ints_at prog_3_method_2_code 2 (some .int) 0 0 [.ref (ob (8 + j)), .int L1] σ (some (σ, tc_at σ j L1)) := gx_met (by decide) rfl (Nat.le_of_ble_eq_true rfl) rfl (fun X _ hX => tl_Ints_at hX σ j hj L1)
theorem tm_Ints_put {D : va_G} {ob : Nat → Nat} {cA : ClassId} (l : Launch) (σ : gx_S) (j : Nat) (hj : j < 47) (L1 L2 : Int32) : gx_C l (tc_V D ob cA) my_Ints_put prog_3_method_3_code 3 none 0 0 [.ref (ob (8 + j)), .int L1, .int L2] σ (tc_pt σ j L1 L2) := gx_met (by decide) rfl (Nat.le_of_ble_eq_true rfl) rfl (fun X _ hX => tl_Ints_put hX σ j hj L1 L2)
section TCJ
variable {D : va_G} {ob : Nat → Nat} {cA : ClassId} {X : gx_X} {cc : ByteArray} {own : String} {nL fr lo : Nat} {rt : Option FieldType} {σ : gx_S} {pc : Nat} {lv : List (Nat × Value)} {st : List Value}
theorem tc_recvI (j : Nat) (hj : j < 47) : ∃ (q0 ci : Nat) (q : u_T × Nat), (tc_V D ob cA).1.2.1[ci]? = some ("TypeLoom$Ints", q) ∧ ∀ ar, ∃ fs, ((tc_V D ob cA).2.1 ar σ)[q0]? = some (ob (8 + j), .inr (ci, fs)) := gf_recv (u := tc_u ob cA) (8 + j) (show 8 + j < 55 by omega) rfl (by show (tc_O ob σ (8 + j)).1 = 8; rw [tc_Oi])
theorem tr_at (hX : gx_K (tc_V D ob cA) X cc own nL fr lo rt) {idx q : Nat} {i : Int32} {k : Int32 → gx_R} (j n : Nat) (hj : j < 47 ∧ 8 + j = q) (hlink : Cond.methodLink own idx ({ cls := "TypeLoom$Ints", name := "at", desc := "(I)I" } : Jvm.MethodName) ∈ gx_T) (hroom : 0 + 1 ≤ fr ∧ 8 + (2 + 11) + 0 ≤ lo) (hst : (st.map fun v => v.category).sum ≤ 8) (hd : decode cc pc = .ok (.invokevirtual idx, 3)) (hn : pc + 3 = n) (kk : ∀ r, gx_G (tc_V D ob cA) X (k r) σ n lv (.int r :: st)) : gx_G (tc_V D ob cA) X (gx_bv (tc_at σ j i) k) σ pc lv (.int i :: .ref (ob q) :: st) := by
  obtain ⟨hj, rfl⟩ := hj
  exact gx_callI (resy := some (σ, tc_at σ j i)) (k := fun _ r => k r) hX [.int i] n rfl (tm_Ints_at _ σ j hj i) hy_Ints_at tw_522 hlink tw_520 tw_521 tw_72 (tc_recvI j hj) hroom hst hd hn rfl (fun σ' r h => by cases h; exact kk _)
theorem tr_put (hX : gx_K (tc_V D ob cA) X cc own nL fr lo rt) {idx q : Nat} {i v : Int32} {k : gx_S → Int32 → gx_R} (j n : Nat) (hj : j < 47 ∧ 8 + j = q) (hlink : Cond.methodLink own idx ({ cls := "TypeLoom$Ints", name := "put", desc := "(II)V" } : Jvm.MethodName) ∈ gx_T) (hroom : 0 + 1 ≤ fr ∧ 8 + (3 + 11) + 0 ≤ lo) (hst : (st.map fun v => v.category).sum ≤ 8) (hd : decode cc pc = .ok (.invokevirtual idx, 3)) (hn : pc + 3 = n) (kk : ∀ σ' r, gx_G (tc_V D ob cA) X (k σ' r) σ' n lv st) : gx_G (tc_V D ob cA) X (gx_bd (tc_pt σ j i v) k) σ pc lv (.int v :: .int i :: .ref (ob q) :: st) := by
  obtain ⟨hj, rfl⟩ := hj
  exact gx_callW hX [.int i, .int v] n (tm_Ints_put _ σ j hj i v) hy_Ints_put tw_486 hlink tw_484 tw_485 tw_72 (tc_recvI j hj) hroom hst hd hn rfl (fun σ' r _ => kk σ' r)
end TCJ
end
section
def kt_Constructors_add (σ : gx_S) (L1 : Int32) (L2 : Int32) : gx_R :=
  if (σ.1 0) < 2048 then
    gx_bd (tc_pt σ 0 ((σ.1 0)) L1) (fun σ1 _ =>
    gx_bd (tc_pt σ1 1 ((σ1.1 0)) L2) (fun σ3 _ =>
    gx_sb (gx_si σ3 0 ((((σ3.1 0)) + 1))) (fun σ5 =>
    some (σ5, (((σ5.1 0)) - 1)))))
  else
    some (σ, (-2))
set_option maxRecDepth 100000 in
set_option maxHeartbeats 4000000 in
theorem tl_Constructors_add {D : va_G} {ob : Nat → Nat} {cA : ClassId} {X : gx_X} (hX : gx_K (tc_V D ob cA) X prog_2_method_2_code "TypeLoom$Constructors" 3 1 22 (some .int)) (σ : gx_S) (L1 : Int32) (L2 : Int32) : gx_G (tc_V D ob cA) X (kt_Constructors_add σ L1 L2) σ 0 [(0, .ref (ob 1)), (1, .int L1), (2, .int L2)] [] := by
  unfold kt_Constructors_add
  refine gx_aload_n hX 0 1 dw_Constructors_add_0 rfl rfl rfl ?_
  refine tg_1 hX 2 4 (by decide) tw_113 rfl dw_Constructors_add_1 rfl ?_
  refine gx_sipush hX 2048 7 dw_Constructors_add_4 (by decide) rfl ?_
  refine gx_icmp_lt hX 13 10 dw_Constructors_add_7 (by decide) rfl (fun _ => ?_) (fun _ => ?_)
  · refine gx_aload_n hX 0 14 dw_Constructors_add_13 rfl rfl rfl ?_
    refine tg_1 hX 0 17 (by decide) tw_111 rfl dw_Constructors_add_14 rfl ?_
    refine gx_aload_n hX 0 18 dw_Constructors_add_17 rfl rfl rfl ?_
    refine tg_1 hX 2 21 (by decide) tw_113 rfl dw_Constructors_add_18 rfl ?_
    refine gx_iload_n hX 1 22 dw_Constructors_add_21 rfl rfl rfl ?_
    refine tr_put hX 0 25 (by decide) tw_483 ⟨Nat.le_of_ble_eq_true rfl, Nat.le_of_ble_eq_true rfl⟩ (Nat.le_of_ble_eq_true rfl) dw_Constructors_add_22 rfl (fun σ1 _ => ?_)
    refine gx_aload_n hX 0 26 dw_Constructors_add_25 rfl rfl rfl ?_
    refine tg_1 hX 1 29 (by decide) tw_112 rfl dw_Constructors_add_26 rfl ?_
    refine gx_aload_n hX 0 30 dw_Constructors_add_29 rfl rfl rfl ?_
    refine tg_1 hX 2 33 (by decide) tw_113 rfl dw_Constructors_add_30 rfl ?_
    refine gx_iload_n hX 2 34 dw_Constructors_add_33 rfl rfl rfl ?_
    refine tr_put hX 1 37 (by decide) tw_483 ⟨Nat.le_of_ble_eq_true rfl, Nat.le_of_ble_eq_true rfl⟩ (Nat.le_of_ble_eq_true rfl) dw_Constructors_add_34 rfl (fun σ3 _ => ?_)
    refine gx_aload_n hX 0 38 dw_Constructors_add_37 rfl rfl rfl ?_
    refine gx_dup hX 39 dw_Constructors_add_38 rfl rfl ?_
    refine tg_1 hX 2 42 (by decide) tw_113 rfl dw_Constructors_add_39 rfl ?_
    refine gx_iconst hX 1 43 dw_Constructors_add_42 (by decide) rfl ?_
    refine gx_iadd hX 44 dw_Constructors_add_43 rfl ?_
    refine tp_0 hX 47 tw_113 dw_Constructors_add_44 rfl (fun σ5 => ?_)
    refine gx_aload_n hX 0 48 dw_Constructors_add_47 rfl rfl rfl ?_
    refine tg_1 hX 2 51 (by decide) tw_113 rfl dw_Constructors_add_48 rfl ?_
    refine gx_iconst hX 1 52 dw_Constructors_add_51 (by decide) rfl ?_
    refine gx_isub hX 53 dw_Constructors_add_52 rfl ?_
    exact gx_ret hX dw_Constructors_add_53
  · refine gx_bipush hX (-2) 12 dw_Constructors_add_10 (by decide) rfl ?_
    exact gx_ret hX dw_Constructors_add_12
def my_Constructors_add : MethodName := ⟨"TypeLoom$Constructors", "add", "(II)I"⟩
theorem hy_Constructors_add : (my_Constructors_add.cls ≠ "java/lang/invoke/MethodHandle" ∧ my_Constructors_add.cls ≠ "java/lang/invoke/VarHandle") ∧ (parseMethodDescriptor my_Constructors_add.desc).map (fun d => d.parameters.length) = some 2 := by decide +kernel
theorem tm_Constructors_add {D : va_G} {ob : Nat → Nat} {cA : ClassId} (l : Launch) (σ : gx_S) (L1 : Int32) (L2 : Int32) : gx_C l (tc_V D ob cA) my_Constructors_add prog_2_method_2_code 3 (some .int) 1 22 [.ref (ob 1), .int L1, .int L2] σ (kt_Constructors_add σ L1 L2) := gx_met (by decide) rfl (Nat.le_of_ble_eq_true rfl) rfl (fun X _ hX => tl_Constructors_add hX σ L1 L2)
theorem tr_Constructors_add {D : va_G} {ob : Nat → Nat} {cA : ClassId} {X : gx_X} {cc : ByteArray} {own : String} {nL fr lo : Nat} {rt : Option FieldType} {σ : gx_S} {pc : Nat} {lv : List (Nat × Value)} {st : List Value} (hX : gx_K (tc_V D ob cA) X cc own nL fr lo rt) {idx : Nat} {L1 : Int32} {L2 : Int32} {k : gx_S → Int32 → gx_R} (n : Nat) (hlink : Cond.methodLink own idx ({ cls := "TypeLoom$Constructors", name := "add", desc := "(II)I" } : Jvm.MethodName) ∈ gx_T) (hroom : 1 + 1 ≤ fr ∧ 8 + (3 + 11) + 22 ≤ lo) (hst : (st.map fun v => v.category).sum ≤ 8) (hd : decode cc pc = .ok (.invokevirtual idx, 3)) (hn : pc + 3 = n) (kk : ∀ σ' r, gx_G (tc_V D ob cA) X (k σ' r) σ' n lv (.int r :: st)) : gx_G (tc_V D ob cA) X (gx_bd (kt_Constructors_add σ L1 L2) k) σ pc lv (.int L2 :: .int L1 :: .ref (ob 1) :: st) :=
  gx_callI hX [.int L1, .int L2] n rfl (tm_Constructors_add _ σ L1 L2) hy_Constructors_add tw_482 hlink tw_480 tw_481 tw_71 (gf_recv 1 (show 1 < 55 by decide) rfl rfl) hroom hst hd hn rfl (fun σ' r _ => kk σ' r)
def kt_Constructors_has (σ : gx_S) (L1 : Int32) : gx_R :=
  if L1 < 0 then
    gx_rz σ 0
  else
    if (σ.1 0) ≤ L1 then
      gx_rz σ 0
    else
      gx_rz σ 1
set_option maxRecDepth 100000 in
set_option maxHeartbeats 4000000 in
theorem tl_Constructors_has {D : va_G} {ob : Nat → Nat} {cA : ClassId} {X : gx_X} (hX : gx_K (tc_V D ob cA) X prog_2_method_3_code "TypeLoom$Constructors" 2 0 0 (some .boolean)) (σ : gx_S) (L1 : Int32) : gx_G (tc_V D ob cA) X (kt_Constructors_has σ L1) σ 0 [(0, .ref (ob 1)), (1, .int L1)] [] := by
  unfold kt_Constructors_has
  refine gx_iload_n hX 1 1 dw_Constructors_has_0 rfl rfl rfl ?_
  refine gx_if_lt hX 16 4 dw_Constructors_has_1 (by decide) rfl (fun _ => ?_) (fun _ => ?_)
  · refine gx_iconst hX 0 17 dw_Constructors_has_16 (by decide) rfl ?_
    exact gx_retz hX dw_Constructors_has_17
  · refine gx_iload_n hX 1 5 dw_Constructors_has_4 rfl rfl rfl ?_
    refine gx_aload_n hX 0 6 dw_Constructors_has_5 rfl rfl rfl ?_
    refine tg_1 hX 2 9 (by decide) tw_113 rfl dw_Constructors_has_6 rfl ?_
    refine gx_icmp_ge hX 16 12 dw_Constructors_has_9 (by decide) rfl (fun _ => ?_) (fun _ => ?_)
    · refine gx_iconst hX 0 17 dw_Constructors_has_16 (by decide) rfl ?_
      exact gx_retz hX dw_Constructors_has_17
    · refine gx_iconst hX 1 13 dw_Constructors_has_12 (by decide) rfl ?_
      refine gx_goto hX 17 dw_Constructors_has_13 (by decide) ?_
      exact gx_retz hX dw_Constructors_has_17
def my_Constructors_has : MethodName := ⟨"TypeLoom$Constructors", "has", "(I)Z"⟩
theorem hy_Constructors_has : (my_Constructors_has.cls ≠ "java/lang/invoke/MethodHandle" ∧ my_Constructors_has.cls ≠ "java/lang/invoke/VarHandle") ∧ (parseMethodDescriptor my_Constructors_has.desc).map (fun d => d.parameters.length) = some 1 := by decide +kernel
theorem tm_Constructors_has {D : va_G} {ob : Nat → Nat} {cA : ClassId} (l : Launch) (σ : gx_S) (L1 : Int32) : gx_C l (tc_V D ob cA) my_Constructors_has prog_2_method_3_code 2 (some .boolean) 0 0 [.ref (ob 1), .int L1] σ (kt_Constructors_has σ L1) := gx_met (by decide) rfl (Nat.le_of_ble_eq_true rfl) rfl (fun X _ hX => tl_Constructors_has hX σ L1)
theorem tr_Constructors_has {D : va_G} {ob : Nat → Nat} {cA : ClassId} {X : gx_X} {cc : ByteArray} {own : String} {nL fr lo : Nat} {rt : Option FieldType} {σ : gx_S} {pc : Nat} {lv : List (Nat × Value)} {st : List Value} (hX : gx_K (tc_V D ob cA) X cc own nL fr lo rt) {idx : Nat} {L1 : Int32} {k : gx_S → Int32 → gx_R} (n : Nat) (hlink : Cond.methodLink own idx ({ cls := "TypeLoom$Constructors", name := "has", desc := "(I)Z" } : Jvm.MethodName) ∈ gx_T) (hroom : 0 + 1 ≤ fr ∧ 8 + (2 + 11) + 0 ≤ lo) (hst : (st.map fun v => v.category).sum ≤ 8) (hd : decode cc pc = .ok (.invokevirtual idx, 3)) (hn : pc + 3 = n) (kk : ∀ σ' r, gx_G (tc_V D ob cA) X (k σ' r) σ' n lv (.int r :: st)) : gx_G (tc_V D ob cA) X (gx_bd (kt_Constructors_has σ L1) k) σ pc lv (.int L1 :: .ref (ob 1) :: st) :=
  gx_callI hX [.int L1] n rfl (tm_Constructors_has _ σ L1) hy_Constructors_has tw_540 hlink tw_538 tw_539 tw_71 (gf_recv 1 (show 1 < 55 by decide) rfl rfl) hroom hst hd hn rfl (fun σ' r _ => kk σ' r)
def kt_Constructors_mayBeSet (σ : gx_S) (L1 : Int32) (L2 : Int32) : gx_R :=
  gx_lp (α := gx_S → Int32 → Int32 → Int32 → gx_R) (fun _ _ _ _ => none) (fun again2 (σ1 : gx_S) (L1 : Int32) (L2 : Int32) (L3 : Int32) =>
    if 31 ≤ L3 then
    gx_rz σ1 1
  else
    gx_jn (fun (σ2 : gx_S) (L1 : Int32) (L2 : Int32) (L3 : Int32) (S0 : Int32) =>
      gx_jn (fun (σ3 : gx_S) (L1 : Int32) (L2 : Int32) (L3 : Int32) =>
        gx_bv (L3 + 1) (fun x4 =>
        again2 σ3 L1 L2 x4)) (fun j64 =>
      if S0 = 0 then
        j64 σ2 L1 L2 L3
      else
        gx_bd (kt_Constructors_has σ2 L3) (fun σ5 r6 =>
        if r6 = 0 then
          gx_rz σ5 0
        else
          gx_bv (tc_at σ5 0 L3) (fun r7 =>
          if r7 = 0 then
            if L2 = 0 then
              j64 σ5 L1 L2 L3
            else
              gx_bv (tc_at σ5 1 L3) (fun r8 =>
              if r8 = 0 then
                gx_rz σ5 0
              else
                j64 σ5 L1 L2 L3)
          else
            gx_rz σ5 0)))) (fun j21 =>
    if (((L1 >>> (L3 &&& 31))) &&& 1) = 0 then
      j21 σ1 L1 L2 L3 0
    else
      j21 σ1 L1 L2 L3 1)) gx_F σ L1 L2 0
set_option maxRecDepth 100000 in
set_option maxHeartbeats 4000000 in
theorem tl_Constructors_mayBeSet {D : va_G} {ob : Nat → Nat} {cA : ClassId} {X : gx_X} (hX : gx_K (tc_V D ob cA) X prog_2_method_6_code "TypeLoom$Constructors" 5 1 21 (some .boolean)) (σ : gx_S) (L1 : Int32) (L2 : Int32) : gx_G (tc_V D ob cA) X (kt_Constructors_mayBeSet σ L1 L2) σ 0 [(0, .ref (ob 1)), (1, .int L1), (2, .int L2)] [] := by
  unfold kt_Constructors_mayBeSet
  refine gx_iconst hX 0 1 dw_Constructors_mayBeSet_0 (by decide) rfl ?_
  refine gx_istore_n hX [(3, .int 0), (0, .ref (ob 1)), (1, .int L1), (2, .int L2)] 2 dw_Constructors_mayBeSet_1 rfl (by decide) rfl rfl ?_
  refine gx_pick (lv' := [(0, .ref (ob 1)), (1, .int L1), (2, .int L2), (3, .int 0)]) hX [1, 2, 3, 0] rfl (gx_lpI (fun (f : gx_S → Int32 → Int32 → Int32 → gx_R) => ∀ (σ1 : gx_S) (L1 : Int32) (L2 : Int32) (L3 : Int32), gx_G (tc_V D ob cA) X (f σ1 L1 L2 L3) σ1 2 [(0, .ref (ob 1)), (1, .int L1), (2, .int L2), (3, .int L3)] []) (fun _ _ _ _ => gx_none) (fun again2 ih2 σ1 L1 L2 L3 => ?_) _ σ L1 L2 0)
  refine gx_iload_n hX 3 3 dw_Constructors_mayBeSet_2 rfl rfl rfl ?_
  refine gx_bipush hX 31 5 dw_Constructors_mayBeSet_3 (by decide) rfl ?_
  refine gx_icmp_ge hX 70 8 dw_Constructors_mayBeSet_5 (by decide) rfl (fun _ => ?_) (fun _ => ?_)
  · refine gx_iconst hX 1 71 dw_Constructors_mayBeSet_70 (by decide) rfl ?_
    exact gx_retz hX dw_Constructors_mayBeSet_71
  · refine gx_iload_n hX 1 9 dw_Constructors_mayBeSet_8 rfl rfl rfl ?_
    refine gx_iload_n hX 3 10 dw_Constructors_mayBeSet_9 rfl rfl rfl ?_
    refine gx_ishr hX 11 dw_Constructors_mayBeSet_10 rfl ?_
    refine gx_iconst hX 1 12 dw_Constructors_mayBeSet_11 (by decide) rfl ?_
    refine gx_iand hX 13 dw_Constructors_mayBeSet_12 rfl ?_
    refine gx_jnI (fun (j : gx_S → Int32 → Int32 → Int32 → Int32 → gx_R) => ∀ (σ2 : gx_S) (L1 : Int32) (L2 : Int32) (L3 : Int32) (S0 : Int32), gx_G (tc_V D ob cA) X (j σ2 L1 L2 L3 S0) σ2 21 [(0, .ref (ob 1)), (1, .int L1), (2, .int L2), (3, .int L3)] [.int S0]) (fun σ2 L1 L2 L3 S0 => ?_) (fun j21 h21 => ?_)
    · refine gx_istore hX [(4, .int S0), (0, .ref (ob 1)), (1, .int L1), (2, .int L2), (3, .int L3)] 23 dw_Constructors_mayBeSet_21 (by decide) rfl rfl ?_
      refine gx_iload hX 0 25 dw_Constructors_mayBeSet_23 rfl rfl ?_
      refine gx_jnI (fun (j : gx_S → Int32 → Int32 → Int32 → gx_R) => ∀ (σ3 : gx_S) (L1 : Int32) (L2 : Int32) (L3 : Int32), gx_G (tc_V D ob cA) X (j σ3 L1 L2 L3) σ3 64 [(0, .ref (ob 1)), (1, .int L1), (2, .int L2), (3, .int L3)] []) (fun σ3 L1 L2 L3 => ?_) (fun j64 h64 => ?_)
      · refine gx_iincN hX (q := 3) (fun x4 => [(3, .int x4), (0, .ref (ob 1)), (1, .int L1), (2, .int L2)]) 67 dw_Constructors_mayBeSet_64 rfl rfl (by decide) (fun _ => rfl) rfl (fun x4 => ?_)
        refine gx_goto hX 2 dw_Constructors_mayBeSet_67 (by decide) ?_
        exact gx_pick (lv' := [(0, .ref (ob 1)), (1, .int L1), (2, .int L2), (3, .int x4)]) hX [1, 2, 3, 0] rfl (ih2 σ3 L1 L2 x4)
      refine gx_if_eq hX 64 28 dw_Constructors_mayBeSet_25 (by decide) rfl (fun _ => ?_) (fun _ => ?_)
      · exact gx_pick (lv' := [(0, .ref (ob 1)), (1, .int L1), (2, .int L2), (3, .int L3)]) hX [1, 2, 3, 4] rfl (h64 σ2 L1 L2 L3)
      · refine gx_aload_n hX 1 29 dw_Constructors_mayBeSet_28 rfl rfl rfl ?_
        refine gx_iload_n hX 4 30 dw_Constructors_mayBeSet_29 rfl rfl rfl ?_
        refine tr_Constructors_has hX 33 tw_586 ⟨Nat.le_of_ble_eq_true rfl, Nat.le_of_ble_eq_true rfl⟩ (Nat.le_of_ble_eq_true rfl) dw_Constructors_mayBeSet_30 rfl (fun σ5 r6 => ?_)
        refine gx_if_eq hX 62 36 dw_Constructors_mayBeSet_33 (by decide) rfl (fun _ => ?_) (fun _ => ?_)
        · refine gx_iconst hX 0 63 dw_Constructors_mayBeSet_62 (by decide) rfl ?_
          exact gx_retz hX dw_Constructors_mayBeSet_63
        · refine gx_aload_n hX 1 37 dw_Constructors_mayBeSet_36 rfl rfl rfl ?_
          refine tg_1 hX 0 40 (by decide) tw_111 rfl dw_Constructors_mayBeSet_37 rfl ?_
          refine gx_iload_n hX 4 41 dw_Constructors_mayBeSet_40 rfl rfl rfl ?_
          refine tr_at hX 0 44 (by decide) tw_545 ⟨Nat.le_of_ble_eq_true rfl, Nat.le_of_ble_eq_true rfl⟩ (Nat.le_of_ble_eq_true rfl) dw_Constructors_mayBeSet_41 rfl (fun r7 => ?_)
          refine gx_if_ne hX 62 47 dw_Constructors_mayBeSet_44 (by decide) rfl (fun _ => ?_) (fun _ => ?_)
          · refine gx_iconst hX 0 63 dw_Constructors_mayBeSet_62 (by decide) rfl ?_
            exact gx_retz hX dw_Constructors_mayBeSet_63
          · refine gx_iload_n hX 3 48 dw_Constructors_mayBeSet_47 rfl rfl rfl ?_
            refine gx_if_eq hX 64 51 dw_Constructors_mayBeSet_48 (by decide) rfl (fun _ => ?_) (fun _ => ?_)
            · exact gx_pick (lv' := [(0, .ref (ob 1)), (1, .int L1), (2, .int L2), (3, .int L3)]) hX [1, 2, 3, 4] rfl (h64 σ5 L1 L2 L3)
            · refine gx_aload_n hX 1 52 dw_Constructors_mayBeSet_51 rfl rfl rfl ?_
              refine tg_1 hX 1 55 (by decide) tw_112 rfl dw_Constructors_mayBeSet_52 rfl ?_
              refine gx_iload_n hX 4 56 dw_Constructors_mayBeSet_55 rfl rfl rfl ?_
              refine tr_at hX 1 59 (by decide) tw_545 ⟨Nat.le_of_ble_eq_true rfl, Nat.le_of_ble_eq_true rfl⟩ (Nat.le_of_ble_eq_true rfl) dw_Constructors_mayBeSet_56 rfl (fun r8 => ?_)
              refine gx_if_ne hX 64 62 dw_Constructors_mayBeSet_59 (by decide) rfl (fun _ => ?_) (fun _ => ?_)
              · exact gx_pick (lv' := [(0, .ref (ob 1)), (1, .int L1), (2, .int L2), (3, .int L3)]) hX [1, 2, 3, 4] rfl (h64 σ5 L1 L2 L3)
              · refine gx_iconst hX 0 63 dw_Constructors_mayBeSet_62 (by decide) rfl ?_
                exact gx_retz hX dw_Constructors_mayBeSet_63
    refine gx_if_eq hX 20 16 dw_Constructors_mayBeSet_13 (by decide) rfl (fun _ => ?_) (fun _ => ?_)
    · refine gx_iconst hX 0 21 dw_Constructors_mayBeSet_20 (by decide) rfl ?_
      exact gx_pick (lv' := [(0, .ref (ob 1)), (1, .int L1), (2, .int L2), (3, .int L3)]) hX [0, 1, 2, 3] rfl (h21 σ1 L1 L2 L3 0)
    · refine gx_iconst hX 1 17 dw_Constructors_mayBeSet_16 (by decide) rfl ?_
      refine gx_goto hX 21 dw_Constructors_mayBeSet_17 (by decide) ?_
      exact gx_pick (lv' := [(0, .ref (ob 1)), (1, .int L1), (2, .int L2), (3, .int L3)]) hX [0, 1, 2, 3] rfl (h21 σ1 L1 L2 L3 1)
def my_Constructors_mayBeSet : MethodName := ⟨"TypeLoom$Constructors", "mayBeSet", "(IZ)Z"⟩
theorem hy_Constructors_mayBeSet : (my_Constructors_mayBeSet.cls ≠ "java/lang/invoke/MethodHandle" ∧ my_Constructors_mayBeSet.cls ≠ "java/lang/invoke/VarHandle") ∧ (parseMethodDescriptor my_Constructors_mayBeSet.desc).map (fun d => d.parameters.length) = some 2 := by decide +kernel
theorem tm_Constructors_mayBeSet {D : va_G} {ob : Nat → Nat} {cA : ClassId} (l : Launch) (σ : gx_S) (L1 : Int32) (L2 : Int32) : gx_C l (tc_V D ob cA) my_Constructors_mayBeSet prog_2_method_6_code 5 (some .boolean) 1 21 [.ref (ob 1), .int L1, .int L2] σ (kt_Constructors_mayBeSet σ L1 L2) := gx_met (by decide) rfl (Nat.le_of_ble_eq_true rfl) rfl (fun X _ hX => tl_Constructors_mayBeSet hX σ L1 L2)
theorem tr_Constructors_mayBeSet {D : va_G} {ob : Nat → Nat} {cA : ClassId} {X : gx_X} {cc : ByteArray} {own : String} {nL fr lo : Nat} {rt : Option FieldType} {σ : gx_S} {pc : Nat} {lv : List (Nat × Value)} {st : List Value} (hX : gx_K (tc_V D ob cA) X cc own nL fr lo rt) {idx : Nat} {L1 : Int32} {L2 : Int32} {k : gx_S → Int32 → gx_R} (n : Nat) (hlink : Cond.methodLink own idx ({ cls := "TypeLoom$Constructors", name := "mayBeSet", desc := "(IZ)Z" } : Jvm.MethodName) ∈ gx_T) (hroom : 1 + 1 ≤ fr ∧ 8 + (5 + 11) + 21 ≤ lo) (hst : (st.map fun v => v.category).sum ≤ 8) (hd : decode cc pc = .ok (.invokevirtual idx, 3)) (hn : pc + 3 = n) (kk : ∀ σ' r, gx_G (tc_V D ob cA) X (k σ' r) σ' n lv (.int r :: st)) : gx_G (tc_V D ob cA) X (gx_bd (kt_Constructors_mayBeSet σ L1 L2) k) σ pc lv (.int L2 :: .int L1 :: .ref (ob 1) :: st) :=
  gx_callI hX [.int L1, .int L2] n rfl (tm_Constructors_mayBeSet _ σ L1 L2) hy_Constructors_mayBeSet tw_585 hlink tw_583 tw_584 tw_71 (gf_recv 1 (show 1 < 55 by decide) rfl rfl) hroom hst hd hn rfl (fun σ' r _ => kk σ' r)
def kt_Pushed_drop (σ : gx_S)  : gx_R :=
  gx_sb (gx_si σ 1 0) (fun σ1 =>
  gx_sb (gx_si σ1 2 0) (fun σ2 =>
  some (σ2, 0)))
set_option maxRecDepth 100000 in
set_option maxHeartbeats 4000000 in
theorem tl_Pushed_drop {D : va_G} {ob : Nat → Nat} {cA : ClassId} {X : gx_X} (hX : gx_K (tc_V D ob cA) X prog_4_method_4_code "TypeLoom$Pushed" 1 0 0 none) (σ : gx_S)  : gx_G (tc_V D ob cA) X (kt_Pushed_drop σ ) σ 0 [(0, .ref (ob 2))] [] := by
  unfold kt_Pushed_drop
  refine gx_aload_n hX 0 1 dw_Pushed_drop_0 rfl rfl rfl ?_
  refine gx_iconst hX 0 2 dw_Pushed_drop_1 (by decide) rfl ?_
  refine tp_1 hX 5 tw_134 dw_Pushed_drop_2 rfl (fun σ1 => ?_)
  refine gx_aload_n hX 0 6 dw_Pushed_drop_5 rfl rfl rfl ?_
  refine gx_iconst hX 0 7 dw_Pushed_drop_6 (by decide) rfl ?_
  refine tp_2 hX 10 tw_136 dw_Pushed_drop_7 rfl (fun σ2 => ?_)
  exact gx_retv hX dw_Pushed_drop_10
def my_Pushed_drop : MethodName := ⟨"TypeLoom$Pushed", "drop", "()V"⟩
theorem hy_Pushed_drop : (my_Pushed_drop.cls ≠ "java/lang/invoke/MethodHandle" ∧ my_Pushed_drop.cls ≠ "java/lang/invoke/VarHandle") ∧ (parseMethodDescriptor my_Pushed_drop.desc).map (fun d => d.parameters.length) = some 0 := by decide +kernel
theorem tm_Pushed_drop {D : va_G} {ob : Nat → Nat} {cA : ClassId} (l : Launch) (σ : gx_S)  : gx_C l (tc_V D ob cA) my_Pushed_drop prog_4_method_4_code 1 none 0 0 [.ref (ob 2)] σ (kt_Pushed_drop σ ) := gx_met (by decide) rfl (Nat.le_of_ble_eq_true rfl) rfl (fun X _ hX => tl_Pushed_drop hX σ )
theorem tr_Pushed_drop {D : va_G} {ob : Nat → Nat} {cA : ClassId} {X : gx_X} {cc : ByteArray} {own : String} {nL fr lo : Nat} {rt : Option FieldType} {σ : gx_S} {pc : Nat} {lv : List (Nat × Value)} {st : List Value} (hX : gx_K (tc_V D ob cA) X cc own nL fr lo rt) {idx : Nat}  {k : gx_S → Int32 → gx_R} (n : Nat) (hlink : Cond.methodLink own idx ({ cls := "TypeLoom$Pushed", name := "drop", desc := "()V" } : Jvm.MethodName) ∈ gx_T) (hroom : 0 + 1 ≤ fr ∧ 8 + (1 + 11) + 0 ≤ lo) (hst : (st.map fun v => v.category).sum ≤ 8) (hd : decode cc pc = .ok (.invokevirtual idx, 3)) (hn : pc + 3 = n) (kk : ∀ σ' r, gx_G (tc_V D ob cA) X (k σ' r) σ' n lv (st)) : gx_G (tc_V D ob cA) X (gx_bd (kt_Pushed_drop σ ) k) σ pc lv (.ref (ob 2) :: st) :=
  gx_callW hX [] n (tm_Pushed_drop _ σ ) hy_Pushed_drop tw_564 hlink tw_562 tw_563 tw_73 (gf_recv 2 (show 2 < 55 by decide) rfl rfl) hroom hst hd hn rfl (fun σ' r _ => kk σ' r)
def kt_Web_isType (σ : gx_S) (L1 : Int32) : gx_R :=
  if L1 < 0 then
    gx_rz σ 0
  else
    if (σ.1 5) ≤ L1 then
      gx_rz σ 0
    else
      gx_rz σ 1
set_option maxRecDepth 100000 in
set_option maxHeartbeats 4000000 in
theorem tl_Web_isType {D : va_G} {ob : Nat → Nat} {cA : ClassId} {X : gx_X} (hX : gx_K (tc_V D ob cA) X prog_9_method_3_code "TypeLoom$Web" 2 0 0 (some .boolean)) (σ : gx_S) (L1 : Int32) : gx_G (tc_V D ob cA) X (kt_Web_isType σ L1) σ 0 [(0, .ref (ob 3)), (1, .int L1)] [] := by
  unfold kt_Web_isType
  refine gx_iload_n hX 1 1 dw_Web_isType_0 rfl rfl rfl ?_
  refine gx_if_lt hX 16 4 dw_Web_isType_1 (by decide) rfl (fun _ => ?_) (fun _ => ?_)
  · refine gx_iconst hX 0 17 dw_Web_isType_16 (by decide) rfl ?_
    exact gx_retz hX dw_Web_isType_17
  · refine gx_iload_n hX 1 5 dw_Web_isType_4 rfl rfl rfl ?_
    refine gx_aload_n hX 0 6 dw_Web_isType_5 rfl rfl rfl ?_
    refine tg_3 hX 14 9 (by decide) tw_203 rfl dw_Web_isType_6 rfl ?_
    refine gx_icmp_ge hX 16 12 dw_Web_isType_9 (by decide) rfl (fun _ => ?_) (fun _ => ?_)
    · refine gx_iconst hX 0 17 dw_Web_isType_16 (by decide) rfl ?_
      exact gx_retz hX dw_Web_isType_17
    · refine gx_iconst hX 1 13 dw_Web_isType_12 (by decide) rfl ?_
      refine gx_goto hX 17 dw_Web_isType_13 (by decide) ?_
      exact gx_retz hX dw_Web_isType_17
def my_Web_isType : MethodName := ⟨"TypeLoom$Web", "isType", "(I)Z"⟩
theorem hy_Web_isType : (my_Web_isType.cls ≠ "java/lang/invoke/MethodHandle" ∧ my_Web_isType.cls ≠ "java/lang/invoke/VarHandle") ∧ (parseMethodDescriptor my_Web_isType.desc).map (fun d => d.parameters.length) = some 1 := by decide +kernel
theorem tm_Web_isType {D : va_G} {ob : Nat → Nat} {cA : ClassId} (l : Launch) (σ : gx_S) (L1 : Int32) : gx_C l (tc_V D ob cA) my_Web_isType prog_9_method_3_code 2 (some .boolean) 0 0 [.ref (ob 3), .int L1] σ (kt_Web_isType σ L1) := gx_met (by decide) rfl (Nat.le_of_ble_eq_true rfl) rfl (fun X _ hX => tl_Web_isType hX σ L1)
theorem tr_Web_isType {D : va_G} {ob : Nat → Nat} {cA : ClassId} {X : gx_X} {cc : ByteArray} {own : String} {nL fr lo : Nat} {rt : Option FieldType} {σ : gx_S} {pc : Nat} {lv : List (Nat × Value)} {st : List Value} (hX : gx_K (tc_V D ob cA) X cc own nL fr lo rt) {idx : Nat} {L1 : Int32} {k : gx_S → Int32 → gx_R} (n : Nat) (hlink : Cond.methodLink own idx ({ cls := "TypeLoom$Web", name := "isType", desc := "(I)Z" } : Jvm.MethodName) ∈ gx_T) (hroom : 0 + 1 ≤ fr ∧ 8 + (2 + 11) + 0 ≤ lo) (hst : (st.map fun v => v.category).sum ≤ 8) (hd : decode cc pc = .ok (.invokevirtual idx, 3)) (hn : pc + 3 = n) (kk : ∀ σ' r, gx_G (tc_V D ob cA) X (k σ' r) σ' n lv (.int r :: st)) : gx_G (tc_V D ob cA) X (gx_bd (kt_Web_isType σ L1) k) σ pc lv (.int L1 :: .ref (ob 3) :: st) :=
  gx_callI hX [.int L1] n rfl (tm_Web_isType _ σ L1) hy_Web_isType tw_514 hlink tw_512 tw_513 tw_74 (gf_recv 3 (show 3 < 55 by decide) rfl rfl) hroom hst hd hn rfl (fun σ' r _ => kk σ' r)
def kt_Web_hasRoom (σ : gx_S) (L1 : Int32) (L2 : Int32) : gx_R :=
  if 24576 < (((σ.1 5)) + L1) then
    gx_rz σ 0
  else
    if 65536 < (((σ.1 6)) + L2) then
      gx_rz σ 0
    else
      gx_rz σ 1
set_option maxRecDepth 100000 in
set_option maxHeartbeats 4000000 in
theorem tl_Web_hasRoom {D : va_G} {ob : Nat → Nat} {cA : ClassId} {X : gx_X} (hX : gx_K (tc_V D ob cA) X prog_9_method_5_code "TypeLoom$Web" 3 0 0 (some .boolean)) (σ : gx_S) (L1 : Int32) (L2 : Int32) : gx_G (tc_V D ob cA) X (kt_Web_hasRoom σ L1 L2) σ 0 [(0, .ref (ob 3)), (1, .int L1), (2, .int L2)] [] := by
  unfold kt_Web_hasRoom
  refine gx_aload_n hX 0 1 dw_Web_hasRoom_0 rfl rfl rfl ?_
  refine tg_3 hX 14 4 (by decide) tw_203 rfl dw_Web_hasRoom_1 rfl ?_
  refine gx_iload_n hX 1 5 dw_Web_hasRoom_4 rfl rfl rfl ?_
  refine gx_iadd hX 6 dw_Web_hasRoom_5 rfl ?_
  refine gx_sipush hX 24576 9 dw_Web_hasRoom_6 (by decide) rfl ?_
  refine gx_icmp_gt hX 27 12 dw_Web_hasRoom_9 (by decide) rfl (fun _ => ?_) (fun _ => ?_)
  · refine gx_iconst hX 0 28 dw_Web_hasRoom_27 (by decide) rfl ?_
    exact gx_retz hX dw_Web_hasRoom_28
  · refine gx_aload_n hX 0 13 dw_Web_hasRoom_12 rfl rfl rfl ?_
    refine tg_3 hX 15 16 (by decide) tw_205 rfl dw_Web_hasRoom_13 rfl ?_
    refine gx_iload_n hX 2 17 dw_Web_hasRoom_16 rfl rfl rfl ?_
    refine gx_iadd hX 18 dw_Web_hasRoom_17 rfl ?_
    refine gx_ldc hX 65536 20 dw_Web_hasRoom_18 tw_550 rfl ?_
    refine gx_icmp_gt hX 27 23 dw_Web_hasRoom_20 (by decide) rfl (fun _ => ?_) (fun _ => ?_)
    · refine gx_iconst hX 0 28 dw_Web_hasRoom_27 (by decide) rfl ?_
      exact gx_retz hX dw_Web_hasRoom_28
    · refine gx_iconst hX 1 24 dw_Web_hasRoom_23 (by decide) rfl ?_
      refine gx_goto hX 28 dw_Web_hasRoom_24 (by decide) ?_
      exact gx_retz hX dw_Web_hasRoom_28
def my_Web_hasRoom : MethodName := ⟨"TypeLoom$Web", "hasRoom", "(II)Z"⟩
theorem hy_Web_hasRoom : (my_Web_hasRoom.cls ≠ "java/lang/invoke/MethodHandle" ∧ my_Web_hasRoom.cls ≠ "java/lang/invoke/VarHandle") ∧ (parseMethodDescriptor my_Web_hasRoom.desc).map (fun d => d.parameters.length) = some 2 := by decide +kernel
theorem tm_Web_hasRoom {D : va_G} {ob : Nat → Nat} {cA : ClassId} (l : Launch) (σ : gx_S) (L1 : Int32) (L2 : Int32) : gx_C l (tc_V D ob cA) my_Web_hasRoom prog_9_method_5_code 3 (some .boolean) 0 0 [.ref (ob 3), .int L1, .int L2] σ (kt_Web_hasRoom σ L1 L2) := gx_met (by decide) rfl (Nat.le_of_ble_eq_true rfl) rfl (fun X _ hX => tl_Web_hasRoom hX σ L1 L2)
theorem tr_Web_hasRoom {D : va_G} {ob : Nat → Nat} {cA : ClassId} {X : gx_X} {cc : ByteArray} {own : String} {nL fr lo : Nat} {rt : Option FieldType} {σ : gx_S} {pc : Nat} {lv : List (Nat × Value)} {st : List Value} (hX : gx_K (tc_V D ob cA) X cc own nL fr lo rt) {idx : Nat} {L1 : Int32} {L2 : Int32} {k : gx_S → Int32 → gx_R} (n : Nat) (hlink : Cond.methodLink own idx ({ cls := "TypeLoom$Web", name := "hasRoom", desc := "(II)Z" } : Jvm.MethodName) ∈ gx_T) (hroom : 0 + 1 ≤ fr ∧ 8 + (3 + 11) + 0 ≤ lo) (hst : (st.map fun v => v.category).sum ≤ 8) (hd : decode cc pc = .ok (.invokevirtual idx, 3)) (hn : pc + 3 = n) (kk : ∀ σ' r, gx_G (tc_V D ob cA) X (k σ' r) σ' n lv (.int r :: st)) : gx_G (tc_V D ob cA) X (gx_bd (kt_Web_hasRoom σ L1 L2) k) σ pc lv (.int L2 :: .int L1 :: .ref (ob 3) :: st) :=
  gx_callI hX [.int L1, .int L2] n rfl (tm_Web_hasRoom _ σ L1 L2) hy_Web_hasRoom tw_549 hlink tw_547 tw_548 tw_74 (gf_recv 3 (show 3 < 55 by decide) rfl rfl) hroom hst hd hn rfl (fun σ' r _ => kk σ' r)
def kt_Web_addNode (σ : gx_S) (L1 : Int32) (L2 : Int32) (L3 : Int32) (L4 : Int32) : gx_R :=
  gx_bv ((σ.1 3)) (fun x1 =>
  gx_bd (tc_pt σ 4 x1 L1) (fun σ2 _ =>
  gx_bd (tc_pt σ2 5 x1 L2) (fun σ4 _ =>
  gx_bd (tc_pt σ4 6 x1 L3) (fun σ6 _ =>
  gx_bd (tc_pt σ6 7 x1 L4) (fun σ8 _ =>
  gx_bd (tc_pt σ8 8 x1 ((σ8.1 4))) (fun σ10 _ =>
  gx_bd (tc_pt σ10 9 x1 0) (fun σ12 _ =>
  gx_bd (tc_pt σ12 10 x1 (-1)) (fun σ14 _ =>
  gx_bd (tc_pt σ14 11 x1 x1) (fun σ16 _ =>
  gx_bd (tc_pt σ16 12 x1 1) (fun σ18 _ =>
  gx_sb (gx_si σ18 3 ((((σ18.1 3)) + 1))) (fun σ20 =>
  some (σ20, x1))))))))))))
set_option maxRecDepth 100000 in
set_option maxHeartbeats 4000000 in
theorem tl_Web_addNode {D : va_G} {ob : Nat → Nat} {cA : ClassId} {X : gx_X} (hX : gx_K (tc_V D ob cA) X prog_9_method_6_code "TypeLoom$Web" 6 1 22 (some .int)) (σ : gx_S) (L1 : Int32) (L2 : Int32) (L3 : Int32) (L4 : Int32) : gx_G (tc_V D ob cA) X (kt_Web_addNode σ L1 L2 L3 L4) σ 0 [(0, .ref (ob 3)), (1, .int L1), (2, .int L2), (3, .int L3), (4, .int L4)] [] := by
  unfold kt_Web_addNode
  refine gx_aload_n hX 0 1 dw_Web_addNode_0 rfl rfl rfl ?_
  refine tg_3 hX 12 4 (by decide) tw_199 rfl dw_Web_addNode_1 rfl ?_
  refine gx_bvN (fun x1 => ?_)
  refine gx_istore hX [(5, .int x1), (0, .ref (ob 3)), (1, .int L1), (2, .int L2), (3, .int L3), (4, .int L4)] 6 dw_Web_addNode_4 (by decide) rfl rfl ?_
  refine gx_aload_n hX 1 7 dw_Web_addNode_6 rfl rfl rfl ?_
  refine tg_3 hX 0 10 (by decide) tw_156 rfl dw_Web_addNode_7 rfl ?_
  refine gx_iload hX 0 12 dw_Web_addNode_10 rfl rfl ?_
  refine gx_iload_n hX 2 13 dw_Web_addNode_12 rfl rfl rfl ?_
  refine tr_put hX 4 16 (by decide) tw_555 ⟨Nat.le_of_ble_eq_true rfl, Nat.le_of_ble_eq_true rfl⟩ (Nat.le_of_ble_eq_true rfl) dw_Web_addNode_13 rfl (fun σ2 _ => ?_)
  refine gx_aload_n hX 1 17 dw_Web_addNode_16 rfl rfl rfl ?_
  refine tg_3 hX 1 20 (by decide) tw_162 rfl dw_Web_addNode_17 rfl ?_
  refine gx_iload hX 0 22 dw_Web_addNode_20 rfl rfl ?_
  refine gx_iload_n hX 3 23 dw_Web_addNode_22 rfl rfl rfl ?_
  refine tr_put hX 5 26 (by decide) tw_555 ⟨Nat.le_of_ble_eq_true rfl, Nat.le_of_ble_eq_true rfl⟩ (Nat.le_of_ble_eq_true rfl) dw_Web_addNode_23 rfl (fun σ4 _ => ?_)
  refine gx_aload_n hX 1 27 dw_Web_addNode_26 rfl rfl rfl ?_
  refine tg_3 hX 2 30 (by decide) tw_168 rfl dw_Web_addNode_27 rfl ?_
  refine gx_iload hX 0 32 dw_Web_addNode_30 rfl rfl ?_
  refine gx_iload_n hX 4 33 dw_Web_addNode_32 rfl rfl rfl ?_
  refine tr_put hX 6 36 (by decide) tw_555 ⟨Nat.le_of_ble_eq_true rfl, Nat.le_of_ble_eq_true rfl⟩ (Nat.le_of_ble_eq_true rfl) dw_Web_addNode_33 rfl (fun σ6 _ => ?_)
  refine gx_aload_n hX 1 37 dw_Web_addNode_36 rfl rfl rfl ?_
  refine tg_3 hX 3 40 (by decide) tw_172 rfl dw_Web_addNode_37 rfl ?_
  refine gx_iload hX 0 42 dw_Web_addNode_40 rfl rfl ?_
  refine gx_iload hX 5 44 dw_Web_addNode_42 rfl rfl ?_
  refine tr_put hX 7 47 (by decide) tw_555 ⟨Nat.le_of_ble_eq_true rfl, Nat.le_of_ble_eq_true rfl⟩ (Nat.le_of_ble_eq_true rfl) dw_Web_addNode_44 rfl (fun σ8 _ => ?_)
  refine gx_aload_n hX 1 48 dw_Web_addNode_47 rfl rfl rfl ?_
  refine tg_3 hX 4 51 (by decide) tw_176 rfl dw_Web_addNode_48 rfl ?_
  refine gx_iload hX 0 53 dw_Web_addNode_51 rfl rfl ?_
  refine gx_aload_n hX 1 54 dw_Web_addNode_53 rfl rfl rfl ?_
  refine tg_3 hX 13 57 (by decide) tw_201 rfl dw_Web_addNode_54 rfl ?_
  refine tr_put hX 8 60 (by decide) tw_555 ⟨Nat.le_of_ble_eq_true rfl, Nat.le_of_ble_eq_true rfl⟩ (Nat.le_of_ble_eq_true rfl) dw_Web_addNode_57 rfl (fun σ10 _ => ?_)
  refine gx_aload_n hX 1 61 dw_Web_addNode_60 rfl rfl rfl ?_
  refine tg_3 hX 5 64 (by decide) tw_178 rfl dw_Web_addNode_61 rfl ?_
  refine gx_iload hX 0 66 dw_Web_addNode_64 rfl rfl ?_
  refine gx_iconst hX 0 67 dw_Web_addNode_66 (by decide) rfl ?_
  refine tr_put hX 9 70 (by decide) tw_555 ⟨Nat.le_of_ble_eq_true rfl, Nat.le_of_ble_eq_true rfl⟩ (Nat.le_of_ble_eq_true rfl) dw_Web_addNode_67 rfl (fun σ12 _ => ?_)
  refine gx_aload_n hX 1 71 dw_Web_addNode_70 rfl rfl rfl ?_
  refine tg_3 hX 6 74 (by decide) tw_181 rfl dw_Web_addNode_71 rfl ?_
  refine gx_iload hX 0 76 dw_Web_addNode_74 rfl rfl ?_
  refine gx_iconst hX (-1) 77 dw_Web_addNode_76 (by decide) rfl ?_
  refine tr_put hX 10 80 (by decide) tw_555 ⟨Nat.le_of_ble_eq_true rfl, Nat.le_of_ble_eq_true rfl⟩ (Nat.le_of_ble_eq_true rfl) dw_Web_addNode_77 rfl (fun σ14 _ => ?_)
  refine gx_aload_n hX 1 81 dw_Web_addNode_80 rfl rfl rfl ?_
  refine tg_3 hX 7 84 (by decide) tw_185 rfl dw_Web_addNode_81 rfl ?_
  refine gx_iload hX 0 86 dw_Web_addNode_84 rfl rfl ?_
  refine gx_iload hX 0 88 dw_Web_addNode_86 rfl rfl ?_
  refine tr_put hX 11 91 (by decide) tw_555 ⟨Nat.le_of_ble_eq_true rfl, Nat.le_of_ble_eq_true rfl⟩ (Nat.le_of_ble_eq_true rfl) dw_Web_addNode_88 rfl (fun σ16 _ => ?_)
  refine gx_aload_n hX 1 92 dw_Web_addNode_91 rfl rfl rfl ?_
  refine tg_3 hX 8 95 (by decide) tw_187 rfl dw_Web_addNode_92 rfl ?_
  refine gx_iload hX 0 97 dw_Web_addNode_95 rfl rfl ?_
  refine gx_iconst hX 1 98 dw_Web_addNode_97 (by decide) rfl ?_
  refine tr_put hX 12 101 (by decide) tw_555 ⟨Nat.le_of_ble_eq_true rfl, Nat.le_of_ble_eq_true rfl⟩ (Nat.le_of_ble_eq_true rfl) dw_Web_addNode_98 rfl (fun σ18 _ => ?_)
  refine gx_aload_n hX 1 102 dw_Web_addNode_101 rfl rfl rfl ?_
  refine gx_dup hX 103 dw_Web_addNode_102 rfl rfl ?_
  refine tg_3 hX 12 106 (by decide) tw_199 rfl dw_Web_addNode_103 rfl ?_
  refine gx_iconst hX 1 107 dw_Web_addNode_106 (by decide) rfl ?_
  refine gx_iadd hX 108 dw_Web_addNode_107 rfl ?_
  refine tp_3 hX 111 tw_199 dw_Web_addNode_108 rfl (fun σ20 => ?_)
  refine gx_iload hX 0 113 dw_Web_addNode_111 rfl rfl ?_
  exact gx_ret hX dw_Web_addNode_113
def my_Web_addNode : MethodName := ⟨"TypeLoom$Web", "addNode", "(IIII)I"⟩
theorem hy_Web_addNode : (my_Web_addNode.cls ≠ "java/lang/invoke/MethodHandle" ∧ my_Web_addNode.cls ≠ "java/lang/invoke/VarHandle") ∧ (parseMethodDescriptor my_Web_addNode.desc).map (fun d => d.parameters.length) = some 4 := by decide +kernel
theorem tm_Web_addNode {D : va_G} {ob : Nat → Nat} {cA : ClassId} (l : Launch) (σ : gx_S) (L1 : Int32) (L2 : Int32) (L3 : Int32) (L4 : Int32) : gx_C l (tc_V D ob cA) my_Web_addNode prog_9_method_6_code 6 (some .int) 1 22 [.ref (ob 3), .int L1, .int L2, .int L3, .int L4] σ (kt_Web_addNode σ L1 L2 L3 L4) := gx_met (by decide) rfl (Nat.le_of_ble_eq_true rfl) rfl (fun X _ hX => tl_Web_addNode hX σ L1 L2 L3 L4)
theorem tr_Web_addNode {D : va_G} {ob : Nat → Nat} {cA : ClassId} {X : gx_X} {cc : ByteArray} {own : String} {nL fr lo : Nat} {rt : Option FieldType} {σ : gx_S} {pc : Nat} {lv : List (Nat × Value)} {st : List Value} (hX : gx_K (tc_V D ob cA) X cc own nL fr lo rt) {idx : Nat} {L1 : Int32} {L2 : Int32} {L3 : Int32} {L4 : Int32} {k : gx_S → Int32 → gx_R} (n : Nat) (hlink : Cond.methodLink own idx ({ cls := "TypeLoom$Web", name := "addNode", desc := "(IIII)I" } : Jvm.MethodName) ∈ gx_T) (hroom : 1 + 1 ≤ fr ∧ 8 + (6 + 11) + 22 ≤ lo) (hst : (st.map fun v => v.category).sum ≤ 8) (hd : decode cc pc = .ok (.invokevirtual idx, 3)) (hn : pc + 3 = n) (kk : ∀ σ' r, gx_G (tc_V D ob cA) X (k σ' r) σ' n lv (.int r :: st)) : gx_G (tc_V D ob cA) X (gx_bd (kt_Web_addNode σ L1 L2 L3 L4) k) σ pc lv (.int L4 :: .int L3 :: .int L2 :: .int L1 :: .ref (ob 3) :: st) :=
  gx_callI hX [.int L1, .int L2, .int L3, .int L4] n rfl (tm_Web_addNode _ σ L1 L2 L3 L4) hy_Web_addNode tw_554 hlink tw_552 tw_553 tw_74 (gf_recv 3 (show 3 < 55 by decide) rfl rfl) hroom hst hd hn rfl (fun σ' r _ => kk σ' r)
def kt_Web_addType (σ : gx_S) (L1 : Int32) : gx_R :=
  gx_bd (tc_pt σ 15 ((σ.1 5)) L1) (fun σ1 _ =>
  gx_bv (tc_at σ1 9 L1) (fun r3 =>
  gx_sb (gx_si σ1 6 ((((σ1.1 6)) + r3))) (fun σ4 =>
  gx_sb (gx_si σ4 5 ((((σ4.1 5)) + 1))) (fun σ5 =>
  some (σ5, (((σ5.1 5)) - 1))))))
set_option maxRecDepth 100000 in
set_option maxHeartbeats 4000000 in
theorem tl_Web_addType {D : va_G} {ob : Nat → Nat} {cA : ClassId} {X : gx_X} (hX : gx_K (tc_V D ob cA) X prog_9_method_8_code "TypeLoom$Web" 2 1 22 (some .int)) (σ : gx_S) (L1 : Int32) : gx_G (tc_V D ob cA) X (kt_Web_addType σ L1) σ 0 [(0, .ref (ob 3)), (1, .int L1)] [] := by
  unfold kt_Web_addType
  refine gx_aload_n hX 0 1 dw_Web_addType_0 rfl rfl rfl ?_
  refine tg_3 hX 11 4 (by decide) tw_198 rfl dw_Web_addType_1 rfl ?_
  refine gx_aload_n hX 0 5 dw_Web_addType_4 rfl rfl rfl ?_
  refine tg_3 hX 14 8 (by decide) tw_203 rfl dw_Web_addType_5 rfl ?_
  refine gx_iload_n hX 1 9 dw_Web_addType_8 rfl rfl rfl ?_
  refine tr_put hX 15 12 (by decide) tw_555 ⟨Nat.le_of_ble_eq_true rfl, Nat.le_of_ble_eq_true rfl⟩ (Nat.le_of_ble_eq_true rfl) dw_Web_addType_9 rfl (fun σ1 _ => ?_)
  refine gx_aload_n hX 0 13 dw_Web_addType_12 rfl rfl rfl ?_
  refine gx_dup hX 14 dw_Web_addType_13 rfl rfl ?_
  refine tg_3 hX 15 17 (by decide) tw_205 rfl dw_Web_addType_14 rfl ?_
  refine gx_aload_n hX 0 18 dw_Web_addType_17 rfl rfl rfl ?_
  refine tg_3 hX 5 21 (by decide) tw_178 rfl dw_Web_addType_18 rfl ?_
  refine gx_iload_n hX 1 22 dw_Web_addType_21 rfl rfl rfl ?_
  refine tr_at hX 9 25 (by decide) tw_527 ⟨Nat.le_of_ble_eq_true rfl, Nat.le_of_ble_eq_true rfl⟩ (Nat.le_of_ble_eq_true rfl) dw_Web_addType_22 rfl (fun r3 => ?_)
  refine gx_iadd hX 26 dw_Web_addType_25 rfl ?_
  refine tp_6 hX 29 tw_205 dw_Web_addType_26 rfl (fun σ4 => ?_)
  refine gx_aload_n hX 0 30 dw_Web_addType_29 rfl rfl rfl ?_
  refine gx_dup hX 31 dw_Web_addType_30 rfl rfl ?_
  refine tg_3 hX 14 34 (by decide) tw_203 rfl dw_Web_addType_31 rfl ?_
  refine gx_iconst hX 1 35 dw_Web_addType_34 (by decide) rfl ?_
  refine gx_iadd hX 36 dw_Web_addType_35 rfl ?_
  refine tp_5 hX 39 tw_203 dw_Web_addType_36 rfl (fun σ5 => ?_)
  refine gx_aload_n hX 0 40 dw_Web_addType_39 rfl rfl rfl ?_
  refine tg_3 hX 14 43 (by decide) tw_203 rfl dw_Web_addType_40 rfl ?_
  refine gx_iconst hX 1 44 dw_Web_addType_43 (by decide) rfl ?_
  refine gx_isub hX 45 dw_Web_addType_44 rfl ?_
  exact gx_ret hX dw_Web_addType_45
def my_Web_addType : MethodName := ⟨"TypeLoom$Web", "addType", "(I)I"⟩
theorem hy_Web_addType : (my_Web_addType.cls ≠ "java/lang/invoke/MethodHandle" ∧ my_Web_addType.cls ≠ "java/lang/invoke/VarHandle") ∧ (parseMethodDescriptor my_Web_addType.desc).map (fun d => d.parameters.length) = some 1 := by decide +kernel
theorem tm_Web_addType {D : va_G} {ob : Nat → Nat} {cA : ClassId} (l : Launch) (σ : gx_S) (L1 : Int32) : gx_C l (tc_V D ob cA) my_Web_addType prog_9_method_8_code 2 (some .int) 1 22 [.ref (ob 3), .int L1] σ (kt_Web_addType σ L1) := gx_met (by decide) rfl (Nat.le_of_ble_eq_true rfl) rfl (fun X _ hX => tl_Web_addType hX σ L1)
theorem tr_Web_addType {D : va_G} {ob : Nat → Nat} {cA : ClassId} {X : gx_X} {cc : ByteArray} {own : String} {nL fr lo : Nat} {rt : Option FieldType} {σ : gx_S} {pc : Nat} {lv : List (Nat × Value)} {st : List Value} (hX : gx_K (tc_V D ob cA) X cc own nL fr lo rt) {idx : Nat} {L1 : Int32} {k : gx_S → Int32 → gx_R} (n : Nat) (hlink : Cond.methodLink own idx ({ cls := "TypeLoom$Web", name := "addType", desc := "(I)I" } : Jvm.MethodName) ∈ gx_T) (hroom : 1 + 1 ≤ fr ∧ 8 + (2 + 11) + 22 ≤ lo) (hst : (st.map fun v => v.category).sum ≤ 8) (hd : decode cc pc = .ok (.invokevirtual idx, 3)) (hn : pc + 3 = n) (kk : ∀ σ' r, gx_G (tc_V D ob cA) X (k σ' r) σ' n lv (.int r :: st)) : gx_G (tc_V D ob cA) X (gx_bd (kt_Web_addType σ L1) k) σ pc lv (.int L1 :: .ref (ob 3) :: st) :=
  gx_callI hX [.int L1] n rfl (tm_Web_addType _ σ L1) hy_Web_addType tw_568 hlink tw_566 tw_567 tw_74 (gf_recv 3 (show 3 < 55 by decide) rfl rfl) hroom hst hd hn rfl (fun σ' r _ => kk σ' r)
def kt_Web_drop (σ : gx_S)  : gx_R :=
  gx_sb (gx_si σ 3 0) (fun σ1 =>
  gx_sb (gx_si σ1 4 0) (fun σ2 =>
  gx_sb (gx_si σ2 5 0) (fun σ3 =>
  gx_sb (gx_si σ3 6 0) (fun σ4 =>
  gx_sb (gx_si σ4 7 0) (fun σ5 =>
  some (σ5, 0))))))
set_option maxRecDepth 100000 in
set_option maxHeartbeats 4000000 in
theorem tl_Web_drop {D : va_G} {ob : Nat → Nat} {cA : ClassId} {X : gx_X} (hX : gx_K (tc_V D ob cA) X prog_9_method_2_code "TypeLoom$Web" 1 0 0 none) (σ : gx_S)  : gx_G (tc_V D ob cA) X (kt_Web_drop σ ) σ 0 [(0, .ref (ob 3))] [] := by
  unfold kt_Web_drop
  refine gx_aload_n hX 0 1 dw_Web_drop_0 rfl rfl rfl ?_
  refine gx_iconst hX 0 2 dw_Web_drop_1 (by decide) rfl ?_
  refine tp_3 hX 5 tw_199 dw_Web_drop_2 rfl (fun σ1 => ?_)
  refine gx_aload_n hX 0 6 dw_Web_drop_5 rfl rfl rfl ?_
  refine gx_iconst hX 0 7 dw_Web_drop_6 (by decide) rfl ?_
  refine tp_4 hX 10 tw_201 dw_Web_drop_7 rfl (fun σ2 => ?_)
  refine gx_aload_n hX 0 11 dw_Web_drop_10 rfl rfl rfl ?_
  refine gx_iconst hX 0 12 dw_Web_drop_11 (by decide) rfl ?_
  refine tp_5 hX 15 tw_203 dw_Web_drop_12 rfl (fun σ3 => ?_)
  refine gx_aload_n hX 0 16 dw_Web_drop_15 rfl rfl rfl ?_
  refine gx_iconst hX 0 17 dw_Web_drop_16 (by decide) rfl ?_
  refine tp_6 hX 20 tw_205 dw_Web_drop_17 rfl (fun σ4 => ?_)
  refine gx_aload_n hX 0 21 dw_Web_drop_20 rfl rfl rfl ?_
  refine gx_iconst hX 0 22 dw_Web_drop_21 (by decide) rfl ?_
  refine tp_7 hX 25 tw_207 dw_Web_drop_22 rfl (fun σ5 => ?_)
  exact gx_retv hX dw_Web_drop_25
def my_Web_drop : MethodName := ⟨"TypeLoom$Web", "drop", "()V"⟩
theorem hy_Web_drop : (my_Web_drop.cls ≠ "java/lang/invoke/MethodHandle" ∧ my_Web_drop.cls ≠ "java/lang/invoke/VarHandle") ∧ (parseMethodDescriptor my_Web_drop.desc).map (fun d => d.parameters.length) = some 0 := by decide +kernel
theorem tm_Web_drop {D : va_G} {ob : Nat → Nat} {cA : ClassId} (l : Launch) (σ : gx_S)  : gx_C l (tc_V D ob cA) my_Web_drop prog_9_method_2_code 1 none 0 0 [.ref (ob 3)] σ (kt_Web_drop σ ) := gx_met (by decide) rfl (Nat.le_of_ble_eq_true rfl) rfl (fun X _ hX => tl_Web_drop hX σ )
theorem tr_Web_drop {D : va_G} {ob : Nat → Nat} {cA : ClassId} {X : gx_X} {cc : ByteArray} {own : String} {nL fr lo : Nat} {rt : Option FieldType} {σ : gx_S} {pc : Nat} {lv : List (Nat × Value)} {st : List Value} (hX : gx_K (tc_V D ob cA) X cc own nL fr lo rt) {idx : Nat}  {k : gx_S → Int32 → gx_R} (n : Nat) (hlink : Cond.methodLink own idx ({ cls := "TypeLoom$Web", name := "drop", desc := "()V" } : Jvm.MethodName) ∈ gx_T) (hroom : 0 + 1 ≤ fr ∧ 8 + (1 + 11) + 0 ≤ lo) (hst : (st.map fun v => v.category).sum ≤ 8) (hd : decode cc pc = .ok (.invokevirtual idx, 3)) (hn : pc + 3 = n) (kk : ∀ σ' r, gx_G (tc_V D ob cA) X (k σ' r) σ' n lv (st)) : gx_G (tc_V D ob cA) X (gx_bd (kt_Web_drop σ ) k) σ pc lv (.ref (ob 3) :: st) :=
  gx_callW hX [] n (tm_Web_drop _ σ ) hy_Web_drop tw_893 hlink tw_891 tw_892 tw_74 (gf_recv 3 (show 3 < 55 by decide) rfl rfl) hroom hst hd hn rfl (fun σ' r _ => kk σ' r)
def kt_Web_follow (σ : gx_S) (L1 : Int32) (L2 : Int64) : gx_R :=
  gx_bd (kt_Web_isType σ L1) (fun σ1 r2 =>
  gx_jn (fun (σ3 : gx_S) (L2 : Int64) (S0 : Int32) =>
    gx_lp (α := gx_S → Int32 → Int64 → Int32 → gx_R) (fun _ _ _ _ => none) (fun again32 (σ4 : gx_S) (L4 : Int32) (L5 : Int64) (L7 : Int32) =>
      if 8 ≤ L7 then
      some (σ4, L4)
    else
      if L4 = (-1) then
        some (σ4, L4)
      else
        if (lg_cmp ((L5 &&& 255)) 0) = 0 then
          some (σ4, L4)
        else
          none) gx_F σ3 S0 L2 0) (fun j24 =>
  if r2 = 0 then
    j24 σ1 L2 (-1)
  else
    gx_bv (tc_at σ1 15 L1) (fun r5 =>
    none)))
set_option maxRecDepth 100000 in
set_option maxHeartbeats 4000000 in
theorem tl_Web_follow {D : va_G} {ob : Nat → Nat} {cA : ClassId} {X : gx_X} (hX : gx_K (tc_V D ob cA) X prog_9_method_17_code "TypeLoom$Web" 8 1 21 (some .int)) (σ : gx_S) (L1 : Int32) (L2 : Int64) : gx_G (tc_V D ob cA) X (kt_Web_follow σ L1 L2) σ 0 [(0, .ref (ob 3)), (1, .int L1), (2, .long L2)] [] := by
  unfold kt_Web_follow
  refine gx_aload_n hX 0 1 dw_Web_follow_0 rfl rfl rfl ?_
  refine gx_iload_n hX 1 2 dw_Web_follow_1 rfl rfl rfl ?_
  refine tr_Web_isType hX 5 tw_742 ⟨Nat.le_of_ble_eq_true rfl, Nat.le_of_ble_eq_true rfl⟩ (Nat.le_of_ble_eq_true rfl) dw_Web_follow_2 rfl (fun σ1 r2 => ?_)
  refine gx_jnI (fun (j : gx_S → Int64 → Int32 → gx_R) => ∀ (σ3 : gx_S) (L2 : Int64) (S0 : Int32), gx_G (tc_V D ob cA) X (j σ3 L2 S0) σ3 24 [(0, .ref (ob 3)), (2, .long L2)] [.int S0]) (fun σ3 L2 S0 => ?_) (fun j24 h24 => ?_)
  · refine gx_istore hX [(4, .int S0), (0, .ref (ob 3)), (2, .long L2)] 26 dw_Web_follow_24 (by decide) rfl rfl ?_
    refine gx_lload_n hX 2 27 dw_Web_follow_26 rfl rfl rfl ?_
    refine gx_lstore hX [(5, .long L2), (4, .int S0), (0, .ref (ob 3)), (2, .long L2)] 29 dw_Web_follow_27 (by decide) rfl rfl ?_
    refine gx_iconst hX 0 30 dw_Web_follow_29 (by decide) rfl ?_
    refine gx_istore hX [(7, .int 0), (5, .long L2), (4, .int S0), (0, .ref (ob 3)), (2, .long L2)] 32 dw_Web_follow_30 (by decide) rfl rfl ?_
    refine gx_pick (lv' := [(0, .ref (ob 3)), (4, .int S0), (5, .long L2), (7, .int 0)]) hX [3, 2, 1, 0] rfl (gx_lpI (fun (f : gx_S → Int32 → Int64 → Int32 → gx_R) => ∀ (σ4 : gx_S) (L4 : Int32) (L5 : Int64) (L7 : Int32), gx_G (tc_V D ob cA) X (f σ4 L4 L5 L7) σ4 32 [(0, .ref (ob 3)), (4, .int L4), (5, .long L5), (7, .int L7)] []) (fun _ _ _ _ => gx_none) (fun again32 ih32 σ4 L4 L5 L7 => ?_) _ σ3 S0 L2 0)
    refine gx_iload hX 3 34 dw_Web_follow_32 rfl rfl ?_
    refine gx_bipush hX 8 36 dw_Web_follow_34 (by decide) rfl ?_
    refine gx_icmp_ge hX 90 39 dw_Web_follow_36 (by decide) rfl (fun _ => ?_) (fun _ => ?_)
    · refine gx_iload hX 1 92 dw_Web_follow_90 rfl rfl ?_
      exact gx_ret hX dw_Web_follow_92
    · refine gx_iload hX 1 41 dw_Web_follow_39 rfl rfl ?_
      refine gx_iconst hX (-1) 42 dw_Web_follow_41 (by decide) rfl ?_
      refine gx_icmp_eq hX 90 45 dw_Web_follow_42 (by decide) rfl (fun _ => ?_) (fun _ => ?_)
      · refine gx_iload hX 1 92 dw_Web_follow_90 rfl rfl ?_
        exact gx_ret hX dw_Web_follow_92
      · refine gx_lload hX 2 47 dw_Web_follow_45 rfl rfl ?_
        refine gx_ldc2 hX 255 50 dw_Web_follow_47 tw_743 rfl ?_
        refine gx_land hX 51 dw_Web_follow_50 rfl ?_
        refine gx_lconst hX 0 52 dw_Web_follow_51 (by decide) rfl ?_
        refine gx_lcmp hX 53 dw_Web_follow_52 rfl ?_
        refine gx_if_eq hX 90 56 dw_Web_follow_53 (by decide) rfl (fun _ => ?_) (fun _ => ?_)
        · refine gx_iload hX 1 92 dw_Web_follow_90 rfl rfl ?_
          exact gx_ret hX dw_Web_follow_92
        · refine gx_aload_n hX 0 57 dw_Web_follow_56 rfl rfl rfl ?_
          refine gx_aload_n hX 0 58 dw_Web_follow_57 rfl rfl rfl ?_
          refine gx_iload hX 1 60 dw_Web_follow_58 rfl rfl ?_
          refine gx_lload hX 2 62 dw_Web_follow_60 rfl rfl ?_
          refine gx_ldc2 hX 255 65 dw_Web_follow_62 tw_743 rfl ?_
          refine gx_land hX 66 dw_Web_follow_65 rfl ?_
          refine gx_l2i hX 67 dw_Web_follow_66 rfl ?_
          refine gx_iconst hX 1 68 dw_Web_follow_67 (by decide) rfl ?_
          refine gx_isub hX 69 dw_Web_follow_68 rfl ?_
          exact gx_none
  refine gx_if_eq hX 23 8 dw_Web_follow_5 (by decide) rfl (fun _ => ?_) (fun _ => ?_)
  · refine gx_iconst hX (-1) 24 dw_Web_follow_23 (by decide) rfl ?_
    exact gx_pick (lv' := [(0, .ref (ob 3)), (2, .long L2)]) hX [0, 2] rfl (h24 σ1 L2 (-1))
  · refine gx_aload_n hX 0 9 dw_Web_follow_8 rfl rfl rfl ?_
    refine gx_aload_n hX 0 10 dw_Web_follow_9 rfl rfl rfl ?_
    refine tg_3 hX 11 13 (by decide) tw_198 rfl dw_Web_follow_10 rfl ?_
    refine gx_iload_n hX 1 14 dw_Web_follow_13 rfl rfl rfl ?_
    refine tr_at hX 15 17 (by decide) tw_527 ⟨Nat.le_of_ble_eq_true rfl, Nat.le_of_ble_eq_true rfl⟩ (Nat.le_of_ble_eq_true rfl) dw_Web_follow_14 rfl (fun r5 => ?_)
    exact gx_none
def my_Web_follow : MethodName := ⟨"TypeLoom$Web", "follow", "(IJ)I"⟩
theorem hy_Web_follow : (my_Web_follow.cls ≠ "java/lang/invoke/MethodHandle" ∧ my_Web_follow.cls ≠ "java/lang/invoke/VarHandle") ∧ (parseMethodDescriptor my_Web_follow.desc).map (fun d => d.parameters.length) = some 2 := by decide +kernel
theorem tm_Web_follow {D : va_G} {ob : Nat → Nat} {cA : ClassId} (l : Launch) (σ : gx_S) (L1 : Int32) (L2 : Int64) : gx_C l (tc_V D ob cA) my_Web_follow prog_9_method_17_code 8 (some .int) 1 21 [.ref (ob 3), .int L1, .long L2] σ (kt_Web_follow σ L1 L2) := gx_met (by decide) rfl (Nat.le_of_ble_eq_true rfl) rfl (fun X _ hX => tl_Web_follow hX σ L1 L2)
theorem tr_Web_follow {D : va_G} {ob : Nat → Nat} {cA : ClassId} {X : gx_X} {cc : ByteArray} {own : String} {nL fr lo : Nat} {rt : Option FieldType} {σ : gx_S} {pc : Nat} {lv : List (Nat × Value)} {st : List Value} (hX : gx_K (tc_V D ob cA) X cc own nL fr lo rt) {idx : Nat} {L1 : Int32} {L2 : Int64} {k : gx_S → Int32 → gx_R} (n : Nat) (hlink : Cond.methodLink own idx ({ cls := "TypeLoom$Web", name := "follow", desc := "(IJ)I" } : Jvm.MethodName) ∈ gx_T) (hroom : 1 + 1 ≤ fr ∧ 8 + (8 + 11) + 21 ≤ lo) (hst : (st.map fun v => v.category).sum ≤ 8) (hd : decode cc pc = .ok (.invokevirtual idx, 3)) (hn : pc + 3 = n) (kk : ∀ σ' r, gx_G (tc_V D ob cA) X (k σ' r) σ' n lv (.int r :: st)) : gx_G (tc_V D ob cA) X (gx_bd (kt_Web_follow σ L1 L2) k) σ pc lv (.long L2 :: .int L1 :: .ref (ob 3) :: st) :=
  gx_callI hX [.int L1, .long L2] n rfl (tm_Web_follow _ σ L1 L2) hy_Web_follow tw_741 hlink tw_739 tw_740 tw_74 (gf_recv 3 (show 3 < 55 by decide) rfl rfl) hroom hst hd hn rfl (fun σ' r _ => kk σ' r)
def kt_Schemes_has (σ : gx_S) (L1 : Int32) : gx_R :=
  if L1 < 0 then
    gx_rz σ 0
  else
    if (σ.1 17) ≤ L1 then
      gx_rz σ 0
    else
      gx_rz σ 1
set_option maxRecDepth 100000 in
set_option maxHeartbeats 4000000 in
theorem tl_Schemes_has {D : va_G} {ob : Nat → Nat} {cA : ClassId} {X : gx_X} (hX : gx_K (tc_V D ob cA) X prog_5_method_2_code "TypeLoom$Schemes" 2 0 0 (some .boolean)) (σ : gx_S) (L1 : Int32) : gx_G (tc_V D ob cA) X (kt_Schemes_has σ L1) σ 0 [(0, .ref (ob 7)), (1, .int L1)] [] := by
  unfold kt_Schemes_has
  refine gx_iload_n hX 1 1 dw_Schemes_has_0 rfl rfl rfl ?_
  refine gx_if_lt hX 16 4 dw_Schemes_has_1 (by decide) rfl (fun _ => ?_) (fun _ => ?_)
  · refine gx_iconst hX 0 17 dw_Schemes_has_16 (by decide) rfl ?_
    exact gx_retz hX dw_Schemes_has_17
  · refine gx_iload_n hX 1 5 dw_Schemes_has_4 rfl rfl rfl ?_
    refine gx_aload_n hX 0 6 dw_Schemes_has_5 rfl rfl rfl ?_
    refine tg_7 hX 15 9 (by decide) tw_407 rfl dw_Schemes_has_6 rfl ?_
    refine gx_icmp_ge hX 16 12 dw_Schemes_has_9 (by decide) rfl (fun _ => ?_) (fun _ => ?_)
    · refine gx_iconst hX 0 17 dw_Schemes_has_16 (by decide) rfl ?_
      exact gx_retz hX dw_Schemes_has_17
    · refine gx_iconst hX 1 13 dw_Schemes_has_12 (by decide) rfl ?_
      refine gx_goto hX 17 dw_Schemes_has_13 (by decide) ?_
      exact gx_retz hX dw_Schemes_has_17
def my_Schemes_has : MethodName := ⟨"TypeLoom$Schemes", "has", "(I)Z"⟩
theorem hy_Schemes_has : (my_Schemes_has.cls ≠ "java/lang/invoke/MethodHandle" ∧ my_Schemes_has.cls ≠ "java/lang/invoke/VarHandle") ∧ (parseMethodDescriptor my_Schemes_has.desc).map (fun d => d.parameters.length) = some 1 := by decide +kernel
theorem tm_Schemes_has {D : va_G} {ob : Nat → Nat} {cA : ClassId} (l : Launch) (σ : gx_S) (L1 : Int32) : gx_C l (tc_V D ob cA) my_Schemes_has prog_5_method_2_code 2 (some .boolean) 0 0 [.ref (ob 7), .int L1] σ (kt_Schemes_has σ L1) := gx_met (by decide) rfl (Nat.le_of_ble_eq_true rfl) rfl (fun X _ hX => tl_Schemes_has hX σ L1)
theorem tr_Schemes_has {D : va_G} {ob : Nat → Nat} {cA : ClassId} {X : gx_X} {cc : ByteArray} {own : String} {nL fr lo : Nat} {rt : Option FieldType} {σ : gx_S} {pc : Nat} {lv : List (Nat × Value)} {st : List Value} (hX : gx_K (tc_V D ob cA) X cc own nL fr lo rt) {idx : Nat} {L1 : Int32} {k : gx_S → Int32 → gx_R} (n : Nat) (hlink : Cond.methodLink own idx ({ cls := "TypeLoom$Schemes", name := "has", desc := "(I)Z" } : Jvm.MethodName) ∈ gx_T) (hroom : 0 + 1 ≤ fr ∧ 8 + (2 + 11) + 0 ≤ lo) (hst : (st.map fun v => v.category).sum ≤ 8) (hd : decode cc pc = .ok (.invokevirtual idx, 3)) (hn : pc + 3 = n) (kk : ∀ σ' r, gx_G (tc_V D ob cA) X (k σ' r) σ' n lv (.int r :: st)) : gx_G (tc_V D ob cA) X (gx_bd (kt_Schemes_has σ L1) k) σ pc lv (.int L1 :: .ref (ob 7) :: st) :=
  gx_callI hX [.int L1] n rfl (tm_Schemes_has _ σ L1) hy_Schemes_has tw_844 hlink tw_842 tw_843 tw_78 (gf_recv 7 (show 7 < 55 by decide) rfl rfl) hroom hst hd hn rfl (fun σ' r _ => kk σ' r)
def kt_Schemes_canKeep (σ : gx_S) (L1 : Int32) (L2 : Int32) : gx_R :=
  if L1 < 0 then
    gx_rz σ 0
  else
    if L1 ≤ (σ.1 17) then
      gx_jn (fun (σ1 : gx_S) (L1 : Int32) (L2 : Int32) =>
        gx_lp (α := gx_S → Int32 → Int32 → Int32 → gx_R) (fun _ _ _ _ => none) (fun again39 (σ2 : gx_S) (L1 : Int32) (L2 : Int32) (L3 : Int32) =>
          gx_bv (tc_at σ2 40 L1) (fun r3 =>
        if r3 ≤ L3 then
          gx_rz σ2 1
        else
          gx_bv (tc_at σ2 34 L3) (fun r4 =>
          gx_jn (fun (σ5 : gx_S) (L1 : Int32) (L2 : Int32) (L3 : Int32) =>
            gx_bv (L3 + 1) (fun x6 =>
            again39 σ5 L1 L2 x6)) (fun j77 =>
          if r4 = 2 then
            gx_bv (tc_at σ2 35 L3) (fun r7 =>
            if r7 < L2 then
              j77 σ2 L1 L2 L3
            else
              gx_rz σ2 0)
          else
            j77 σ2 L1 L2 L3)))) gx_F σ1 L1 L2 0) (fun j37 =>
      gx_lp (α := gx_S → Int32 → Int32 → Int32 → gx_R) (fun _ _ _ _ => none) (fun again16 (σ8 : gx_S) (L1 : Int32) (L2 : Int32) (L3 : Int32) =>
        if L1 ≤ L3 then
        j37 σ8 L1 L2
      else
        none) gx_F σ L1 L2 0)
    else
      gx_rz σ 0
set_option maxRecDepth 100000 in
set_option maxHeartbeats 4000000 in
theorem tl_Schemes_canKeep {D : va_G} {ob : Nat → Nat} {cA : ClassId} {X : gx_X} (hX : gx_K (tc_V D ob cA) X prog_5_method_12_code "TypeLoom$Schemes" 4 1 21 (some .boolean)) (σ : gx_S) (L1 : Int32) (L2 : Int32) : gx_G (tc_V D ob cA) X (kt_Schemes_canKeep σ L1 L2) σ 0 [(0, .ref (ob 7)), (1, .int L1), (2, .int L2)] [] := by
  unfold kt_Schemes_canKeep
  refine gx_iload_n hX 1 1 dw_Schemes_canKeep_0 rfl rfl rfl ?_
  refine gx_if_lt hX 12 4 dw_Schemes_canKeep_1 (by decide) rfl (fun _ => ?_) (fun _ => ?_)
  · refine gx_iconst hX 0 13 dw_Schemes_canKeep_12 (by decide) rfl ?_
    exact gx_retz hX dw_Schemes_canKeep_13
  · refine gx_iload_n hX 1 5 dw_Schemes_canKeep_4 rfl rfl rfl ?_
    refine gx_aload_n hX 0 6 dw_Schemes_canKeep_5 rfl rfl rfl ?_
    refine tg_7 hX 15 9 (by decide) tw_407 rfl dw_Schemes_canKeep_6 rfl ?_
    refine gx_icmp_le hX 14 12 dw_Schemes_canKeep_9 (by decide) rfl (fun _ => ?_) (fun _ => ?_)
    · refine gx_iconst hX 0 15 dw_Schemes_canKeep_14 (by decide) rfl ?_
      refine gx_istore_n hX [(3, .int 0), (0, .ref (ob 7)), (1, .int L1), (2, .int L2)] 16 dw_Schemes_canKeep_15 rfl (by decide) rfl rfl ?_
      refine gx_jnI (fun (j : gx_S → Int32 → Int32 → gx_R) => ∀ (σ1 : gx_S) (L1 : Int32) (L2 : Int32), gx_G (tc_V D ob cA) X (j σ1 L1 L2) σ1 37 [(0, .ref (ob 7)), (1, .int L1), (2, .int L2)] []) (fun σ1 L1 L2 => ?_) (fun j37 h37 => ?_)
      · refine gx_iconst hX 0 38 dw_Schemes_canKeep_37 (by decide) rfl ?_
        refine gx_istore_n hX [(3, .int 0), (0, .ref (ob 7)), (1, .int L1), (2, .int L2)] 39 dw_Schemes_canKeep_38 rfl (by decide) rfl rfl ?_
        refine gx_pick (lv' := [(0, .ref (ob 7)), (1, .int L1), (2, .int L2), (3, .int 0)]) hX [1, 2, 3, 0] rfl (gx_lpI (fun (f : gx_S → Int32 → Int32 → Int32 → gx_R) => ∀ (σ2 : gx_S) (L1 : Int32) (L2 : Int32) (L3 : Int32), gx_G (tc_V D ob cA) X (f σ2 L1 L2 L3) σ2 39 [(0, .ref (ob 7)), (1, .int L1), (2, .int L2), (3, .int L3)] []) (fun _ _ _ _ => gx_none) (fun again39 ih39 σ2 L1 L2 L3 => ?_) _ σ1 L1 L2 0)
        refine gx_iload_n hX 3 40 dw_Schemes_canKeep_39 rfl rfl rfl ?_
        refine gx_aload_n hX 0 41 dw_Schemes_canKeep_40 rfl rfl rfl ?_
        refine tg_7 hX 8 44 (by decide) tw_398 rfl dw_Schemes_canKeep_41 rfl ?_
        refine gx_iload_n hX 1 45 dw_Schemes_canKeep_44 rfl rfl rfl ?_
        refine tr_at hX 40 48 (by decide) tw_819 ⟨Nat.le_of_ble_eq_true rfl, Nat.le_of_ble_eq_true rfl⟩ (Nat.le_of_ble_eq_true rfl) dw_Schemes_canKeep_45 rfl (fun r3 => ?_)
        refine gx_icmp_ge hX 83 51 dw_Schemes_canKeep_48 (by decide) rfl (fun _ => ?_) (fun _ => ?_)
        · refine gx_iconst hX 1 84 dw_Schemes_canKeep_83 (by decide) rfl ?_
          exact gx_retz hX dw_Schemes_canKeep_84
        · refine gx_aload_n hX 0 52 dw_Schemes_canKeep_51 rfl rfl rfl ?_
          refine tg_7 hX 2 55 (by decide) tw_392 rfl dw_Schemes_canKeep_52 rfl ?_
          refine gx_iload_n hX 3 56 dw_Schemes_canKeep_55 rfl rfl rfl ?_
          refine tr_at hX 34 59 (by decide) tw_819 ⟨Nat.le_of_ble_eq_true rfl, Nat.le_of_ble_eq_true rfl⟩ (Nat.le_of_ble_eq_true rfl) dw_Schemes_canKeep_56 rfl (fun r4 => ?_)
          refine gx_iconst hX 2 60 dw_Schemes_canKeep_59 (by decide) rfl ?_
          refine gx_jnI (fun (j : gx_S → Int32 → Int32 → Int32 → gx_R) => ∀ (σ5 : gx_S) (L1 : Int32) (L2 : Int32) (L3 : Int32), gx_G (tc_V D ob cA) X (j σ5 L1 L2 L3) σ5 77 [(0, .ref (ob 7)), (1, .int L1), (2, .int L2), (3, .int L3)] []) (fun σ5 L1 L2 L3 => ?_) (fun j77 h77 => ?_)
          · refine gx_iincN hX (q := 3) (fun x6 => [(3, .int x6), (0, .ref (ob 7)), (1, .int L1), (2, .int L2)]) 80 dw_Schemes_canKeep_77 rfl rfl (by decide) (fun _ => rfl) rfl (fun x6 => ?_)
            refine gx_goto hX 39 dw_Schemes_canKeep_80 (by decide) ?_
            exact gx_pick (lv' := [(0, .ref (ob 7)), (1, .int L1), (2, .int L2), (3, .int x6)]) hX [1, 2, 3, 0] rfl (ih39 σ5 L1 L2 x6)
          refine gx_icmp_ne hX 77 63 dw_Schemes_canKeep_60 (by decide) rfl (fun _ => ?_) (fun _ => ?_)
          · exact gx_pick (lv' := [(0, .ref (ob 7)), (1, .int L1), (2, .int L2), (3, .int L3)]) hX [0, 1, 2, 3] rfl (h77 σ2 L1 L2 L3)
          · refine gx_aload_n hX 0 64 dw_Schemes_canKeep_63 rfl rfl rfl ?_
            refine tg_7 hX 3 67 (by decide) tw_393 rfl dw_Schemes_canKeep_64 rfl ?_
            refine gx_iload_n hX 3 68 dw_Schemes_canKeep_67 rfl rfl rfl ?_
            refine tr_at hX 35 71 (by decide) tw_819 ⟨Nat.le_of_ble_eq_true rfl, Nat.le_of_ble_eq_true rfl⟩ (Nat.le_of_ble_eq_true rfl) dw_Schemes_canKeep_68 rfl (fun r7 => ?_)
            refine gx_iload_n hX 2 72 dw_Schemes_canKeep_71 rfl rfl rfl ?_
            refine gx_icmp_lt hX 77 75 dw_Schemes_canKeep_72 (by decide) rfl (fun _ => ?_) (fun _ => ?_)
            · exact gx_pick (lv' := [(0, .ref (ob 7)), (1, .int L1), (2, .int L2), (3, .int L3)]) hX [0, 1, 2, 3] rfl (h77 σ2 L1 L2 L3)
            · refine gx_iconst hX 0 76 dw_Schemes_canKeep_75 (by decide) rfl ?_
              exact gx_retz hX dw_Schemes_canKeep_76
      refine gx_pick (lv' := [(0, .ref (ob 7)), (1, .int L1), (2, .int L2), (3, .int 0)]) hX [1, 2, 3, 0] rfl (gx_lpI (fun (f : gx_S → Int32 → Int32 → Int32 → gx_R) => ∀ (σ8 : gx_S) (L1 : Int32) (L2 : Int32) (L3 : Int32), gx_G (tc_V D ob cA) X (f σ8 L1 L2 L3) σ8 16 [(0, .ref (ob 7)), (1, .int L1), (2, .int L2), (3, .int L3)] []) (fun _ _ _ _ => gx_none) (fun again16 ih16 σ8 L1 L2 L3 => ?_) _ σ L1 L2 0)
      refine gx_iload_n hX 3 17 dw_Schemes_canKeep_16 rfl rfl rfl ?_
      refine gx_iload_n hX 1 18 dw_Schemes_canKeep_17 rfl rfl rfl ?_
      refine gx_icmp_ge hX 37 21 dw_Schemes_canKeep_18 (by decide) rfl (fun _ => ?_) (fun _ => ?_)
      · exact gx_pick (lv' := [(0, .ref (ob 7)), (1, .int L1), (2, .int L2)]) hX [0, 1, 2] rfl (h37 σ8 L1 L2)
      · refine gx_aload_n hX 0 22 dw_Schemes_canKeep_21 rfl rfl rfl ?_
        refine gx_iload_n hX 3 23 dw_Schemes_canKeep_22 rfl rfl rfl ?_
        exact gx_none
    · refine gx_iconst hX 0 13 dw_Schemes_canKeep_12 (by decide) rfl ?_
      exact gx_retz hX dw_Schemes_canKeep_13
def my_Schemes_canKeep : MethodName := ⟨"TypeLoom$Schemes", "canKeep", "(II)Z"⟩
theorem hy_Schemes_canKeep : (my_Schemes_canKeep.cls ≠ "java/lang/invoke/MethodHandle" ∧ my_Schemes_canKeep.cls ≠ "java/lang/invoke/VarHandle") ∧ (parseMethodDescriptor my_Schemes_canKeep.desc).map (fun d => d.parameters.length) = some 2 := by decide +kernel
theorem tm_Schemes_canKeep {D : va_G} {ob : Nat → Nat} {cA : ClassId} (l : Launch) (σ : gx_S) (L1 : Int32) (L2 : Int32) : gx_C l (tc_V D ob cA) my_Schemes_canKeep prog_5_method_12_code 4 (some .boolean) 1 21 [.ref (ob 7), .int L1, .int L2] σ (kt_Schemes_canKeep σ L1 L2) := gx_met (by decide) rfl (Nat.le_of_ble_eq_true rfl) rfl (fun X _ hX => tl_Schemes_canKeep hX σ L1 L2)
theorem tr_Schemes_canKeep {D : va_G} {ob : Nat → Nat} {cA : ClassId} {X : gx_X} {cc : ByteArray} {own : String} {nL fr lo : Nat} {rt : Option FieldType} {σ : gx_S} {pc : Nat} {lv : List (Nat × Value)} {st : List Value} (hX : gx_K (tc_V D ob cA) X cc own nL fr lo rt) {idx : Nat} {L1 : Int32} {L2 : Int32} {k : gx_S → Int32 → gx_R} (n : Nat) (hlink : Cond.methodLink own idx ({ cls := "TypeLoom$Schemes", name := "canKeep", desc := "(II)Z" } : Jvm.MethodName) ∈ gx_T) (hroom : 1 + 1 ≤ fr ∧ 8 + (4 + 11) + 21 ≤ lo) (hst : (st.map fun v => v.category).sum ≤ 8) (hd : decode cc pc = .ok (.invokevirtual idx, 3)) (hn : pc + 3 = n) (kk : ∀ σ' r, gx_G (tc_V D ob cA) X (k σ' r) σ' n lv (.int r :: st)) : gx_G (tc_V D ob cA) X (gx_bd (kt_Schemes_canKeep σ L1 L2) k) σ pc lv (.int L2 :: .int L1 :: .ref (ob 7) :: st) :=
  gx_callI hX [.int L1, .int L2] n rfl (tm_Schemes_canKeep _ σ L1 L2) hy_Schemes_canKeep tw_884 hlink tw_882 tw_883 tw_78 (gf_recv 7 (show 7 < 55 by decide) rfl rfl) hroom hst hd hn rfl (fun σ' r _ => kk σ' r)
def kt_Schemes_cutTo (σ : gx_S) (L1 : Int32) : gx_R :=
  gx_sb (gx_si σ 17 L1) (fun σ1 =>
  gx_bv (tc_at σ1 40 L1) (fun r2 =>
  gx_sb (gx_si σ1 18 r2) (fun σ3 =>
  gx_bv (tc_at σ3 37 ((σ3.1 18))) (fun r4 =>
  gx_sb (gx_si σ3 19 r4) (fun σ5 =>
  some (σ5, 0))))))
set_option maxRecDepth 100000 in
set_option maxHeartbeats 4000000 in
theorem tl_Schemes_cutTo {D : va_G} {ob : Nat → Nat} {cA : ClassId} {X : gx_X} (hX : gx_K (tc_V D ob cA) X prog_5_method_13_code "TypeLoom$Schemes" 2 1 21 none) (σ : gx_S) (L1 : Int32) : gx_G (tc_V D ob cA) X (kt_Schemes_cutTo σ L1) σ 0 [(0, .ref (ob 7)), (1, .int L1)] [] := by
  unfold kt_Schemes_cutTo
  refine gx_aload_n hX 0 1 dw_Schemes_cutTo_0 rfl rfl rfl ?_
  refine gx_iload_n hX 1 2 dw_Schemes_cutTo_1 rfl rfl rfl ?_
  refine tp_17 hX 5 tw_407 dw_Schemes_cutTo_2 rfl (fun σ1 => ?_)
  refine gx_aload_n hX 0 6 dw_Schemes_cutTo_5 rfl rfl rfl ?_
  refine gx_aload_n hX 0 7 dw_Schemes_cutTo_6 rfl rfl rfl ?_
  refine tg_7 hX 8 10 (by decide) tw_398 rfl dw_Schemes_cutTo_7 rfl ?_
  refine gx_iload_n hX 1 11 dw_Schemes_cutTo_10 rfl rfl rfl ?_
  refine tr_at hX 40 14 (by decide) tw_819 ⟨Nat.le_of_ble_eq_true rfl, Nat.le_of_ble_eq_true rfl⟩ (Nat.le_of_ble_eq_true rfl) dw_Schemes_cutTo_11 rfl (fun r2 => ?_)
  refine tp_18 hX 17 tw_409 dw_Schemes_cutTo_14 rfl (fun σ3 => ?_)
  refine gx_aload_n hX 0 18 dw_Schemes_cutTo_17 rfl rfl rfl ?_
  refine gx_aload_n hX 0 19 dw_Schemes_cutTo_18 rfl rfl rfl ?_
  refine tg_7 hX 5 22 (by decide) tw_395 rfl dw_Schemes_cutTo_19 rfl ?_
  refine gx_aload_n hX 0 23 dw_Schemes_cutTo_22 rfl rfl rfl ?_
  refine tg_7 hX 16 26 (by decide) tw_409 rfl dw_Schemes_cutTo_23 rfl ?_
  refine tr_at hX 37 29 (by decide) tw_819 ⟨Nat.le_of_ble_eq_true rfl, Nat.le_of_ble_eq_true rfl⟩ (Nat.le_of_ble_eq_true rfl) dw_Schemes_cutTo_26 rfl (fun r4 => ?_)
  refine tp_19 hX 32 tw_411 dw_Schemes_cutTo_29 rfl (fun σ5 => ?_)
  exact gx_retv hX dw_Schemes_cutTo_32
def my_Schemes_cutTo : MethodName := ⟨"TypeLoom$Schemes", "cutTo", "(I)V"⟩
theorem hy_Schemes_cutTo : (my_Schemes_cutTo.cls ≠ "java/lang/invoke/MethodHandle" ∧ my_Schemes_cutTo.cls ≠ "java/lang/invoke/VarHandle") ∧ (parseMethodDescriptor my_Schemes_cutTo.desc).map (fun d => d.parameters.length) = some 1 := by decide +kernel
theorem tm_Schemes_cutTo {D : va_G} {ob : Nat → Nat} {cA : ClassId} (l : Launch) (σ : gx_S) (L1 : Int32) : gx_C l (tc_V D ob cA) my_Schemes_cutTo prog_5_method_13_code 2 none 1 21 [.ref (ob 7), .int L1] σ (kt_Schemes_cutTo σ L1) := gx_met (by decide) rfl (Nat.le_of_ble_eq_true rfl) rfl (fun X _ hX => tl_Schemes_cutTo hX σ L1)
theorem tr_Schemes_cutTo {D : va_G} {ob : Nat → Nat} {cA : ClassId} {X : gx_X} {cc : ByteArray} {own : String} {nL fr lo : Nat} {rt : Option FieldType} {σ : gx_S} {pc : Nat} {lv : List (Nat × Value)} {st : List Value} (hX : gx_K (tc_V D ob cA) X cc own nL fr lo rt) {idx : Nat} {L1 : Int32} {k : gx_S → Int32 → gx_R} (n : Nat) (hlink : Cond.methodLink own idx ({ cls := "TypeLoom$Schemes", name := "cutTo", desc := "(I)V" } : Jvm.MethodName) ∈ gx_T) (hroom : 1 + 1 ≤ fr ∧ 8 + (2 + 11) + 21 ≤ lo) (hst : (st.map fun v => v.category).sum ≤ 8) (hd : decode cc pc = .ok (.invokevirtual idx, 3)) (hn : pc + 3 = n) (kk : ∀ σ' r, gx_G (tc_V D ob cA) X (k σ' r) σ' n lv (st)) : gx_G (tc_V D ob cA) X (gx_bd (kt_Schemes_cutTo σ L1) k) σ pc lv (.int L1 :: .ref (ob 7) :: st) :=
  gx_callW hX [.int L1] n (tm_Schemes_cutTo _ σ L1) hy_Schemes_cutTo tw_889 hlink tw_887 tw_888 tw_78 (gf_recv 7 (show 7 < 55 by decide) rfl rfl) hroom hst hd hn rfl (fun σ' r _ => kk σ' r)
def kt_T_leaf (σ : gx_S) (L1 : Int32) (L2 : Int32) (L3 : Int32) : gx_R :=
  gx_bd (kt_Web_hasRoom σ 1 0) (fun σ1 r2 =>
  if r2 = 0 then
    some (σ1, (-2))
  else
    gx_jn (fun (σ3 : gx_S) (S0 : Int32) (S1 : Int32) (S2 : Int32) (S3 : Int32) =>
      gx_bd (kt_Web_addNode σ3 S3 S2 S1 S0) (fun σ4 r5 =>
      gx_bd (kt_Web_addType σ4 r5) (fun σ6 r7 =>
      some (σ6, r7)))) (fun j38 =>
    if L3 = 0 then
      j38 σ1 0 ((σ1.1 20)) L2 L1
    else
      j38 σ1 1 ((σ1.1 20)) L2 L1))
set_option maxRecDepth 100000 in
set_option maxHeartbeats 4000000 in
theorem tl_T_leaf {D : va_G} {ob : Nat → Nat} {cA : ClassId} {X : gx_X} (hX : gx_K (tc_V D ob cA) X prog_1_method_9_code "TypeLoom" 4 2 47 (some .int)) (σ : gx_S) (L1 : Int32) (L2 : Int32) (L3 : Int32) : gx_G (tc_V D ob cA) X (kt_T_leaf σ L1 L2 L3) σ 0 [(0, .ref (ob 0)), (1, .int L1), (2, .int L2), (3, .int L3)] [] := by
  unfold kt_T_leaf
  refine gx_aload_n hX 0 1 dw_T_leaf_0 rfl rfl rfl ?_
  refine tg_0 hX 2 4 (by decide) tw_452 rfl dw_T_leaf_1 rfl ?_
  refine gx_iconst hX 1 5 dw_T_leaf_4 (by decide) rfl ?_
  refine gx_iconst hX 0 6 dw_T_leaf_5 (by decide) rfl ?_
  refine tr_Web_hasRoom hX 9 tw_546 ⟨Nat.le_of_ble_eq_true rfl, Nat.le_of_ble_eq_true rfl⟩ (Nat.le_of_ble_eq_true rfl) dw_T_leaf_6 rfl (fun σ1 r2 => ?_)
  refine gx_if_ne hX 15 12 dw_T_leaf_9 (by decide) rfl (fun _ => ?_) (fun _ => ?_)
  · refine gx_aload_n hX 0 16 dw_T_leaf_15 rfl rfl rfl ?_
    refine tg_0 hX 2 19 (by decide) tw_452 rfl dw_T_leaf_16 rfl ?_
    refine gx_aload_n hX 0 20 dw_T_leaf_19 rfl rfl rfl ?_
    refine tg_0 hX 2 23 (by decide) tw_452 rfl dw_T_leaf_20 rfl ?_
    refine gx_iload_n hX 1 24 dw_T_leaf_23 rfl rfl rfl ?_
    refine gx_iload_n hX 2 25 dw_T_leaf_24 rfl rfl rfl ?_
    refine gx_aload_n hX 0 26 dw_T_leaf_25 rfl rfl rfl ?_
    refine tg_0 hX 7 29 (by decide) tw_457 rfl dw_T_leaf_26 rfl ?_
    refine gx_iload_n hX 3 30 dw_T_leaf_29 rfl rfl rfl ?_
    refine gx_jnI (fun (j : gx_S → Int32 → Int32 → Int32 → Int32 → gx_R) => ∀ (σ3 : gx_S) (S0 : Int32) (S1 : Int32) (S2 : Int32) (S3 : Int32), gx_G (tc_V D ob cA) X (j σ3 S0 S1 S2 S3) σ3 38 [] [.int S0, .int S1, .int S2, .int S3, .ref (ob 3), .ref (ob 3)]) (fun σ3 S0 S1 S2 S3 => ?_) (fun j38 h38 => ?_)
    · refine tr_Web_addNode hX 41 tw_551 ⟨Nat.le_of_ble_eq_true rfl, Nat.le_of_ble_eq_true rfl⟩ (Nat.le_of_ble_eq_true rfl) dw_T_leaf_38 rfl (fun σ4 r5 => ?_)
      refine tr_Web_addType hX 44 tw_565 ⟨Nat.le_of_ble_eq_true rfl, Nat.le_of_ble_eq_true rfl⟩ (Nat.le_of_ble_eq_true rfl) dw_T_leaf_41 rfl (fun σ6 r7 => ?_)
      exact gx_ret hX dw_T_leaf_44
    refine gx_if_eq hX 37 33 dw_T_leaf_30 (by decide) rfl (fun _ => ?_) (fun _ => ?_)
    · refine gx_iconst hX 0 38 dw_T_leaf_37 (by decide) rfl ?_
      exact gx_pick (lv' := []) hX [] rfl (h38 σ1 0 ((σ1.1 20)) L2 L1)
    · refine gx_iconst hX 1 34 dw_T_leaf_33 (by decide) rfl ?_
      refine gx_goto hX 38 dw_T_leaf_34 (by decide) ?_
      exact gx_pick (lv' := []) hX [] rfl (h38 σ1 1 ((σ1.1 20)) L2 L1)
  · refine gx_bipush hX (-2) 14 dw_T_leaf_12 (by decide) rfl ?_
    exact gx_ret hX dw_T_leaf_14
def my_T_leaf : MethodName := ⟨"TypeLoom", "leaf", "(IIZ)I"⟩
theorem hy_T_leaf : (my_T_leaf.cls ≠ "java/lang/invoke/MethodHandle" ∧ my_T_leaf.cls ≠ "java/lang/invoke/VarHandle") ∧ (parseMethodDescriptor my_T_leaf.desc).map (fun d => d.parameters.length) = some 3 := by decide +kernel
theorem tm_T_leaf {D : va_G} {ob : Nat → Nat} {cA : ClassId} (l : Launch) (σ : gx_S) (L1 : Int32) (L2 : Int32) (L3 : Int32) : gx_C l (tc_V D ob cA) my_T_leaf prog_1_method_9_code 4 (some .int) 2 47 [.ref (ob 0), .int L1, .int L2, .int L3] σ (kt_T_leaf σ L1 L2 L3) := gx_met (by decide) rfl (Nat.le_of_ble_eq_true rfl) rfl (fun X _ hX => tl_T_leaf hX σ L1 L2 L3)
theorem tr_T_leaf {D : va_G} {ob : Nat → Nat} {cA : ClassId} {X : gx_X} {cc : ByteArray} {own : String} {nL fr lo : Nat} {rt : Option FieldType} {σ : gx_S} {pc : Nat} {lv : List (Nat × Value)} {st : List Value} (hX : gx_K (tc_V D ob cA) X cc own nL fr lo rt) {idx : Nat} {L1 : Int32} {L2 : Int32} {L3 : Int32} {k : gx_S → Int32 → gx_R} (n : Nat) (hlink : Cond.methodLink own idx ({ cls := "TypeLoom", name := "leaf", desc := "(IIZ)I" } : Jvm.MethodName) ∈ gx_T) (hroom : 2 + 1 ≤ fr ∧ 8 + (4 + 11) + 47 ≤ lo) (hst : (st.map fun v => v.category).sum ≤ 8) (hd : decode cc pc = .ok (.invokevirtual idx, 3)) (hn : pc + 3 = n) (kk : ∀ σ' r, gx_G (tc_V D ob cA) X (k σ' r) σ' n lv (.int r :: st)) : gx_G (tc_V D ob cA) X (gx_bd (kt_T_leaf σ L1 L2 L3) k) σ pc lv (.int L3 :: .int L2 :: .int L1 :: .ref (ob 0) :: st) :=
  gx_callI hX [.int L1, .int L2, .int L3] n rfl (tm_T_leaf _ σ L1 L2 L3) hy_T_leaf tw_590 hlink tw_589 tw_0 tw_70 (gf_recv 0 (show 0 < 55 by decide) rfl rfl) hroom hst hd hn rfl (fun σ' r _ => kk σ' r)
def kt_T_constructor (σ : gx_S) (L1 : Int32) (L2 : Int32) : gx_R :=
  if L1 < 0 then
    some (σ, (-1))
  else
    if 8 < L1 then
      some (σ, (-1))
    else
      if L2 < 0 then
        some (σ, (-1))
      else
        if L2 ≤ 2 then
          gx_bd (kt_Constructors_add σ L1 L2) (fun σ1 r2 =>
          some (σ1, r2))
        else
          some (σ, (-1))
set_option maxRecDepth 100000 in
set_option maxHeartbeats 4000000 in
theorem tl_T_constructor {D : va_G} {ob : Nat → Nat} {cA : ClassId} {X : gx_X} (hX : gx_K (tc_V D ob cA) X prog_1_method_2_code "TypeLoom" 3 2 44 (some .int)) (σ : gx_S) (L1 : Int32) (L2 : Int32) : gx_G (tc_V D ob cA) X (kt_T_constructor σ L1 L2) σ 0 [(0, .ref (ob 0)), (1, .int L1), (2, .int L2)] [] := by
  unfold kt_T_constructor
  refine gx_iload_n hX 1 1 dw_T_constructor_0 rfl rfl rfl ?_
  refine gx_if_lt hX 19 4 dw_T_constructor_1 (by decide) rfl (fun _ => ?_) (fun _ => ?_)
  · refine gx_iconst hX (-1) 20 dw_T_constructor_19 (by decide) rfl ?_
    exact gx_ret hX dw_T_constructor_20
  · refine gx_iload_n hX 1 5 dw_T_constructor_4 rfl rfl rfl ?_
    refine gx_bipush hX 8 7 dw_T_constructor_5 (by decide) rfl ?_
    refine gx_icmp_gt hX 19 10 dw_T_constructor_7 (by decide) rfl (fun _ => ?_) (fun _ => ?_)
    · refine gx_iconst hX (-1) 20 dw_T_constructor_19 (by decide) rfl ?_
      exact gx_ret hX dw_T_constructor_20
    · refine gx_iload_n hX 2 11 dw_T_constructor_10 rfl rfl rfl ?_
      refine gx_if_lt hX 19 14 dw_T_constructor_11 (by decide) rfl (fun _ => ?_) (fun _ => ?_)
      · refine gx_iconst hX (-1) 20 dw_T_constructor_19 (by decide) rfl ?_
        exact gx_ret hX dw_T_constructor_20
      · refine gx_iload_n hX 2 15 dw_T_constructor_14 rfl rfl rfl ?_
        refine gx_iconst hX 2 16 dw_T_constructor_15 (by decide) rfl ?_
        refine gx_icmp_le hX 21 19 dw_T_constructor_16 (by decide) rfl (fun _ => ?_) (fun _ => ?_)
        · refine gx_aload_n hX 0 22 dw_T_constructor_21 rfl rfl rfl ?_
          refine tg_0 hX 0 25 (by decide) tw_450 rfl dw_T_constructor_22 rfl ?_
          refine gx_iload_n hX 1 26 dw_T_constructor_25 rfl rfl rfl ?_
          refine gx_iload_n hX 2 27 dw_T_constructor_26 rfl rfl rfl ?_
          refine tr_Constructors_add hX 30 tw_479 ⟨Nat.le_of_ble_eq_true rfl, Nat.le_of_ble_eq_true rfl⟩ (Nat.le_of_ble_eq_true rfl) dw_T_constructor_27 rfl (fun σ1 r2 => ?_)
          exact gx_ret hX dw_T_constructor_30
        · refine gx_iconst hX (-1) 20 dw_T_constructor_19 (by decide) rfl ?_
          exact gx_ret hX dw_T_constructor_20
def my_T_constructor : MethodName := ⟨"TypeLoom", "constructor", "(II)I"⟩
theorem hy_T_constructor : (my_T_constructor.cls ≠ "java/lang/invoke/MethodHandle" ∧ my_T_constructor.cls ≠ "java/lang/invoke/VarHandle") ∧ (parseMethodDescriptor my_T_constructor.desc).map (fun d => d.parameters.length) = some 2 := by decide +kernel
theorem tm_T_constructor {D : va_G} {ob : Nat → Nat} {cA : ClassId} (l : Launch) (σ : gx_S) (L1 : Int32) (L2 : Int32) : gx_C l (tc_V D ob cA) my_T_constructor prog_1_method_2_code 3 (some .int) 2 44 [.ref (ob 0), .int L1, .int L2] σ (kt_T_constructor σ L1 L2) := gx_met (by decide) rfl (Nat.le_of_ble_eq_true rfl) rfl (fun X _ hX => tl_T_constructor hX σ L1 L2)
theorem tr_T_constructor {D : va_G} {ob : Nat → Nat} {cA : ClassId} {X : gx_X} {cc : ByteArray} {own : String} {nL fr lo : Nat} {rt : Option FieldType} {σ : gx_S} {pc : Nat} {lv : List (Nat × Value)} {st : List Value} (hX : gx_K (tc_V D ob cA) X cc own nL fr lo rt) {idx : Nat} {L1 : Int32} {L2 : Int32} {k : gx_S → Int32 → gx_R} (n : Nat) (hlink : Cond.methodLink own idx ({ cls := "TypeLoom", name := "constructor", desc := "(II)I" } : Jvm.MethodName) ∈ gx_T) (hroom : 2 + 1 ≤ fr ∧ 8 + (3 + 11) + 44 ≤ lo) (hst : (st.map fun v => v.category).sum ≤ 8) (hd : decode cc pc = .ok (.invokevirtual idx, 3)) (hn : pc + 3 = n) (kk : ∀ σ' r, gx_G (tc_V D ob cA) X (k σ' r) σ' n lv (.int r :: st)) : gx_G (tc_V D ob cA) X (gx_bd (kt_T_constructor σ L1 L2) k) σ pc lv (.int L2 :: .int L1 :: .ref (ob 0) :: st) :=
  gx_callI hX [.int L1, .int L2] n rfl (tm_T_constructor _ σ L1 L2) hy_T_constructor tw_478 hlink tw_476 tw_477 tw_70 (gf_recv 0 (show 0 < 55 by decide) rfl rfl) hroom hst hd hn rfl (fun σ' r _ => kk σ' r)
def kt_T_push (σ : gx_S) (L1 : Int32) (L2 : Int32) : gx_R :=
  if L1 < (-1) then
    some (σ, (-1))
  else
    if 32767 < L1 then
      some (σ, (-1))
    else
      gx_bd (kt_Web_isType σ L2) (fun σ1 r2 =>
      if r2 = 0 then
        some (σ1, (-1))
      else
        none)
set_option maxRecDepth 100000 in
set_option maxHeartbeats 4000000 in
theorem tl_T_push {D : va_G} {ob : Nat → Nat} {cA : ClassId} {X : gx_X} (hX : gx_K (tc_V D ob cA) X prog_1_method_3_code "TypeLoom" 3 1 21 (some .int)) (σ : gx_S) (L1 : Int32) (L2 : Int32) : gx_G (tc_V D ob cA) X (kt_T_push σ L1 L2) σ 0 [(0, .ref (ob 0)), (1, .int L1), (2, .int L2)] [] := by
  unfold kt_T_push
  refine gx_iload_n hX 1 1 dw_T_push_0 rfl rfl rfl ?_
  refine gx_iconst hX (-1) 2 dw_T_push_1 (by decide) rfl ?_
  refine gx_icmp_lt hX 34 5 dw_T_push_2 (by decide) rfl (fun _ => ?_) (fun _ => ?_)
  · refine gx_iconst hX (-1) 35 dw_T_push_34 (by decide) rfl ?_
    exact gx_ret hX dw_T_push_35
  · refine gx_iload_n hX 1 6 dw_T_push_5 rfl rfl rfl ?_
    refine gx_sipush hX 32767 9 dw_T_push_6 (by decide) rfl ?_
    refine gx_icmp_gt hX 34 12 dw_T_push_9 (by decide) rfl (fun _ => ?_) (fun _ => ?_)
    · refine gx_iconst hX (-1) 35 dw_T_push_34 (by decide) rfl ?_
      exact gx_ret hX dw_T_push_35
    · refine gx_aload_n hX 0 13 dw_T_push_12 rfl rfl rfl ?_
      refine tg_0 hX 2 16 (by decide) tw_452 rfl dw_T_push_13 rfl ?_
      refine gx_iload_n hX 2 17 dw_T_push_16 rfl rfl rfl ?_
      refine tr_Web_isType hX 20 tw_511 ⟨Nat.le_of_ble_eq_true rfl, Nat.le_of_ble_eq_true rfl⟩ (Nat.le_of_ble_eq_true rfl) dw_T_push_17 rfl (fun σ1 r2 => ?_)
      refine gx_if_eq hX 34 23 dw_T_push_20 (by decide) rfl (fun _ => ?_) (fun _ => ?_)
      · refine gx_iconst hX (-1) 35 dw_T_push_34 (by decide) rfl ?_
        exact gx_ret hX dw_T_push_35
      · refine gx_aload_n hX 0 24 dw_T_push_23 rfl rfl rfl ?_
        refine tg_0 hX 1 27 (by decide) tw_451 rfl dw_T_push_24 rfl ?_
        refine gx_iload_n hX 1 28 dw_T_push_27 rfl rfl rfl ?_
        exact gx_none
def my_T_push : MethodName := ⟨"TypeLoom", "push", "(II)I"⟩
theorem hy_T_push : (my_T_push.cls ≠ "java/lang/invoke/MethodHandle" ∧ my_T_push.cls ≠ "java/lang/invoke/VarHandle") ∧ (parseMethodDescriptor my_T_push.desc).map (fun d => d.parameters.length) = some 2 := by decide +kernel
theorem tm_T_push {D : va_G} {ob : Nat → Nat} {cA : ClassId} (l : Launch) (σ : gx_S) (L1 : Int32) (L2 : Int32) : gx_C l (tc_V D ob cA) my_T_push prog_1_method_3_code 3 (some .int) 1 21 [.ref (ob 0), .int L1, .int L2] σ (kt_T_push σ L1 L2) := gx_met (by decide) rfl (Nat.le_of_ble_eq_true rfl) rfl (fun X _ hX => tl_T_push hX σ L1 L2)
theorem tr_T_push {D : va_G} {ob : Nat → Nat} {cA : ClassId} {X : gx_X} {cc : ByteArray} {own : String} {nL fr lo : Nat} {rt : Option FieldType} {σ : gx_S} {pc : Nat} {lv : List (Nat × Value)} {st : List Value} (hX : gx_K (tc_V D ob cA) X cc own nL fr lo rt) {idx : Nat} {L1 : Int32} {L2 : Int32} {k : gx_S → Int32 → gx_R} (n : Nat) (hlink : Cond.methodLink own idx ({ cls := "TypeLoom", name := "push", desc := "(II)I" } : Jvm.MethodName) ∈ gx_T) (hroom : 1 + 1 ≤ fr ∧ 8 + (3 + 11) + 21 ≤ lo) (hst : (st.map fun v => v.category).sum ≤ 8) (hd : decode cc pc = .ok (.invokevirtual idx, 3)) (hn : pc + 3 = n) (kk : ∀ σ' r, gx_G (tc_V D ob cA) X (k σ' r) σ' n lv (.int r :: st)) : gx_G (tc_V D ob cA) X (gx_bd (kt_T_push σ L1 L2) k) σ pc lv (.int L2 :: .int L1 :: .ref (ob 0) :: st) :=
  gx_callI hX [.int L1, .int L2] n rfl (tm_T_push _ σ L1 L2) hy_T_push tw_510 hlink tw_508 tw_509 tw_70 (gf_recv 0 (show 0 < 55 by decide) rfl rfl) hroom hst hd hn rfl (fun σ' r _ => kk σ' r)
def kt_T_built (σ : gx_S) (L1 : Int32) : gx_R :=
  gx_bd (kt_Constructors_has σ L1) (fun σ1 r2 =>
  if r2 = 0 then
    some (σ1, (-1))
  else
    if 0 < (σ1.1 2) then
      some (σ1, (-1))
    else
      none)
set_option maxRecDepth 100000 in
set_option maxHeartbeats 4000000 in
theorem tl_T_built {D : va_G} {ob : Nat → Nat} {cA : ClassId} {X : gx_X} (hX : gx_K (tc_V D ob cA) X prog_1_method_4_code "TypeLoom" 4 1 21 (some .int)) (σ : gx_S) (L1 : Int32) : gx_G (tc_V D ob cA) X (kt_T_built σ L1) σ 0 [(0, .ref (ob 0)), (1, .int L1)] [] := by
  unfold kt_T_built
  refine gx_aload_n hX 0 1 dw_T_built_0 rfl rfl rfl ?_
  refine tg_0 hX 0 4 (by decide) tw_450 rfl dw_T_built_1 rfl ?_
  refine gx_iload_n hX 1 5 dw_T_built_4 rfl rfl rfl ?_
  refine tr_Constructors_has hX 8 tw_537 ⟨Nat.le_of_ble_eq_true rfl, Nat.le_of_ble_eq_true rfl⟩ (Nat.le_of_ble_eq_true rfl) dw_T_built_5 rfl (fun σ1 r2 => ?_)
  refine gx_if_eq hX 39 11 dw_T_built_8 (by decide) rfl (fun _ => ?_) (fun _ => ?_)
  · refine gx_iconst hX (-1) 40 dw_T_built_39 (by decide) rfl ?_
    exact gx_ret hX dw_T_built_40
  · refine gx_aload_n hX 0 12 dw_T_built_11 rfl rfl rfl ?_
    refine tg_0 hX 1 15 (by decide) tw_451 rfl dw_T_built_12 rfl ?_
    refine tg_2 hX 3 18 (by decide) tw_137 rfl dw_T_built_15 rfl ?_
    refine gx_if_gt hX 39 21 dw_T_built_18 (by decide) rfl (fun _ => ?_) (fun _ => ?_)
    · refine gx_iconst hX (-1) 40 dw_T_built_39 (by decide) rfl ?_
      exact gx_ret hX dw_T_built_40
    · refine gx_aload_n hX 0 22 dw_T_built_21 rfl rfl rfl ?_
      refine tg_0 hX 1 25 (by decide) tw_451 rfl dw_T_built_22 rfl ?_
      refine tg_2 hX 2 28 (by decide) tw_135 rfl dw_T_built_25 rfl ?_
      refine gx_aload_n hX 0 29 dw_T_built_28 rfl rfl rfl ?_
      refine tg_0 hX 0 32 (by decide) tw_450 rfl dw_T_built_29 rfl ?_
      refine gx_iload_n hX 1 33 dw_T_built_32 rfl rfl rfl ?_
      exact gx_none
def my_T_built : MethodName := ⟨"TypeLoom", "built", "(I)I"⟩
theorem hy_T_built : (my_T_built.cls ≠ "java/lang/invoke/MethodHandle" ∧ my_T_built.cls ≠ "java/lang/invoke/VarHandle") ∧ (parseMethodDescriptor my_T_built.desc).map (fun d => d.parameters.length) = some 1 := by decide +kernel
theorem tm_T_built {D : va_G} {ob : Nat → Nat} {cA : ClassId} (l : Launch) (σ : gx_S) (L1 : Int32) : gx_C l (tc_V D ob cA) my_T_built prog_1_method_4_code 4 (some .int) 1 21 [.ref (ob 0), .int L1] σ (kt_T_built σ L1) := gx_met (by decide) rfl (Nat.le_of_ble_eq_true rfl) rfl (fun X _ hX => tl_T_built hX σ L1)
theorem tr_T_built {D : va_G} {ob : Nat → Nat} {cA : ClassId} {X : gx_X} {cc : ByteArray} {own : String} {nL fr lo : Nat} {rt : Option FieldType} {σ : gx_S} {pc : Nat} {lv : List (Nat × Value)} {st : List Value} (hX : gx_K (tc_V D ob cA) X cc own nL fr lo rt) {idx : Nat} {L1 : Int32} {k : gx_S → Int32 → gx_R} (n : Nat) (hlink : Cond.methodLink own idx ({ cls := "TypeLoom", name := "built", desc := "(I)I" } : Jvm.MethodName) ∈ gx_T) (hroom : 1 + 1 ≤ fr ∧ 8 + (4 + 11) + 21 ≤ lo) (hst : (st.map fun v => v.category).sum ≤ 8) (hd : decode cc pc = .ok (.invokevirtual idx, 3)) (hn : pc + 3 = n) (kk : ∀ σ' r, gx_G (tc_V D ob cA) X (k σ' r) σ' n lv (.int r :: st)) : gx_G (tc_V D ob cA) X (gx_bd (kt_T_built σ L1) k) σ pc lv (.int L1 :: .ref (ob 0) :: st) :=
  gx_callI hX [.int L1] n rfl (tm_T_built _ σ L1) hy_T_built tw_536 hlink tw_534 tw_535 tw_70 (gf_recv 0 (show 0 < 55 by decide) rfl rfl) hroom hst hd hn rfl (fun σ' r _ => kk σ' r)
def kt_T_record (σ : gx_S) (L1 : Int32) : gx_R :=
  if (σ.1 1) ≤ (σ.1 2) then
    gx_bd (kt_Web_hasRoom σ 1 ((σ.1 1))) (fun σ1 r2 =>
    if r2 = 0 then
      some (σ1, (-2))
    else
      gx_jn (fun (σ3 : gx_S) (L1 : Int32) =>
        gx_bd (kt_Web_addNode σ3 4 0 101 0) (fun σ4 r5 =>
        gx_jn (fun (σ6 : gx_S) (L1 : Int32) (L2 : Int32) =>
          gx_bd (kt_Pushed_drop σ6) (fun σ7 _ =>
          gx_jn (fun (σ9 : gx_S) (L2 : Int32) =>
            gx_bd (kt_Web_addType σ9 L2) (fun σ10 r11 =>
            some (σ10, r11))) (fun j168 =>
          if L1 = 0 then
            j168 σ7 L2
          else
            gx_bd (kt_Web_addNode σ7 5 0 ((σ7.1 20)) 0) (fun σ12 r13 =>
            gx_bd (tc_pt σ12 10 L2 r13) (fun σ14 _ =>
            gx_sb (gx_si σ14 7 ((((σ14.1 7)) + 1))) (fun σ16 =>
            j168 σ16 L2)))))) (fun j119 =>
        gx_lp (α := gx_S → Int32 → Int32 → Int32 → gx_R) (fun _ _ _ _ => none) (fun again72 (σ17 : gx_S) (L1 : Int32) (L2 : Int32) (L3 : Int32) =>
          if (σ17.1 1) ≤ L3 then
          j119 σ17 L1 L2
        else
          gx_bv (tc_at σ17 2 L3) (fun r18 =>
          gx_bv (tc_at σ17 3 L3) (fun r19 =>
          none))) gx_F σ4 L1 r5 0))) (fun j57 =>
      if L1 = 0 then
        j57 σ1 L1
      else
        if (σ1.1 7) < 512 then
          j57 σ1 L1
        else
          some (σ1, (-2))))
  else
    some (σ, (-1))
set_option maxRecDepth 100000 in
set_option maxHeartbeats 4000000 in
theorem tl_T_record {D : va_G} {ob : Nat → Nat} {cA : ClassId} {X : gx_X} (hX : gx_K (tc_V D ob cA) X prog_1_method_5_code "TypeLoom" 4 2 47 (some .int)) (σ : gx_S) (L1 : Int32) : gx_G (tc_V D ob cA) X (kt_T_record σ L1) σ 0 [(0, .ref (ob 0)), (1, .int L1)] [] := by
  unfold kt_T_record
  refine gx_aload_n hX 0 1 dw_T_record_0 rfl rfl rfl ?_
  refine tg_0 hX 1 4 (by decide) tw_451 rfl dw_T_record_1 rfl ?_
  refine tg_2 hX 3 7 (by decide) tw_137 rfl dw_T_record_4 rfl ?_
  refine gx_aload_n hX 0 8 dw_T_record_7 rfl rfl rfl ?_
  refine tg_0 hX 1 11 (by decide) tw_451 rfl dw_T_record_8 rfl ?_
  refine tg_2 hX 2 14 (by decide) tw_135 rfl dw_T_record_11 rfl ?_
  refine gx_icmp_ge hX 19 17 dw_T_record_14 (by decide) rfl (fun _ => ?_) (fun _ => ?_)
  · refine gx_aload_n hX 0 20 dw_T_record_19 rfl rfl rfl ?_
    refine tg_0 hX 2 23 (by decide) tw_452 rfl dw_T_record_20 rfl ?_
    refine gx_iconst hX 1 24 dw_T_record_23 (by decide) rfl ?_
    refine gx_aload_n hX 0 25 dw_T_record_24 rfl rfl rfl ?_
    refine tg_0 hX 1 28 (by decide) tw_451 rfl dw_T_record_25 rfl ?_
    refine tg_2 hX 2 31 (by decide) tw_135 rfl dw_T_record_28 rfl ?_
    refine tr_Web_hasRoom hX 34 tw_546 ⟨Nat.le_of_ble_eq_true rfl, Nat.le_of_ble_eq_true rfl⟩ (Nat.le_of_ble_eq_true rfl) dw_T_record_31 rfl (fun σ1 r2 => ?_)
    refine gx_if_eq hX 54 37 dw_T_record_34 (by decide) rfl (fun _ => ?_) (fun _ => ?_)
    · refine gx_bipush hX (-2) 56 dw_T_record_54 (by decide) rfl ?_
      exact gx_ret hX dw_T_record_56
    · refine gx_iload_n hX 1 38 dw_T_record_37 rfl rfl rfl ?_
      refine gx_jnI (fun (j : gx_S → Int32 → gx_R) => ∀ (σ3 : gx_S) (L1 : Int32), gx_G (tc_V D ob cA) X (j σ3 L1) σ3 57 [(0, .ref (ob 0)), (1, .int L1)] []) (fun σ3 L1 => ?_) (fun j57 h57 => ?_)
      · refine gx_aload_n hX 0 58 dw_T_record_57 rfl rfl rfl ?_
        refine tg_0 hX 2 61 (by decide) tw_452 rfl dw_T_record_58 rfl ?_
        refine gx_iconst hX 4 62 dw_T_record_61 (by decide) rfl ?_
        refine gx_iconst hX 0 63 dw_T_record_62 (by decide) rfl ?_
        refine gx_bipush hX 101 65 dw_T_record_63 (by decide) rfl ?_
        refine gx_iconst hX 0 66 dw_T_record_65 (by decide) rfl ?_
        refine tr_Web_addNode hX 69 tw_551 ⟨Nat.le_of_ble_eq_true rfl, Nat.le_of_ble_eq_true rfl⟩ (Nat.le_of_ble_eq_true rfl) dw_T_record_66 rfl (fun σ4 r5 => ?_)
        refine gx_istore_n hX [(2, .int r5), (0, .ref (ob 0)), (1, .int L1)] 70 dw_T_record_69 rfl (by decide) rfl rfl ?_
        refine gx_iconst hX 0 71 dw_T_record_70 (by decide) rfl ?_
        refine gx_istore_n hX [(3, .int 0), (2, .int r5), (0, .ref (ob 0)), (1, .int L1)] 72 dw_T_record_71 rfl (by decide) rfl rfl ?_
        refine gx_jnI (fun (j : gx_S → Int32 → Int32 → gx_R) => ∀ (σ6 : gx_S) (L1 : Int32) (L2 : Int32), gx_G (tc_V D ob cA) X (j σ6 L1 L2) σ6 119 [(0, .ref (ob 0)), (1, .int L1), (2, .int L2)] []) (fun σ6 L1 L2 => ?_) (fun j119 h119 => ?_)
        · refine gx_aload_n hX 0 120 dw_T_record_119 rfl rfl rfl ?_
          refine tg_0 hX 1 123 (by decide) tw_451 rfl dw_T_record_120 rfl ?_
          refine tr_Pushed_drop hX 126 tw_561 ⟨Nat.le_of_ble_eq_true rfl, Nat.le_of_ble_eq_true rfl⟩ (Nat.le_of_ble_eq_true rfl) dw_T_record_123 rfl (fun σ7 _ => ?_)
          refine gx_iload_n hX 1 127 dw_T_record_126 rfl rfl rfl ?_
          refine gx_jnI (fun (j : gx_S → Int32 → gx_R) => ∀ (σ9 : gx_S) (L2 : Int32), gx_G (tc_V D ob cA) X (j σ9 L2) σ9 168 [(0, .ref (ob 0)), (2, .int L2)] []) (fun σ9 L2 => ?_) (fun j168 h168 => ?_)
          · refine gx_aload_n hX 0 169 dw_T_record_168 rfl rfl rfl ?_
            refine tg_0 hX 2 172 (by decide) tw_452 rfl dw_T_record_169 rfl ?_
            refine gx_iload_n hX 1 173 dw_T_record_172 rfl rfl rfl ?_
            refine tr_Web_addType hX 176 tw_565 ⟨Nat.le_of_ble_eq_true rfl, Nat.le_of_ble_eq_true rfl⟩ (Nat.le_of_ble_eq_true rfl) dw_T_record_173 rfl (fun σ10 r11 => ?_)
            exact gx_ret hX dw_T_record_176
          refine gx_if_eq hX 168 130 dw_T_record_127 (by decide) rfl (fun _ => ?_) (fun _ => ?_)
          · exact gx_pick (lv' := [(0, .ref (ob 0)), (2, .int L2)]) hX [0, 2] rfl (h168 σ7 L2)
          · refine gx_aload_n hX 0 131 dw_T_record_130 rfl rfl rfl ?_
            refine tg_0 hX 2 134 (by decide) tw_452 rfl dw_T_record_131 rfl ?_
            refine tg_3 hX 6 137 (by decide) tw_182 rfl dw_T_record_134 rfl ?_
            refine gx_iload_n hX 2 138 dw_T_record_137 rfl rfl rfl ?_
            refine gx_aload_n hX 0 139 dw_T_record_138 rfl rfl rfl ?_
            refine tg_0 hX 2 142 (by decide) tw_452 rfl dw_T_record_139 rfl ?_
            refine gx_iconst hX 5 143 dw_T_record_142 (by decide) rfl ?_
            refine gx_iconst hX 0 144 dw_T_record_143 (by decide) rfl ?_
            refine gx_aload_n hX 0 145 dw_T_record_144 rfl rfl rfl ?_
            refine tg_0 hX 7 148 (by decide) tw_457 rfl dw_T_record_145 rfl ?_
            refine gx_iconst hX 0 149 dw_T_record_148 (by decide) rfl ?_
            refine tr_Web_addNode hX 152 tw_551 ⟨Nat.le_of_ble_eq_true rfl, Nat.le_of_ble_eq_true rfl⟩ (Nat.le_of_ble_eq_true rfl) dw_T_record_149 rfl (fun σ12 r13 => ?_)
            refine tr_put hX 10 155 (by decide) tw_573 ⟨Nat.le_of_ble_eq_true rfl, Nat.le_of_ble_eq_true rfl⟩ (Nat.le_of_ble_eq_true rfl) dw_T_record_152 rfl (fun σ14 _ => ?_)
            refine gx_aload_n hX 0 156 dw_T_record_155 rfl rfl rfl ?_
            refine tg_0 hX 2 159 (by decide) tw_452 rfl dw_T_record_156 rfl ?_
            refine gx_dup hX 160 dw_T_record_159 rfl rfl ?_
            refine tg_3 hX 16 163 (by decide) tw_208 rfl dw_T_record_160 rfl ?_
            refine gx_iconst hX 1 164 dw_T_record_163 (by decide) rfl ?_
            refine gx_iadd hX 165 dw_T_record_164 rfl ?_
            refine tp_7 hX 168 tw_208 dw_T_record_165 rfl (fun σ16 => ?_)
            exact gx_pick (lv' := [(0, .ref (ob 0)), (2, .int L2)]) hX [0, 2] rfl (h168 σ16 L2)
        refine gx_pick (lv' := [(0, .ref (ob 0)), (1, .int L1), (2, .int r5), (3, .int 0)]) hX [2, 3, 1, 0] rfl (gx_lpI (fun (f : gx_S → Int32 → Int32 → Int32 → gx_R) => ∀ (σ17 : gx_S) (L1 : Int32) (L2 : Int32) (L3 : Int32), gx_G (tc_V D ob cA) X (f σ17 L1 L2 L3) σ17 72 [(0, .ref (ob 0)), (1, .int L1), (2, .int L2), (3, .int L3)] []) (fun _ _ _ _ => gx_none) (fun again72 ih72 σ17 L1 L2 L3 => ?_) _ σ4 L1 r5 0)
        refine gx_iload_n hX 3 73 dw_T_record_72 rfl rfl rfl ?_
        refine gx_aload_n hX 0 74 dw_T_record_73 rfl rfl rfl ?_
        refine tg_0 hX 1 77 (by decide) tw_451 rfl dw_T_record_74 rfl ?_
        refine tg_2 hX 2 80 (by decide) tw_135 rfl dw_T_record_77 rfl ?_
        refine gx_icmp_ge hX 119 83 dw_T_record_80 (by decide) rfl (fun _ => ?_) (fun _ => ?_)
        · exact gx_pick (lv' := [(0, .ref (ob 0)), (1, .int L1), (2, .int L2)]) hX [0, 1, 2] rfl (h119 σ17 L1 L2)
        · refine gx_aload_n hX 0 84 dw_T_record_83 rfl rfl rfl ?_
          refine tg_0 hX 2 87 (by decide) tw_452 rfl dw_T_record_84 rfl ?_
          refine gx_iload_n hX 2 88 dw_T_record_87 rfl rfl rfl ?_
          refine gx_aload_n hX 0 89 dw_T_record_88 rfl rfl rfl ?_
          refine tg_0 hX 1 92 (by decide) tw_451 rfl dw_T_record_89 rfl ?_
          refine tg_2 hX 0 95 (by decide) tw_131 rfl dw_T_record_92 rfl ?_
          refine gx_iload_n hX 3 96 dw_T_record_95 rfl rfl rfl ?_
          refine tr_at hX 2 99 (by decide) tw_556 ⟨Nat.le_of_ble_eq_true rfl, Nat.le_of_ble_eq_true rfl⟩ (Nat.le_of_ble_eq_true rfl) dw_T_record_96 rfl (fun r18 => ?_)
          refine gx_aload_n hX 0 100 dw_T_record_99 rfl rfl rfl ?_
          refine tg_0 hX 1 103 (by decide) tw_451 rfl dw_T_record_100 rfl ?_
          refine tg_2 hX 1 106 (by decide) tw_133 rfl dw_T_record_103 rfl ?_
          refine gx_iload_n hX 3 107 dw_T_record_106 rfl rfl rfl ?_
          refine tr_at hX 3 110 (by decide) tw_556 ⟨Nat.le_of_ble_eq_true rfl, Nat.le_of_ble_eq_true rfl⟩ (Nat.le_of_ble_eq_true rfl) dw_T_record_107 rfl (fun r19 => ?_)
          exact gx_none
      refine gx_if_eq hX 57 41 dw_T_record_38 (by decide) rfl (fun _ => ?_) (fun _ => ?_)
      · exact gx_pick (lv' := [(0, .ref (ob 0)), (1, .int L1)]) hX [0, 1] rfl (h57 σ1 L1)
      · refine gx_aload_n hX 0 42 dw_T_record_41 rfl rfl rfl ?_
        refine tg_0 hX 2 45 (by decide) tw_452 rfl dw_T_record_42 rfl ?_
        refine tg_3 hX 16 48 (by decide) tw_208 rfl dw_T_record_45 rfl ?_
        refine gx_sipush hX 512 51 dw_T_record_48 (by decide) rfl ?_
        refine gx_icmp_lt hX 57 54 dw_T_record_51 (by decide) rfl (fun _ => ?_) (fun _ => ?_)
        · exact gx_pick (lv' := [(0, .ref (ob 0)), (1, .int L1)]) hX [0, 1] rfl (h57 σ1 L1)
        · refine gx_bipush hX (-2) 56 dw_T_record_54 (by decide) rfl ?_
          exact gx_ret hX dw_T_record_56
  · refine gx_iconst hX (-1) 18 dw_T_record_17 (by decide) rfl ?_
    exact gx_ret hX dw_T_record_18
def my_T_record : MethodName := ⟨"TypeLoom", "record", "(Z)I"⟩
theorem hy_T_record : (my_T_record.cls ≠ "java/lang/invoke/MethodHandle" ∧ my_T_record.cls ≠ "java/lang/invoke/VarHandle") ∧ (parseMethodDescriptor my_T_record.desc).map (fun d => d.parameters.length) = some 1 := by decide +kernel
theorem tm_T_record {D : va_G} {ob : Nat → Nat} {cA : ClassId} (l : Launch) (σ : gx_S) (L1 : Int32) : gx_C l (tc_V D ob cA) my_T_record prog_1_method_5_code 4 (some .int) 2 47 [.ref (ob 0), .int L1] σ (kt_T_record σ L1) := gx_met (by decide) rfl (Nat.le_of_ble_eq_true rfl) rfl (fun X _ hX => tl_T_record hX σ L1)
theorem tr_T_record {D : va_G} {ob : Nat → Nat} {cA : ClassId} {X : gx_X} {cc : ByteArray} {own : String} {nL fr lo : Nat} {rt : Option FieldType} {σ : gx_S} {pc : Nat} {lv : List (Nat × Value)} {st : List Value} (hX : gx_K (tc_V D ob cA) X cc own nL fr lo rt) {idx : Nat} {L1 : Int32} {k : gx_S → Int32 → gx_R} (n : Nat) (hlink : Cond.methodLink own idx ({ cls := "TypeLoom", name := "record", desc := "(Z)I" } : Jvm.MethodName) ∈ gx_T) (hroom : 2 + 1 ≤ fr ∧ 8 + (4 + 11) + 47 ≤ lo) (hst : (st.map fun v => v.category).sum ≤ 8) (hd : decode cc pc = .ok (.invokevirtual idx, 3)) (hn : pc + 3 = n) (kk : ∀ σ' r, gx_G (tc_V D ob cA) X (k σ' r) σ' n lv (.int r :: st)) : gx_G (tc_V D ob cA) X (gx_bd (kt_T_record σ L1) k) σ pc lv (.int L1 :: .ref (ob 0) :: st) :=
  gx_callI hX [.int L1] n rfl (tm_T_record _ σ L1) hy_T_record tw_572 hlink tw_570 tw_571 tw_70 (gf_recv 0 (show 0 < 55 by decide) rfl rfl) hroom hst hd hn rfl (fun σ' r _ => kk σ' r)
def kt_T_function (σ : gx_S) (L1 : Int32) (L2 : Int32) : gx_R :=
  gx_bd (kt_Web_isType σ L1) (fun σ1 r2 =>
  if r2 = 0 then
    some (σ1, (-1))
  else
    gx_bd (kt_Web_isType σ1 L2) (fun σ3 r4 =>
    if r4 = 0 then
      some (σ3, (-1))
    else
      gx_bd (kt_Web_hasRoom σ3 1 2) (fun σ5 r6 =>
      if r6 = 0 then
        some (σ5, (-2))
      else
        gx_bd (kt_Web_addNode σ5 3 0 101 0) (fun σ7 r8 =>
        none))))
set_option maxRecDepth 100000 in
set_option maxHeartbeats 4000000 in
theorem tl_T_function {D : va_G} {ob : Nat → Nat} {cA : ClassId} {X : gx_X} (hX : gx_K (tc_V D ob cA) X prog_1_method_6_code "TypeLoom" 4 2 47 (some .int)) (σ : gx_S) (L1 : Int32) (L2 : Int32) : gx_G (tc_V D ob cA) X (kt_T_function σ L1 L2) σ 0 [(0, .ref (ob 0)), (1, .int L1), (2, .int L2)] [] := by
  unfold kt_T_function
  refine gx_aload_n hX 0 1 dw_T_function_0 rfl rfl rfl ?_
  refine tg_0 hX 2 4 (by decide) tw_452 rfl dw_T_function_1 rfl ?_
  refine gx_iload_n hX 1 5 dw_T_function_4 rfl rfl rfl ?_
  refine tr_Web_isType hX 8 tw_511 ⟨Nat.le_of_ble_eq_true rfl, Nat.le_of_ble_eq_true rfl⟩ (Nat.le_of_ble_eq_true rfl) dw_T_function_5 rfl (fun σ1 r2 => ?_)
  refine gx_if_eq hX 22 11 dw_T_function_8 (by decide) rfl (fun _ => ?_) (fun _ => ?_)
  · refine gx_iconst hX (-1) 23 dw_T_function_22 (by decide) rfl ?_
    exact gx_ret hX dw_T_function_23
  · refine gx_aload_n hX 0 12 dw_T_function_11 rfl rfl rfl ?_
    refine tg_0 hX 2 15 (by decide) tw_452 rfl dw_T_function_12 rfl ?_
    refine gx_iload_n hX 2 16 dw_T_function_15 rfl rfl rfl ?_
    refine tr_Web_isType hX 19 tw_511 ⟨Nat.le_of_ble_eq_true rfl, Nat.le_of_ble_eq_true rfl⟩ (Nat.le_of_ble_eq_true rfl) dw_T_function_16 rfl (fun σ3 r4 => ?_)
    refine gx_if_ne hX 24 22 dw_T_function_19 (by decide) rfl (fun _ => ?_) (fun _ => ?_)
    · refine gx_aload_n hX 0 25 dw_T_function_24 rfl rfl rfl ?_
      refine tg_0 hX 2 28 (by decide) tw_452 rfl dw_T_function_25 rfl ?_
      refine gx_iconst hX 1 29 dw_T_function_28 (by decide) rfl ?_
      refine gx_iconst hX 2 30 dw_T_function_29 (by decide) rfl ?_
      refine tr_Web_hasRoom hX 33 tw_546 ⟨Nat.le_of_ble_eq_true rfl, Nat.le_of_ble_eq_true rfl⟩ (Nat.le_of_ble_eq_true rfl) dw_T_function_30 rfl (fun σ5 r6 => ?_)
      refine gx_if_ne hX 39 36 dw_T_function_33 (by decide) rfl (fun _ => ?_) (fun _ => ?_)
      · refine gx_aload_n hX 0 40 dw_T_function_39 rfl rfl rfl ?_
        refine tg_0 hX 2 43 (by decide) tw_452 rfl dw_T_function_40 rfl ?_
        refine gx_iconst hX 3 44 dw_T_function_43 (by decide) rfl ?_
        refine gx_iconst hX 0 45 dw_T_function_44 (by decide) rfl ?_
        refine gx_bipush hX 101 47 dw_T_function_45 (by decide) rfl ?_
        refine gx_iconst hX 0 48 dw_T_function_47 (by decide) rfl ?_
        refine tr_Web_addNode hX 51 tw_551 ⟨Nat.le_of_ble_eq_true rfl, Nat.le_of_ble_eq_true rfl⟩ (Nat.le_of_ble_eq_true rfl) dw_T_function_48 rfl (fun σ7 r8 => ?_)
        refine gx_istore_n hX [(3, .int r8), (0, .ref (ob 0)), (1, .int L1), (2, .int L2)] 52 dw_T_function_51 rfl (by decide) rfl rfl ?_
        refine gx_aload_n hX 1 53 dw_T_function_52 rfl rfl rfl ?_
        refine tg_0 hX 2 56 (by decide) tw_452 rfl dw_T_function_53 rfl ?_
        refine gx_iload_n hX 0 57 dw_T_function_56 rfl rfl rfl ?_
        refine gx_iconst hX 0 58 dw_T_function_57 (by decide) rfl ?_
        refine gx_aload_n hX 1 59 dw_T_function_58 rfl rfl rfl ?_
        refine tg_0 hX 2 62 (by decide) tw_452 rfl dw_T_function_59 rfl ?_
        refine gx_iload_n hX 2 63 dw_T_function_62 rfl rfl rfl ?_
        exact gx_none
      · refine gx_bipush hX (-2) 38 dw_T_function_36 (by decide) rfl ?_
        exact gx_ret hX dw_T_function_38
    · refine gx_iconst hX (-1) 23 dw_T_function_22 (by decide) rfl ?_
      exact gx_ret hX dw_T_function_23
def my_T_function : MethodName := ⟨"TypeLoom", "function", "(II)I"⟩
theorem hy_T_function : (my_T_function.cls ≠ "java/lang/invoke/MethodHandle" ∧ my_T_function.cls ≠ "java/lang/invoke/VarHandle") ∧ (parseMethodDescriptor my_T_function.desc).map (fun d => d.parameters.length) = some 2 := by decide +kernel
theorem tm_T_function {D : va_G} {ob : Nat → Nat} {cA : ClassId} (l : Launch) (σ : gx_S) (L1 : Int32) (L2 : Int32) : gx_C l (tc_V D ob cA) my_T_function prog_1_method_6_code 4 (some .int) 2 47 [.ref (ob 0), .int L1, .int L2] σ (kt_T_function σ L1 L2) := gx_met (by decide) rfl (Nat.le_of_ble_eq_true rfl) rfl (fun X _ hX => tl_T_function hX σ L1 L2)
theorem tr_T_function {D : va_G} {ob : Nat → Nat} {cA : ClassId} {X : gx_X} {cc : ByteArray} {own : String} {nL fr lo : Nat} {rt : Option FieldType} {σ : gx_S} {pc : Nat} {lv : List (Nat × Value)} {st : List Value} (hX : gx_K (tc_V D ob cA) X cc own nL fr lo rt) {idx : Nat} {L1 : Int32} {L2 : Int32} {k : gx_S → Int32 → gx_R} (n : Nat) (hlink : Cond.methodLink own idx ({ cls := "TypeLoom", name := "function", desc := "(II)I" } : Jvm.MethodName) ∈ gx_T) (hroom : 2 + 1 ≤ fr ∧ 8 + (4 + 11) + 47 ≤ lo) (hst : (st.map fun v => v.category).sum ≤ 8) (hd : decode cc pc = .ok (.invokevirtual idx, 3)) (hn : pc + 3 = n) (kk : ∀ σ' r, gx_G (tc_V D ob cA) X (k σ' r) σ' n lv (.int r :: st)) : gx_G (tc_V D ob cA) X (gx_bd (kt_T_function σ L1 L2) k) σ pc lv (.int L2 :: .int L1 :: .ref (ob 0) :: st) :=
  gx_callI hX [.int L1, .int L2] n rfl (tm_T_function _ σ L1 L2) hy_T_function tw_577 hlink tw_575 tw_576 tw_70 (gf_recv 0 (show 0 < 55 by decide) rfl rfl) hroom hst hd hn rfl (fun σ' r _ => kk σ' r)
def kt_T_variable (σ : gx_S) (L1 : Int32) (L2 : Int32) : gx_R :=
  if L2 < 0 then
    some (σ, (-1))
  else
    gx_bd (kt_Constructors_mayBeSet σ L2 L1) (fun σ1 r2 =>
    if r2 = 0 then
      some (σ1, (-1))
    else
      gx_bd (kt_T_leaf σ1 0 L2 L1) (fun σ3 r4 =>
      some (σ3, r4)))
set_option maxRecDepth 100000 in
set_option maxHeartbeats 4000000 in
theorem tl_T_variable {D : va_G} {ob : Nat → Nat} {cA : ClassId} {X : gx_X} (hX : gx_K (tc_V D ob cA) X prog_1_method_7_code "TypeLoom" 3 3 70 (some .int)) (σ : gx_S) (L1 : Int32) (L2 : Int32) : gx_G (tc_V D ob cA) X (kt_T_variable σ L1 L2) σ 0 [(0, .ref (ob 0)), (1, .int L1), (2, .int L2)] [] := by
  unfold kt_T_variable
  refine gx_iload_n hX 2 1 dw_T_variable_0 rfl rfl rfl ?_
  refine gx_if_lt hX 16 4 dw_T_variable_1 (by decide) rfl (fun _ => ?_) (fun _ => ?_)
  · refine gx_iconst hX (-1) 17 dw_T_variable_16 (by decide) rfl ?_
    exact gx_ret hX dw_T_variable_17
  · refine gx_aload_n hX 0 5 dw_T_variable_4 rfl rfl rfl ?_
    refine tg_0 hX 0 8 (by decide) tw_450 rfl dw_T_variable_5 rfl ?_
    refine gx_iload_n hX 2 9 dw_T_variable_8 rfl rfl rfl ?_
    refine gx_iload_n hX 1 10 dw_T_variable_9 rfl rfl rfl ?_
    refine tr_Constructors_mayBeSet hX 13 tw_582 ⟨Nat.le_of_ble_eq_true rfl, Nat.le_of_ble_eq_true rfl⟩ (Nat.le_of_ble_eq_true rfl) dw_T_variable_10 rfl (fun σ1 r2 => ?_)
    refine gx_if_ne hX 18 16 dw_T_variable_13 (by decide) rfl (fun _ => ?_) (fun _ => ?_)
    · refine gx_aload_n hX 0 19 dw_T_variable_18 rfl rfl rfl ?_
      refine gx_iconst hX 0 20 dw_T_variable_19 (by decide) rfl ?_
      refine gx_iload_n hX 2 21 dw_T_variable_20 rfl rfl rfl ?_
      refine gx_iload_n hX 1 22 dw_T_variable_21 rfl rfl rfl ?_
      refine tr_T_leaf hX 25 tw_587 ⟨Nat.le_of_ble_eq_true rfl, Nat.le_of_ble_eq_true rfl⟩ (Nat.le_of_ble_eq_true rfl) dw_T_variable_22 rfl (fun σ3 r4 => ?_)
      exact gx_ret hX dw_T_variable_25
    · refine gx_iconst hX (-1) 17 dw_T_variable_16 (by decide) rfl ?_
      exact gx_ret hX dw_T_variable_17
def my_T_variable : MethodName := ⟨"TypeLoom", "variable", "(ZI)I"⟩
theorem hy_T_variable : (my_T_variable.cls ≠ "java/lang/invoke/MethodHandle" ∧ my_T_variable.cls ≠ "java/lang/invoke/VarHandle") ∧ (parseMethodDescriptor my_T_variable.desc).map (fun d => d.parameters.length) = some 2 := by decide +kernel
theorem tm_T_variable {D : va_G} {ob : Nat → Nat} {cA : ClassId} (l : Launch) (σ : gx_S) (L1 : Int32) (L2 : Int32) : gx_C l (tc_V D ob cA) my_T_variable prog_1_method_7_code 3 (some .int) 3 70 [.ref (ob 0), .int L1, .int L2] σ (kt_T_variable σ L1 L2) := gx_met (by decide) rfl (Nat.le_of_ble_eq_true rfl) rfl (fun X _ hX => tl_T_variable hX σ L1 L2)
theorem tr_T_variable {D : va_G} {ob : Nat → Nat} {cA : ClassId} {X : gx_X} {cc : ByteArray} {own : String} {nL fr lo : Nat} {rt : Option FieldType} {σ : gx_S} {pc : Nat} {lv : List (Nat × Value)} {st : List Value} (hX : gx_K (tc_V D ob cA) X cc own nL fr lo rt) {idx : Nat} {L1 : Int32} {L2 : Int32} {k : gx_S → Int32 → gx_R} (n : Nat) (hlink : Cond.methodLink own idx ({ cls := "TypeLoom", name := "variable", desc := "(ZI)I" } : Jvm.MethodName) ∈ gx_T) (hroom : 3 + 1 ≤ fr ∧ 8 + (3 + 11) + 70 ≤ lo) (hst : (st.map fun v => v.category).sum ≤ 8) (hd : decode cc pc = .ok (.invokevirtual idx, 3)) (hn : pc + 3 = n) (kk : ∀ σ' r, gx_G (tc_V D ob cA) X (k σ' r) σ' n lv (.int r :: st)) : gx_G (tc_V D ob cA) X (gx_bd (kt_T_variable σ L1 L2) k) σ pc lv (.int L2 :: .int L1 :: .ref (ob 0) :: st) :=
  gx_callI hX [.int L1, .int L2] n rfl (tm_T_variable _ σ L1 L2) hy_T_variable tw_581 hlink tw_579 tw_580 tw_70 (gf_recv 0 (show 0 < 55 by decide) rfl rfl) hroom hst hd hn rfl (fun σ' r _ => kk σ' r)
def kt_T_rigid (σ : gx_S) (L1 : Int32) : gx_R :=
  gx_bd (kt_T_leaf σ 1 0 L1) (fun σ1 r2 =>
  some (σ1, r2))
set_option maxRecDepth 100000 in
set_option maxHeartbeats 4000000 in
theorem tl_T_rigid {D : va_G} {ob : Nat → Nat} {cA : ClassId} {X : gx_X} (hX : gx_K (tc_V D ob cA) X prog_1_method_8_code "TypeLoom" 2 3 70 (some .int)) (σ : gx_S) (L1 : Int32) : gx_G (tc_V D ob cA) X (kt_T_rigid σ L1) σ 0 [(0, .ref (ob 0)), (1, .int L1)] [] := by
  unfold kt_T_rigid
  refine gx_aload_n hX 0 1 dw_T_rigid_0 rfl rfl rfl ?_
  refine gx_iconst hX 1 2 dw_T_rigid_1 (by decide) rfl ?_
  refine gx_iconst hX 0 3 dw_T_rigid_2 (by decide) rfl ?_
  refine gx_iload_n hX 1 4 dw_T_rigid_3 rfl rfl rfl ?_
  refine tr_T_leaf hX 7 tw_587 ⟨Nat.le_of_ble_eq_true rfl, Nat.le_of_ble_eq_true rfl⟩ (Nat.le_of_ble_eq_true rfl) dw_T_rigid_4 rfl (fun σ1 r2 => ?_)
  exact gx_ret hX dw_T_rigid_7
def my_T_rigid : MethodName := ⟨"TypeLoom", "rigid", "(Z)I"⟩
theorem hy_T_rigid : (my_T_rigid.cls ≠ "java/lang/invoke/MethodHandle" ∧ my_T_rigid.cls ≠ "java/lang/invoke/VarHandle") ∧ (parseMethodDescriptor my_T_rigid.desc).map (fun d => d.parameters.length) = some 1 := by decide +kernel
theorem tm_T_rigid {D : va_G} {ob : Nat → Nat} {cA : ClassId} (l : Launch) (σ : gx_S) (L1 : Int32) : gx_C l (tc_V D ob cA) my_T_rigid prog_1_method_8_code 2 (some .int) 3 70 [.ref (ob 0), .int L1] σ (kt_T_rigid σ L1) := gx_met (by decide) rfl (Nat.le_of_ble_eq_true rfl) rfl (fun X _ hX => tl_T_rigid hX σ L1)
theorem tr_T_rigid {D : va_G} {ob : Nat → Nat} {cA : ClassId} {X : gx_X} {cc : ByteArray} {own : String} {nL fr lo : Nat} {rt : Option FieldType} {σ : gx_S} {pc : Nat} {lv : List (Nat × Value)} {st : List Value} (hX : gx_K (tc_V D ob cA) X cc own nL fr lo rt) {idx : Nat} {L1 : Int32} {k : gx_S → Int32 → gx_R} (n : Nat) (hlink : Cond.methodLink own idx ({ cls := "TypeLoom", name := "rigid", desc := "(Z)I" } : Jvm.MethodName) ∈ gx_T) (hroom : 3 + 1 ≤ fr ∧ 8 + (2 + 11) + 70 ≤ lo) (hst : (st.map fun v => v.category).sum ≤ 8) (hd : decode cc pc = .ok (.invokevirtual idx, 3)) (hn : pc + 3 = n) (kk : ∀ σ' r, gx_G (tc_V D ob cA) X (k σ' r) σ' n lv (.int r :: st)) : gx_G (tc_V D ob cA) X (gx_bd (kt_T_rigid σ L1) k) σ pc lv (.int L1 :: .ref (ob 0) :: st) :=
  gx_callI hX [.int L1] n rfl (tm_T_rigid _ σ L1) hy_T_rigid tw_594 hlink tw_592 tw_593 tw_70 (gf_recv 0 (show 0 < 55 by decide) rfl rfl) hroom hst hd hn rfl (fun σ' r _ => kk σ' r)
def kt_T_level (σ : gx_S) (L1 : Int32) : gx_R :=
  if L1 < 0 then
    some (σ, (-1))
  else
    if L1 ≤ 100 then
      gx_bv ((σ.1 20)) (fun x1 =>
      gx_sb (gx_si σ 20 L1) (fun σ2 =>
      some (σ2, x1)))
    else
      some (σ, (-1))
set_option maxRecDepth 100000 in
set_option maxHeartbeats 4000000 in
theorem tl_T_level {D : va_G} {ob : Nat → Nat} {cA : ClassId} {X : gx_X} (hX : gx_K (tc_V D ob cA) X prog_1_method_10_code "TypeLoom" 3 0 0 (some .int)) (σ : gx_S) (L1 : Int32) : gx_G (tc_V D ob cA) X (kt_T_level σ L1) σ 0 [(0, .ref (ob 0)), (1, .int L1)] [] := by
  unfold kt_T_level
  refine gx_iload_n hX 1 1 dw_T_level_0 rfl rfl rfl ?_
  refine gx_if_lt hX 10 4 dw_T_level_1 (by decide) rfl (fun _ => ?_) (fun _ => ?_)
  · refine gx_iconst hX (-1) 11 dw_T_level_10 (by decide) rfl ?_
    exact gx_ret hX dw_T_level_11
  · refine gx_iload_n hX 1 5 dw_T_level_4 rfl rfl rfl ?_
    refine gx_bipush hX 100 7 dw_T_level_5 (by decide) rfl ?_
    refine gx_icmp_le hX 12 10 dw_T_level_7 (by decide) rfl (fun _ => ?_) (fun _ => ?_)
    · refine gx_aload_n hX 0 13 dw_T_level_12 rfl rfl rfl ?_
      refine tg_0 hX 7 16 (by decide) tw_457 rfl dw_T_level_13 rfl ?_
      refine gx_bvN (fun x1 => ?_)
      refine gx_istore_n hX [(2, .int x1), (0, .ref (ob 0)), (1, .int L1)] 17 dw_T_level_16 rfl (by decide) rfl rfl ?_
      refine gx_aload_n hX 1 18 dw_T_level_17 rfl rfl rfl ?_
      refine gx_iload_n hX 2 19 dw_T_level_18 rfl rfl rfl ?_
      refine tp_20 hX 22 tw_457 dw_T_level_19 rfl (fun σ2 => ?_)
      refine gx_iload_n hX 0 23 dw_T_level_22 rfl rfl rfl ?_
      exact gx_ret hX dw_T_level_23
    · refine gx_iconst hX (-1) 11 dw_T_level_10 (by decide) rfl ?_
      exact gx_ret hX dw_T_level_11
def my_T_level : MethodName := ⟨"TypeLoom", "level", "(I)I"⟩
theorem hy_T_level : (my_T_level.cls ≠ "java/lang/invoke/MethodHandle" ∧ my_T_level.cls ≠ "java/lang/invoke/VarHandle") ∧ (parseMethodDescriptor my_T_level.desc).map (fun d => d.parameters.length) = some 1 := by decide +kernel
theorem tm_T_level {D : va_G} {ob : Nat → Nat} {cA : ClassId} (l : Launch) (σ : gx_S) (L1 : Int32) : gx_C l (tc_V D ob cA) my_T_level prog_1_method_10_code 3 (some .int) 0 0 [.ref (ob 0), .int L1] σ (kt_T_level σ L1) := gx_met (by decide) rfl (Nat.le_of_ble_eq_true rfl) rfl (fun X _ hX => tl_T_level hX σ L1)
theorem tr_T_level {D : va_G} {ob : Nat → Nat} {cA : ClassId} {X : gx_X} {cc : ByteArray} {own : String} {nL fr lo : Nat} {rt : Option FieldType} {σ : gx_S} {pc : Nat} {lv : List (Nat × Value)} {st : List Value} (hX : gx_K (tc_V D ob cA) X cc own nL fr lo rt) {idx : Nat} {L1 : Int32} {k : gx_S → Int32 → gx_R} (n : Nat) (hlink : Cond.methodLink own idx ({ cls := "TypeLoom", name := "level", desc := "(I)I" } : Jvm.MethodName) ∈ gx_T) (hroom : 0 + 1 ≤ fr ∧ 8 + (3 + 11) + 0 ≤ lo) (hst : (st.map fun v => v.category).sum ≤ 8) (hd : decode cc pc = .ok (.invokevirtual idx, 3)) (hn : pc + 3 = n) (kk : ∀ σ' r, gx_G (tc_V D ob cA) X (k σ' r) σ' n lv (.int r :: st)) : gx_G (tc_V D ob cA) X (gx_bd (kt_T_level σ L1) k) σ pc lv (.int L1 :: .ref (ob 0) :: st) :=
  gx_callI hX [.int L1] n rfl (tm_T_level _ σ L1) hy_T_level tw_598 hlink tw_596 tw_597 tw_70 (gf_recv 0 (show 0 < 55 by decide) rfl rfl) hroom hst hd hn rfl (fun σ' r _ => kk σ' r)
def kt_T_unify (σ : gx_S) (L1 : Int32) (L2 : Int32) : gx_R :=
  gx_bd (kt_Web_isType σ L1) (fun σ1 r2 =>
  if r2 = 0 then
    gx_rz σ1 0
  else
    gx_bd (kt_Web_isType σ1 L2) (fun σ3 r4 =>
    if r4 = 0 then
      gx_rz σ3 0
    else
      none))
set_option maxRecDepth 100000 in
set_option maxHeartbeats 4000000 in
theorem tl_T_unify {D : va_G} {ob : Nat → Nat} {cA : ClassId} {X : gx_X} (hX : gx_K (tc_V D ob cA) X prog_1_method_11_code "TypeLoom" 3 1 21 (some .boolean)) (σ : gx_S) (L1 : Int32) (L2 : Int32) : gx_G (tc_V D ob cA) X (kt_T_unify σ L1 L2) σ 0 [(0, .ref (ob 0)), (1, .int L1), (2, .int L2)] [] := by
  unfold kt_T_unify
  refine gx_aload_n hX 0 1 dw_T_unify_0 rfl rfl rfl ?_
  refine tg_0 hX 2 4 (by decide) tw_452 rfl dw_T_unify_1 rfl ?_
  refine gx_iload_n hX 1 5 dw_T_unify_4 rfl rfl rfl ?_
  refine tr_Web_isType hX 8 tw_511 ⟨Nat.le_of_ble_eq_true rfl, Nat.le_of_ble_eq_true rfl⟩ (Nat.le_of_ble_eq_true rfl) dw_T_unify_5 rfl (fun σ1 r2 => ?_)
  refine gx_if_eq hX 52 11 dw_T_unify_8 (by decide) rfl (fun _ => ?_) (fun _ => ?_)
  · refine gx_iconst hX 0 53 dw_T_unify_52 (by decide) rfl ?_
    exact gx_retz hX dw_T_unify_53
  · refine gx_aload_n hX 0 12 dw_T_unify_11 rfl rfl rfl ?_
    refine tg_0 hX 2 15 (by decide) tw_452 rfl dw_T_unify_12 rfl ?_
    refine gx_iload_n hX 2 16 dw_T_unify_15 rfl rfl rfl ?_
    refine tr_Web_isType hX 19 tw_511 ⟨Nat.le_of_ble_eq_true rfl, Nat.le_of_ble_eq_true rfl⟩ (Nat.le_of_ble_eq_true rfl) dw_T_unify_16 rfl (fun σ3 r4 => ?_)
    refine gx_if_eq hX 52 22 dw_T_unify_19 (by decide) rfl (fun _ => ?_) (fun _ => ?_)
    · refine gx_iconst hX 0 53 dw_T_unify_52 (by decide) rfl ?_
      exact gx_retz hX dw_T_unify_53
    · refine gx_aload_n hX 0 23 dw_T_unify_22 rfl rfl rfl ?_
      refine tg_0 hX 5 26 (by decide) tw_455 rfl dw_T_unify_23 rfl ?_
      refine gx_aload_n hX 0 27 dw_T_unify_26 rfl rfl rfl ?_
      refine tg_0 hX 2 30 (by decide) tw_452 rfl dw_T_unify_27 rfl ?_
      refine gx_iload_n hX 1 31 dw_T_unify_30 rfl rfl rfl ?_
      exact gx_none
def my_T_unify : MethodName := ⟨"TypeLoom", "unify", "(II)Z"⟩
theorem hy_T_unify : (my_T_unify.cls ≠ "java/lang/invoke/MethodHandle" ∧ my_T_unify.cls ≠ "java/lang/invoke/VarHandle") ∧ (parseMethodDescriptor my_T_unify.desc).map (fun d => d.parameters.length) = some 2 := by decide +kernel
theorem tm_T_unify {D : va_G} {ob : Nat → Nat} {cA : ClassId} (l : Launch) (σ : gx_S) (L1 : Int32) (L2 : Int32) : gx_C l (tc_V D ob cA) my_T_unify prog_1_method_11_code 3 (some .boolean) 1 21 [.ref (ob 0), .int L1, .int L2] σ (kt_T_unify σ L1 L2) := gx_met (by decide) rfl (Nat.le_of_ble_eq_true rfl) rfl (fun X _ hX => tl_T_unify hX σ L1 L2)
theorem tr_T_unify {D : va_G} {ob : Nat → Nat} {cA : ClassId} {X : gx_X} {cc : ByteArray} {own : String} {nL fr lo : Nat} {rt : Option FieldType} {σ : gx_S} {pc : Nat} {lv : List (Nat × Value)} {st : List Value} (hX : gx_K (tc_V D ob cA) X cc own nL fr lo rt) {idx : Nat} {L1 : Int32} {L2 : Int32} {k : gx_S → Int32 → gx_R} (n : Nat) (hlink : Cond.methodLink own idx ({ cls := "TypeLoom", name := "unify", desc := "(II)Z" } : Jvm.MethodName) ∈ gx_T) (hroom : 1 + 1 ≤ fr ∧ 8 + (3 + 11) + 21 ≤ lo) (hst : (st.map fun v => v.category).sum ≤ 8) (hd : decode cc pc = .ok (.invokevirtual idx, 3)) (hn : pc + 3 = n) (kk : ∀ σ' r, gx_G (tc_V D ob cA) X (k σ' r) σ' n lv (.int r :: st)) : gx_G (tc_V D ob cA) X (gx_bd (kt_T_unify σ L1 L2) k) σ pc lv (.int L2 :: .int L1 :: .ref (ob 0) :: st) :=
  gx_callI hX [.int L1, .int L2] n rfl (tm_T_unify _ σ L1 L2) hy_T_unify tw_602 hlink tw_600 tw_601 tw_70 (gf_recv 0 (show 0 < 55 by decide) rfl rfl) hroom hst hd hn rfl (fun σ' r _ => kk σ' r)
def kt_T_same (σ : gx_S) (L1 : Int32) (L2 : Int64) (L4 : Int32) (L5 : Int64) : gx_R :=
  gx_bd (kt_Web_follow σ L1 L2) (fun σ1 r2 =>
  gx_bd (kt_Web_follow σ1 L4 L5) (fun σ3 r4 =>
  if r2 = (-1) then
    gx_rz σ3 0
  else
    if r4 = (-1) then
      gx_rz σ3 0
    else
      gx_bv (tc_at σ3 4 r2) (fun r5 =>
      gx_bv (tc_at σ3 4 r4) (fun r6 =>
      if r5 = r6 then
        none
      else
        gx_rz σ3 0))))
set_option maxRecDepth 100000 in
set_option maxHeartbeats 4000000 in
theorem tl_T_same {D : va_G} {ob : Nat → Nat} {cA : ClassId} {X : gx_X} (hX : gx_K (tc_V D ob cA) X prog_1_method_12_code "TypeLoom" 9 2 48 (some .boolean)) (σ : gx_S) (L1 : Int32) (L2 : Int64) (L4 : Int32) (L5 : Int64) : gx_G (tc_V D ob cA) X (kt_T_same σ L1 L2 L4 L5) σ 0 [(0, .ref (ob 0)), (1, .int L1), (2, .long L2), (4, .int L4), (5, .long L5)] [] := by
  unfold kt_T_same
  refine gx_aload_n hX 0 1 dw_T_same_0 rfl rfl rfl ?_
  refine tg_0 hX 2 4 (by decide) tw_452 rfl dw_T_same_1 rfl ?_
  refine gx_iload_n hX 1 5 dw_T_same_4 rfl rfl rfl ?_
  refine gx_lload_n hX 2 6 dw_T_same_5 rfl rfl rfl ?_
  refine tr_Web_follow hX 9 tw_738 ⟨Nat.le_of_ble_eq_true rfl, Nat.le_of_ble_eq_true rfl⟩ (Nat.le_of_ble_eq_true rfl) dw_T_same_6 rfl (fun σ1 r2 => ?_)
  refine gx_istore hX [(7, .int r2), (0, .ref (ob 0)), (1, .int L1), (2, .long L2), (4, .int L4), (5, .long L5)] 11 dw_T_same_9 (by decide) rfl rfl ?_
  refine gx_aload_n hX 1 12 dw_T_same_11 rfl rfl rfl ?_
  refine tg_0 hX 2 15 (by decide) tw_452 rfl dw_T_same_12 rfl ?_
  refine gx_iload hX 4 17 dw_T_same_15 rfl rfl ?_
  refine gx_lload hX 5 19 dw_T_same_17 rfl rfl ?_
  refine tr_Web_follow hX 22 tw_738 ⟨Nat.le_of_ble_eq_true rfl, Nat.le_of_ble_eq_true rfl⟩ (Nat.le_of_ble_eq_true rfl) dw_T_same_19 rfl (fun σ3 r4 => ?_)
  refine gx_istore hX [(8, .int r4), (7, .int r2), (0, .ref (ob 0)), (1, .int L1), (2, .long L2), (4, .int L4), (5, .long L5)] 24 dw_T_same_22 (by decide) rfl rfl ?_
  refine gx_iload hX 1 26 dw_T_same_24 rfl rfl ?_
  refine gx_iconst hX (-1) 27 dw_T_same_26 (by decide) rfl ?_
  refine gx_icmp_eq hX 63 30 dw_T_same_27 (by decide) rfl (fun _ => ?_) (fun _ => ?_)
  · refine gx_iconst hX 0 64 dw_T_same_63 (by decide) rfl ?_
    exact gx_retz hX dw_T_same_64
  · refine gx_iload hX 0 32 dw_T_same_30 rfl rfl ?_
    refine gx_iconst hX (-1) 33 dw_T_same_32 (by decide) rfl ?_
    refine gx_icmp_eq hX 63 36 dw_T_same_33 (by decide) rfl (fun _ => ?_) (fun _ => ?_)
    · refine gx_iconst hX 0 64 dw_T_same_63 (by decide) rfl ?_
      exact gx_retz hX dw_T_same_64
    · refine gx_aload_n hX 2 37 dw_T_same_36 rfl rfl rfl ?_
      refine tg_0 hX 2 40 (by decide) tw_452 rfl dw_T_same_37 rfl ?_
      refine tg_3 hX 0 43 (by decide) tw_161 rfl dw_T_same_40 rfl ?_
      refine gx_iload hX 1 45 dw_T_same_43 rfl rfl ?_
      refine tr_at hX 4 48 (by decide) tw_556 ⟨Nat.le_of_ble_eq_true rfl, Nat.le_of_ble_eq_true rfl⟩ (Nat.le_of_ble_eq_true rfl) dw_T_same_45 rfl (fun r5 => ?_)
      refine gx_aload_n hX 2 49 dw_T_same_48 rfl rfl rfl ?_
      refine tg_0 hX 2 52 (by decide) tw_452 rfl dw_T_same_49 rfl ?_
      refine tg_3 hX 0 55 (by decide) tw_161 rfl dw_T_same_52 rfl ?_
      refine gx_iload hX 0 57 dw_T_same_55 rfl rfl ?_
      refine tr_at hX 4 60 (by decide) tw_556 ⟨Nat.le_of_ble_eq_true rfl, Nat.le_of_ble_eq_true rfl⟩ (Nat.le_of_ble_eq_true rfl) dw_T_same_57 rfl (fun r6 => ?_)
      refine gx_icmp_eq hX 65 63 dw_T_same_60 (by decide) rfl (fun _ => ?_) (fun _ => ?_)
      · refine gx_aload_n hX 2 66 dw_T_same_65 rfl rfl rfl ?_
        refine tg_0 hX 4 69 (by decide) tw_454 rfl dw_T_same_66 rfl ?_
        refine gx_iload hX 1 71 dw_T_same_69 rfl rfl ?_
        refine gx_iload hX 0 73 dw_T_same_71 rfl rfl ?_
        exact gx_none
      · refine gx_iconst hX 0 64 dw_T_same_63 (by decide) rfl ?_
        exact gx_retz hX dw_T_same_64
def my_T_same : MethodName := ⟨"TypeLoom", "same", "(IJIJ)Z"⟩
theorem hy_T_same : (my_T_same.cls ≠ "java/lang/invoke/MethodHandle" ∧ my_T_same.cls ≠ "java/lang/invoke/VarHandle") ∧ (parseMethodDescriptor my_T_same.desc).map (fun d => d.parameters.length) = some 4 := by decide +kernel
theorem tm_T_same {D : va_G} {ob : Nat → Nat} {cA : ClassId} (l : Launch) (σ : gx_S) (L1 : Int32) (L2 : Int64) (L4 : Int32) (L5 : Int64) : gx_C l (tc_V D ob cA) my_T_same prog_1_method_12_code 9 (some .boolean) 2 48 [.ref (ob 0), .int L1, .long L2, .int L4, .long L5] σ (kt_T_same σ L1 L2 L4 L5) := gx_met (by decide) rfl (Nat.le_of_ble_eq_true rfl) rfl (fun X _ hX => tl_T_same hX σ L1 L2 L4 L5)
theorem tr_T_same {D : va_G} {ob : Nat → Nat} {cA : ClassId} {X : gx_X} {cc : ByteArray} {own : String} {nL fr lo : Nat} {rt : Option FieldType} {σ : gx_S} {pc : Nat} {lv : List (Nat × Value)} {st : List Value} (hX : gx_K (tc_V D ob cA) X cc own nL fr lo rt) {idx : Nat} {L1 : Int32} {L2 : Int64} {L4 : Int32} {L5 : Int64} {k : gx_S → Int32 → gx_R} (n : Nat) (hlink : Cond.methodLink own idx ({ cls := "TypeLoom", name := "same", desc := "(IJIJ)Z" } : Jvm.MethodName) ∈ gx_T) (hroom : 2 + 1 ≤ fr ∧ 8 + (9 + 11) + 48 ≤ lo) (hst : (st.map fun v => v.category).sum ≤ 8) (hd : decode cc pc = .ok (.invokevirtual idx, 3)) (hn : pc + 3 = n) (kk : ∀ σ' r, gx_G (tc_V D ob cA) X (k σ' r) σ' n lv (.int r :: st)) : gx_G (tc_V D ob cA) X (gx_bd (kt_T_same σ L1 L2 L4 L5) k) σ pc lv (.long L5 :: .int L4 :: .long L2 :: .int L1 :: .ref (ob 0) :: st) :=
  gx_callI hX [.int L1, .long L2, .int L4, .long L5] n rfl (tm_T_same _ σ L1 L2 L4 L5) hy_T_same tw_737 hlink tw_735 tw_736 tw_70 (gf_recv 0 (show 0 < 55 by decide) rfl rfl) hroom hst hd hn rfl (fun σ' r _ => kk σ' r)
def kt_T_look (σ : gx_S) (L1 : Int32) (L2 : Int64) (L4 : Int32) : gx_R :=
  gx_bd (kt_Web_follow σ L1 L2) (fun σ1 r2 =>
  if r2 = (-1) then
    some (σ1, (-1))
  else
    gx_bv (tc_at σ1 4 r2) (fun r3 =>
    if L4 = 0 then
      some (σ1, r3)
    else if L4 = 1 then
      if r3 = 2 then
        gx_bv (tc_at σ1 5 r2) (fun r4 =>
        some (σ1, r4))
      else
        some (σ1, (-1))
    else if L4 = 2 then
      none
    else if L4 = 3 then
      none
    else if L4 = 4 then
      none
    else if L4 = 5 then
      if r3 = 0 then
        gx_bv (tc_at σ1 5 r2) (fun r5 =>
        some (σ1, r5))
      else
        some (σ1, (-1))
    else if L4 = 6 then
      if r3 = 4 then
        none
      else
        some (σ1, (-1))
    else some (σ1, (-1))))
set_option maxRecDepth 100000 in
set_option maxHeartbeats 4000000 in
theorem tl_T_look {D : va_G} {ob : Nat → Nat} {cA : ClassId} {X : gx_X} (hX : gx_K (tc_V D ob cA) X prog_1_method_13_code "TypeLoom" 7 2 48 (some .int)) (σ : gx_S) (L1 : Int32) (L2 : Int64) (L4 : Int32) : gx_G (tc_V D ob cA) X (kt_T_look σ L1 L2 L4) σ 0 [(0, .ref (ob 0)), (1, .int L1), (2, .long L2), (4, .int L4)] [] := by
  unfold kt_T_look
  refine gx_aload_n hX 0 1 dw_T_look_0 rfl rfl rfl ?_
  refine tg_0 hX 2 4 (by decide) tw_452 rfl dw_T_look_1 rfl ?_
  refine gx_iload_n hX 1 5 dw_T_look_4 rfl rfl rfl ?_
  refine gx_lload_n hX 2 6 dw_T_look_5 rfl rfl rfl ?_
  refine tr_Web_follow hX 9 tw_738 ⟨Nat.le_of_ble_eq_true rfl, Nat.le_of_ble_eq_true rfl⟩ (Nat.le_of_ble_eq_true rfl) dw_T_look_6 rfl (fun σ1 r2 => ?_)
  refine gx_istore hX [(5, .int r2), (0, .ref (ob 0)), (1, .int L1), (2, .long L2), (4, .int L4)] 11 dw_T_look_9 (by decide) rfl rfl ?_
  refine gx_iload hX 0 13 dw_T_look_11 rfl rfl ?_
  refine gx_iconst hX (-1) 14 dw_T_look_13 (by decide) rfl ?_
  refine gx_icmp_ne hX 19 17 dw_T_look_14 (by decide) rfl (fun _ => ?_) (fun _ => ?_)
  · refine gx_aload_n hX 1 20 dw_T_look_19 rfl rfl rfl ?_
    refine tg_0 hX 2 23 (by decide) tw_452 rfl dw_T_look_20 rfl ?_
    refine tg_3 hX 0 26 (by decide) tw_161 rfl dw_T_look_23 rfl ?_
    refine gx_iload hX 0 28 dw_T_look_26 rfl rfl ?_
    refine tr_at hX 4 31 (by decide) tw_556 ⟨Nat.le_of_ble_eq_true rfl, Nat.le_of_ble_eq_true rfl⟩ (Nat.le_of_ble_eq_true rfl) dw_T_look_28 rfl (fun r3 => ?_)
    refine gx_istore hX [(6, .int r3), (5, .int r2), (0, .ref (ob 0)), (1, .int L1), (2, .long L2), (4, .int L4)] 33 dw_T_look_31 (by decide) rfl rfl ?_
    refine gx_iload hX 5 35 dw_T_look_33 rfl rfl ?_
    refine gx_tsw7 hX 76 79 102 112 130 137 159 188 dw_T_look_35 (by decide) (by decide) (by decide) (by decide) (by decide) (by decide) (by decide) (by decide) ?_ ?_ ?_ ?_ ?_ ?_ ?_ ?_
    · refine gx_iload hX 0 78 dw_T_look_76 rfl rfl ?_
      exact gx_ret hX dw_T_look_78
    · refine gx_iload hX 0 81 dw_T_look_79 rfl rfl ?_
      refine gx_iconst hX 2 82 dw_T_look_81 (by decide) rfl ?_
      refine gx_icmp_ne hX 100 85 dw_T_look_82 (by decide) rfl (fun _ => ?_) (fun _ => ?_)
      · refine gx_iconst hX (-1) 101 dw_T_look_100 (by decide) rfl ?_
        exact gx_ret hX dw_T_look_101
      · refine gx_aload_n hX 2 86 dw_T_look_85 rfl rfl rfl ?_
        refine tg_0 hX 2 89 (by decide) tw_452 rfl dw_T_look_86 rfl ?_
        refine tg_3 hX 1 92 (by decide) tw_167 rfl dw_T_look_89 rfl ?_
        refine gx_iload hX 1 94 dw_T_look_92 rfl rfl ?_
        refine tr_at hX 5 97 (by decide) tw_556 ⟨Nat.le_of_ble_eq_true rfl, Nat.le_of_ble_eq_true rfl⟩ (Nat.le_of_ble_eq_true rfl) dw_T_look_94 rfl (fun r4 => ?_)
        refine gx_goto hX 101 dw_T_look_97 (by decide) ?_
        exact gx_ret hX dw_T_look_101
    · refine gx_aload_n hX 2 103 dw_T_look_102 rfl rfl rfl ?_
      refine tg_0 hX 2 106 (by decide) tw_452 rfl dw_T_look_103 rfl ?_
      refine gx_iload hX 1 108 dw_T_look_106 rfl rfl ?_
      exact gx_none
    · refine gx_aload_n hX 2 113 dw_T_look_112 rfl rfl rfl ?_
      refine tg_0 hX 3 116 (by decide) tw_453 rfl dw_T_look_113 rfl ?_
      refine gx_iload hX 1 118 dw_T_look_116 rfl rfl ?_
      exact gx_none
    · refine gx_aload_n hX 2 131 dw_T_look_130 rfl rfl rfl ?_
      refine gx_iload hX 1 133 dw_T_look_131 rfl rfl ?_
      exact gx_none
    · refine gx_iload hX 0 139 dw_T_look_137 rfl rfl ?_
      refine gx_if_ne hX 157 142 dw_T_look_139 (by decide) rfl (fun _ => ?_) (fun _ => ?_)
      · refine gx_iconst hX (-1) 158 dw_T_look_157 (by decide) rfl ?_
        exact gx_ret hX dw_T_look_158
      · refine gx_aload_n hX 2 143 dw_T_look_142 rfl rfl rfl ?_
        refine tg_0 hX 2 146 (by decide) tw_452 rfl dw_T_look_143 rfl ?_
        refine tg_3 hX 1 149 (by decide) tw_167 rfl dw_T_look_146 rfl ?_
        refine gx_iload hX 1 151 dw_T_look_149 rfl rfl ?_
        refine tr_at hX 5 154 (by decide) tw_556 ⟨Nat.le_of_ble_eq_true rfl, Nat.le_of_ble_eq_true rfl⟩ (Nat.le_of_ble_eq_true rfl) dw_T_look_151 rfl (fun r5 => ?_)
        refine gx_goto hX 158 dw_T_look_154 (by decide) ?_
        exact gx_ret hX dw_T_look_158
    · refine gx_iload hX 0 161 dw_T_look_159 rfl rfl ?_
      refine gx_iconst hX 4 162 dw_T_look_161 (by decide) rfl ?_
      refine gx_icmp_eq hX 169 165 dw_T_look_162 (by decide) rfl (fun _ => ?_) (fun _ => ?_)
      · refine gx_aload_n hX 2 170 dw_T_look_169 rfl rfl rfl ?_
        refine tg_0 hX 2 173 (by decide) tw_452 rfl dw_T_look_170 rfl ?_
        refine gx_iload hX 1 175 dw_T_look_173 rfl rfl ?_
        exact gx_none
      · refine gx_iconst hX (-1) 166 dw_T_look_165 (by decide) rfl ?_
        refine gx_goto hX 187 dw_T_look_166 (by decide) ?_
        exact gx_ret hX dw_T_look_187
    · refine gx_iconst hX (-1) 189 dw_T_look_188 (by decide) rfl ?_
      exact gx_ret hX dw_T_look_189
  · refine gx_iconst hX (-1) 18 dw_T_look_17 (by decide) rfl ?_
    exact gx_ret hX dw_T_look_18
def my_T_look : MethodName := ⟨"TypeLoom", "look", "(IJI)I"⟩
theorem hy_T_look : (my_T_look.cls ≠ "java/lang/invoke/MethodHandle" ∧ my_T_look.cls ≠ "java/lang/invoke/VarHandle") ∧ (parseMethodDescriptor my_T_look.desc).map (fun d => d.parameters.length) = some 3 := by decide +kernel
theorem tm_T_look {D : va_G} {ob : Nat → Nat} {cA : ClassId} (l : Launch) (σ : gx_S) (L1 : Int32) (L2 : Int64) (L4 : Int32) : gx_C l (tc_V D ob cA) my_T_look prog_1_method_13_code 7 (some .int) 2 48 [.ref (ob 0), .int L1, .long L2, .int L4] σ (kt_T_look σ L1 L2 L4) := gx_met (by decide) rfl (Nat.le_of_ble_eq_true rfl) rfl (fun X _ hX => tl_T_look hX σ L1 L2 L4)
theorem tr_T_look {D : va_G} {ob : Nat → Nat} {cA : ClassId} {X : gx_X} {cc : ByteArray} {own : String} {nL fr lo : Nat} {rt : Option FieldType} {σ : gx_S} {pc : Nat} {lv : List (Nat × Value)} {st : List Value} (hX : gx_K (tc_V D ob cA) X cc own nL fr lo rt) {idx : Nat} {L1 : Int32} {L2 : Int64} {L4 : Int32} {k : gx_S → Int32 → gx_R} (n : Nat) (hlink : Cond.methodLink own idx ({ cls := "TypeLoom", name := "look", desc := "(IJI)I" } : Jvm.MethodName) ∈ gx_T) (hroom : 2 + 1 ≤ fr ∧ 8 + (7 + 11) + 48 ≤ lo) (hst : (st.map fun v => v.category).sum ≤ 8) (hd : decode cc pc = .ok (.invokevirtual idx, 3)) (hn : pc + 3 = n) (kk : ∀ σ' r, gx_G (tc_V D ob cA) X (k σ' r) σ' n lv (.int r :: st)) : gx_G (tc_V D ob cA) X (gx_bd (kt_T_look σ L1 L2 L4) k) σ pc lv (.int L4 :: .long L2 :: .int L1 :: .ref (ob 0) :: st) :=
  gx_callI hX [.int L1, .long L2, .int L4] n rfl (tm_T_look _ σ L1 L2 L4) hy_T_look tw_787 hlink tw_785 tw_786 tw_70 (gf_recv 0 (show 0 < 55 by decide) rfl rfl) hroom hst hd hn rfl (fun σ' r _ => kk σ' r)
def kt_T_label (σ : gx_S) (L1 : Int32) (L2 : Int64) (L4 : Int32) : gx_R :=
  gx_bd (kt_Web_follow σ L1 L2) (fun σ1 r2 =>
  if r2 = (-1) then
    some (σ1, (-1))
  else
    gx_bv (tc_at σ1 4 r2) (fun r3 =>
    if r3 = 4 then
      none
    else
      some (σ1, (-1))))
set_option maxRecDepth 100000 in
set_option maxHeartbeats 4000000 in
theorem tl_T_label {D : va_G} {ob : Nat → Nat} {cA : ClassId} {X : gx_X} (hX : gx_K (tc_V D ob cA) X prog_1_method_15_code "TypeLoom" 7 2 48 (some .int)) (σ : gx_S) (L1 : Int32) (L2 : Int64) (L4 : Int32) : gx_G (tc_V D ob cA) X (kt_T_label σ L1 L2 L4) σ 0 [(0, .ref (ob 0)), (1, .int L1), (2, .long L2), (4, .int L4)] [] := by
  unfold kt_T_label
  refine gx_aload_n hX 0 1 dw_T_label_0 rfl rfl rfl ?_
  refine tg_0 hX 2 4 (by decide) tw_452 rfl dw_T_label_1 rfl ?_
  refine gx_iload_n hX 1 5 dw_T_label_4 rfl rfl rfl ?_
  refine gx_lload_n hX 2 6 dw_T_label_5 rfl rfl rfl ?_
  refine tr_Web_follow hX 9 tw_738 ⟨Nat.le_of_ble_eq_true rfl, Nat.le_of_ble_eq_true rfl⟩ (Nat.le_of_ble_eq_true rfl) dw_T_label_6 rfl (fun σ1 r2 => ?_)
  refine gx_istore hX [(5, .int r2), (0, .ref (ob 0)), (1, .int L1), (2, .long L2), (4, .int L4)] 11 dw_T_label_9 (by decide) rfl rfl ?_
  refine gx_iload hX 0 13 dw_T_label_11 rfl rfl ?_
  refine gx_iconst hX (-1) 14 dw_T_label_13 (by decide) rfl ?_
  refine gx_icmp_eq hX 33 17 dw_T_label_14 (by decide) rfl (fun _ => ?_) (fun _ => ?_)
  · refine gx_iconst hX (-1) 34 dw_T_label_33 (by decide) rfl ?_
    exact gx_ret hX dw_T_label_34
  · refine gx_aload_n hX 1 18 dw_T_label_17 rfl rfl rfl ?_
    refine tg_0 hX 2 21 (by decide) tw_452 rfl dw_T_label_18 rfl ?_
    refine tg_3 hX 0 24 (by decide) tw_161 rfl dw_T_label_21 rfl ?_
    refine gx_iload hX 0 26 dw_T_label_24 rfl rfl ?_
    refine tr_at hX 4 29 (by decide) tw_556 ⟨Nat.le_of_ble_eq_true rfl, Nat.le_of_ble_eq_true rfl⟩ (Nat.le_of_ble_eq_true rfl) dw_T_label_26 rfl (fun r3 => ?_)
    refine gx_iconst hX 4 30 dw_T_label_29 (by decide) rfl ?_
    refine gx_icmp_eq hX 35 33 dw_T_label_30 (by decide) rfl (fun _ => ?_) (fun _ => ?_)
    · refine gx_aload_n hX 1 36 dw_T_label_35 rfl rfl rfl ?_
      refine tg_0 hX 2 39 (by decide) tw_452 rfl dw_T_label_36 rfl ?_
      refine gx_iload hX 0 41 dw_T_label_39 rfl rfl ?_
      refine gx_iload hX 4 43 dw_T_label_41 rfl rfl ?_
      exact gx_none
    · refine gx_iconst hX (-1) 34 dw_T_label_33 (by decide) rfl ?_
      exact gx_ret hX dw_T_label_34
def my_T_label : MethodName := ⟨"TypeLoom", "label", "(IJI)I"⟩
theorem hy_T_label : (my_T_label.cls ≠ "java/lang/invoke/MethodHandle" ∧ my_T_label.cls ≠ "java/lang/invoke/VarHandle") ∧ (parseMethodDescriptor my_T_label.desc).map (fun d => d.parameters.length) = some 3 := by decide +kernel
theorem tm_T_label {D : va_G} {ob : Nat → Nat} {cA : ClassId} (l : Launch) (σ : gx_S) (L1 : Int32) (L2 : Int64) (L4 : Int32) : gx_C l (tc_V D ob cA) my_T_label prog_1_method_15_code 7 (some .int) 2 48 [.ref (ob 0), .int L1, .long L2, .int L4] σ (kt_T_label σ L1 L2 L4) := gx_met (by decide) rfl (Nat.le_of_ble_eq_true rfl) rfl (fun X _ hX => tl_T_label hX σ L1 L2 L4)
theorem tr_T_label {D : va_G} {ob : Nat → Nat} {cA : ClassId} {X : gx_X} {cc : ByteArray} {own : String} {nL fr lo : Nat} {rt : Option FieldType} {σ : gx_S} {pc : Nat} {lv : List (Nat × Value)} {st : List Value} (hX : gx_K (tc_V D ob cA) X cc own nL fr lo rt) {idx : Nat} {L1 : Int32} {L2 : Int64} {L4 : Int32} {k : gx_S → Int32 → gx_R} (n : Nat) (hlink : Cond.methodLink own idx ({ cls := "TypeLoom", name := "label", desc := "(IJI)I" } : Jvm.MethodName) ∈ gx_T) (hroom : 2 + 1 ≤ fr ∧ 8 + (7 + 11) + 48 ≤ lo) (hst : (st.map fun v => v.category).sum ≤ 8) (hd : decode cc pc = .ok (.invokevirtual idx, 3)) (hn : pc + 3 = n) (kk : ∀ σ' r, gx_G (tc_V D ob cA) X (k σ' r) σ' n lv (.int r :: st)) : gx_G (tc_V D ob cA) X (gx_bd (kt_T_label σ L1 L2 L4) k) σ pc lv (.int L4 :: .long L2 :: .int L1 :: .ref (ob 0) :: st) :=
  gx_callI hX [.int L1, .long L2, .int L4] n rfl (tm_T_label _ σ L1 L2 L4) hy_T_label tw_808 hlink tw_806 tw_807 tw_70 (gf_recv 0 (show 0 < 55 by decide) rfl rfl) hroom hst hd hn rfl (fun σ' r _ => kk σ' r)
def kt_T_scheme (σ : gx_S) (L1 : Int32) : gx_R :=
  gx_bd (kt_Web_isType σ L1) (fun σ1 r2 =>
  if r2 = 0 then
    some (σ1, (-1))
  else
    none)
set_option maxRecDepth 100000 in
set_option maxHeartbeats 4000000 in
theorem tl_T_scheme {D : va_G} {ob : Nat → Nat} {cA : ClassId} {X : gx_X} (hX : gx_K (tc_V D ob cA) X prog_1_method_16_code "TypeLoom" 3 1 21 (some .int)) (σ : gx_S) (L1 : Int32) : gx_G (tc_V D ob cA) X (kt_T_scheme σ L1) σ 0 [(0, .ref (ob 0)), (1, .int L1)] [] := by
  unfold kt_T_scheme
  refine gx_aload_n hX 0 1 dw_T_scheme_0 rfl rfl rfl ?_
  refine tg_0 hX 2 4 (by decide) tw_452 rfl dw_T_scheme_1 rfl ?_
  refine gx_iload_n hX 1 5 dw_T_scheme_4 rfl rfl rfl ?_
  refine tr_Web_isType hX 8 tw_511 ⟨Nat.le_of_ble_eq_true rfl, Nat.le_of_ble_eq_true rfl⟩ (Nat.le_of_ble_eq_true rfl) dw_T_scheme_5 rfl (fun σ1 r2 => ?_)
  refine gx_if_ne hX 13 11 dw_T_scheme_8 (by decide) rfl (fun _ => ?_) (fun _ => ?_)
  · refine gx_aload_n hX 0 14 dw_T_scheme_13 rfl rfl rfl ?_
    refine tg_0 hX 2 17 (by decide) tw_452 rfl dw_T_scheme_14 rfl ?_
    refine gx_aload_n hX 0 18 dw_T_scheme_17 rfl rfl rfl ?_
    refine tg_0 hX 2 21 (by decide) tw_452 rfl dw_T_scheme_18 rfl ?_
    refine gx_iload_n hX 1 22 dw_T_scheme_21 rfl rfl rfl ?_
    exact gx_none
  · refine gx_iconst hX (-1) 12 dw_T_scheme_11 (by decide) rfl ?_
    exact gx_ret hX dw_T_scheme_12
def my_T_scheme : MethodName := ⟨"TypeLoom", "scheme", "(I)I"⟩
theorem hy_T_scheme : (my_T_scheme.cls ≠ "java/lang/invoke/MethodHandle" ∧ my_T_scheme.cls ≠ "java/lang/invoke/VarHandle") ∧ (parseMethodDescriptor my_T_scheme.desc).map (fun d => d.parameters.length) = some 1 := by decide +kernel
theorem tm_T_scheme {D : va_G} {ob : Nat → Nat} {cA : ClassId} (l : Launch) (σ : gx_S) (L1 : Int32) : gx_C l (tc_V D ob cA) my_T_scheme prog_1_method_16_code 3 (some .int) 1 21 [.ref (ob 0), .int L1] σ (kt_T_scheme σ L1) := gx_met (by decide) rfl (Nat.le_of_ble_eq_true rfl) rfl (fun X _ hX => tl_T_scheme hX σ L1)
theorem tr_T_scheme {D : va_G} {ob : Nat → Nat} {cA : ClassId} {X : gx_X} {cc : ByteArray} {own : String} {nL fr lo : Nat} {rt : Option FieldType} {σ : gx_S} {pc : Nat} {lv : List (Nat × Value)} {st : List Value} (hX : gx_K (tc_V D ob cA) X cc own nL fr lo rt) {idx : Nat} {L1 : Int32} {k : gx_S → Int32 → gx_R} (n : Nat) (hlink : Cond.methodLink own idx ({ cls := "TypeLoom", name := "scheme", desc := "(I)I" } : Jvm.MethodName) ∈ gx_T) (hroom : 1 + 1 ≤ fr ∧ 8 + (3 + 11) + 21 ≤ lo) (hst : (st.map fun v => v.category).sum ≤ 8) (hd : decode cc pc = .ok (.invokevirtual idx, 3)) (hn : pc + 3 = n) (kk : ∀ σ' r, gx_G (tc_V D ob cA) X (k σ' r) σ' n lv (.int r :: st)) : gx_G (tc_V D ob cA) X (gx_bd (kt_T_scheme σ L1) k) σ pc lv (.int L1 :: .ref (ob 0) :: st) :=
  gx_callI hX [.int L1] n rfl (tm_T_scheme _ σ L1) hy_T_scheme tw_813 hlink tw_811 tw_812 tw_70 (gf_recv 0 (show 0 < 55 by decide) rfl rfl) hroom hst hd hn rfl (fun σ' r _ => kk σ' r)
def kt_T_quantified (σ : gx_S) (L1 : Int32) (L2 : Int32) : gx_R :=
  gx_bd (kt_Schemes_has σ L1) (fun σ1 r2 =>
  if r2 = 0 then
    some (σ1, (-1))
  else
    if L2 = 0 then
      gx_bv (tc_at σ1 42 L1) (fun r3 =>
      some (σ1, r3))
    else if L2 = 1 then
      none
    else if L2 = 2 then
      gx_bv (tc_at σ1 43 L1) (fun r4 =>
      some (σ1, r4))
    else some (σ1, (-1)))
set_option maxRecDepth 100000 in
set_option maxHeartbeats 4000000 in
theorem tl_T_quantified {D : va_G} {ob : Nat → Nat} {cA : ClassId} {X : gx_X} (hX : gx_K (tc_V D ob cA) X prog_1_method_17_code "TypeLoom" 3 1 21 (some .int)) (σ : gx_S) (L1 : Int32) (L2 : Int32) : gx_G (tc_V D ob cA) X (kt_T_quantified σ L1 L2) σ 0 [(0, .ref (ob 0)), (1, .int L1), (2, .int L2)] [] := by
  unfold kt_T_quantified
  refine gx_aload_n hX 0 1 dw_T_quantified_0 rfl rfl rfl ?_
  refine tg_0 hX 6 4 (by decide) tw_456 rfl dw_T_quantified_1 rfl ?_
  refine gx_iload_n hX 1 5 dw_T_quantified_4 rfl rfl rfl ?_
  refine tr_Schemes_has hX 8 tw_841 ⟨Nat.le_of_ble_eq_true rfl, Nat.le_of_ble_eq_true rfl⟩ (Nat.le_of_ble_eq_true rfl) dw_T_quantified_5 rfl (fun σ1 r2 => ?_)
  refine gx_if_ne hX 13 11 dw_T_quantified_8 (by decide) rfl (fun _ => ?_) (fun _ => ?_)
  · refine gx_iload_n hX 2 14 dw_T_quantified_13 rfl rfl rfl ?_
    refine gx_tsw3 hX 40 52 69 81 dw_T_quantified_14 (by decide) (by decide) (by decide) (by decide) ?_ ?_ ?_ ?_
    · refine gx_aload_n hX 0 41 dw_T_quantified_40 rfl rfl rfl ?_
      refine tg_0 hX 6 44 (by decide) tw_456 rfl dw_T_quantified_41 rfl ?_
      refine tg_7 hX 10 47 (by decide) tw_401 rfl dw_T_quantified_44 rfl ?_
      refine gx_iload_n hX 1 48 dw_T_quantified_47 rfl rfl rfl ?_
      refine tr_at hX 42 51 (by decide) tw_556 ⟨Nat.le_of_ble_eq_true rfl, Nat.le_of_ble_eq_true rfl⟩ (Nat.le_of_ble_eq_true rfl) dw_T_quantified_48 rfl (fun r3 => ?_)
      exact gx_ret hX dw_T_quantified_51
    · refine gx_aload_n hX 0 53 dw_T_quantified_52 rfl rfl rfl ?_
      refine tg_0 hX 6 56 (by decide) tw_456 rfl dw_T_quantified_53 rfl ?_
      refine gx_iload_n hX 1 57 dw_T_quantified_56 rfl rfl rfl ?_
      exact gx_none
    · refine gx_aload_n hX 0 70 dw_T_quantified_69 rfl rfl rfl ?_
      refine tg_0 hX 6 73 (by decide) tw_456 rfl dw_T_quantified_70 rfl ?_
      refine tg_7 hX 11 76 (by decide) tw_403 rfl dw_T_quantified_73 rfl ?_
      refine gx_iload_n hX 1 77 dw_T_quantified_76 rfl rfl rfl ?_
      refine tr_at hX 43 80 (by decide) tw_556 ⟨Nat.le_of_ble_eq_true rfl, Nat.le_of_ble_eq_true rfl⟩ (Nat.le_of_ble_eq_true rfl) dw_T_quantified_77 rfl (fun r4 => ?_)
      exact gx_ret hX dw_T_quantified_80
    · refine gx_iconst hX (-1) 82 dw_T_quantified_81 (by decide) rfl ?_
      exact gx_ret hX dw_T_quantified_82
  · refine gx_iconst hX (-1) 12 dw_T_quantified_11 (by decide) rfl ?_
    exact gx_ret hX dw_T_quantified_12
def my_T_quantified : MethodName := ⟨"TypeLoom", "quantified", "(II)I"⟩
theorem hy_T_quantified : (my_T_quantified.cls ≠ "java/lang/invoke/MethodHandle" ∧ my_T_quantified.cls ≠ "java/lang/invoke/VarHandle") ∧ (parseMethodDescriptor my_T_quantified.desc).map (fun d => d.parameters.length) = some 2 := by decide +kernel
theorem tm_T_quantified {D : va_G} {ob : Nat → Nat} {cA : ClassId} (l : Launch) (σ : gx_S) (L1 : Int32) (L2 : Int32) : gx_C l (tc_V D ob cA) my_T_quantified prog_1_method_17_code 3 (some .int) 1 21 [.ref (ob 0), .int L1, .int L2] σ (kt_T_quantified σ L1 L2) := gx_met (by decide) rfl (Nat.le_of_ble_eq_true rfl) rfl (fun X _ hX => tl_T_quantified hX σ L1 L2)
theorem tr_T_quantified {D : va_G} {ob : Nat → Nat} {cA : ClassId} {X : gx_X} {cc : ByteArray} {own : String} {nL fr lo : Nat} {rt : Option FieldType} {σ : gx_S} {pc : Nat} {lv : List (Nat × Value)} {st : List Value} (hX : gx_K (tc_V D ob cA) X cc own nL fr lo rt) {idx : Nat} {L1 : Int32} {L2 : Int32} {k : gx_S → Int32 → gx_R} (n : Nat) (hlink : Cond.methodLink own idx ({ cls := "TypeLoom", name := "quantified", desc := "(II)I" } : Jvm.MethodName) ∈ gx_T) (hroom : 1 + 1 ≤ fr ∧ 8 + (3 + 11) + 21 ≤ lo) (hst : (st.map fun v => v.category).sum ≤ 8) (hd : decode cc pc = .ok (.invokevirtual idx, 3)) (hn : pc + 3 = n) (kk : ∀ σ' r, gx_G (tc_V D ob cA) X (k σ' r) σ' n lv (.int r :: st)) : gx_G (tc_V D ob cA) X (gx_bd (kt_T_quantified σ L1 L2) k) σ pc lv (.int L2 :: .int L1 :: .ref (ob 0) :: st) :=
  gx_callI hX [.int L1, .int L2] n rfl (tm_T_quantified _ σ L1 L2) hy_T_quantified tw_840 hlink tw_838 tw_839 tw_70 (gf_recv 0 (show 0 < 55 by decide) rfl rfl) hroom hst hd hn rfl (fun σ' r _ => kk σ' r)
def kt_T_instance (σ : gx_S) (L1 : Int32) : gx_R :=
  gx_bd (kt_Schemes_has σ L1) (fun σ1 r2 =>
  if r2 = 0 then
    some (σ1, (-1))
  else
    none)
set_option maxRecDepth 100000 in
set_option maxHeartbeats 4000000 in
theorem tl_T_instance {D : va_G} {ob : Nat → Nat} {cA : ClassId} {X : gx_X} (hX : gx_K (tc_V D ob cA) X prog_1_method_18_code "TypeLoom" 2 1 21 (some .int)) (σ : gx_S) (L1 : Int32) : gx_G (tc_V D ob cA) X (kt_T_instance σ L1) σ 0 [(0, .ref (ob 0)), (1, .int L1)] [] := by
  unfold kt_T_instance
  refine gx_aload_n hX 0 1 dw_T_instance_0 rfl rfl rfl ?_
  refine tg_0 hX 6 4 (by decide) tw_456 rfl dw_T_instance_1 rfl ?_
  refine gx_iload_n hX 1 5 dw_T_instance_4 rfl rfl rfl ?_
  refine tr_Schemes_has hX 8 tw_841 ⟨Nat.le_of_ble_eq_true rfl, Nat.le_of_ble_eq_true rfl⟩ (Nat.le_of_ble_eq_true rfl) dw_T_instance_5 rfl (fun σ1 r2 => ?_)
  refine gx_if_eq hX 26 11 dw_T_instance_8 (by decide) rfl (fun _ => ?_) (fun _ => ?_)
  · refine gx_iconst hX (-1) 27 dw_T_instance_26 (by decide) rfl ?_
    exact gx_ret hX dw_T_instance_27
  · refine gx_aload_n hX 0 12 dw_T_instance_11 rfl rfl rfl ?_
    refine tg_0 hX 6 15 (by decide) tw_456 rfl dw_T_instance_12 rfl ?_
    refine gx_iload_n hX 1 16 dw_T_instance_15 rfl rfl rfl ?_
    refine gx_aload_n hX 0 17 dw_T_instance_16 rfl rfl rfl ?_
    refine tg_0 hX 7 20 (by decide) tw_457 rfl dw_T_instance_17 rfl ?_
    exact gx_none
def my_T_instance : MethodName := ⟨"TypeLoom", "instance", "(I)I"⟩
theorem hy_T_instance : (my_T_instance.cls ≠ "java/lang/invoke/MethodHandle" ∧ my_T_instance.cls ≠ "java/lang/invoke/VarHandle") ∧ (parseMethodDescriptor my_T_instance.desc).map (fun d => d.parameters.length) = some 1 := by decide +kernel
theorem tm_T_instance {D : va_G} {ob : Nat → Nat} {cA : ClassId} (l : Launch) (σ : gx_S) (L1 : Int32) : gx_C l (tc_V D ob cA) my_T_instance prog_1_method_18_code 2 (some .int) 1 21 [.ref (ob 0), .int L1] σ (kt_T_instance σ L1) := gx_met (by decide) rfl (Nat.le_of_ble_eq_true rfl) rfl (fun X _ hX => tl_T_instance hX σ L1)
theorem tr_T_instance {D : va_G} {ob : Nat → Nat} {cA : ClassId} {X : gx_X} {cc : ByteArray} {own : String} {nL fr lo : Nat} {rt : Option FieldType} {σ : gx_S} {pc : Nat} {lv : List (Nat × Value)} {st : List Value} (hX : gx_K (tc_V D ob cA) X cc own nL fr lo rt) {idx : Nat} {L1 : Int32} {k : gx_S → Int32 → gx_R} (n : Nat) (hlink : Cond.methodLink own idx ({ cls := "TypeLoom", name := "instance", desc := "(I)I" } : Jvm.MethodName) ∈ gx_T) (hroom : 1 + 1 ≤ fr ∧ 8 + (2 + 11) + 21 ≤ lo) (hst : (st.map fun v => v.category).sum ≤ 8) (hd : decode cc pc = .ok (.invokevirtual idx, 3)) (hn : pc + 3 = n) (kk : ∀ σ' r, gx_G (tc_V D ob cA) X (k σ' r) σ' n lv (.int r :: st)) : gx_G (tc_V D ob cA) X (gx_bd (kt_T_instance σ L1) k) σ pc lv (.int L1 :: .ref (ob 0) :: st) :=
  gx_callI hX [.int L1] n rfl (tm_T_instance _ σ L1) hy_T_instance tw_852 hlink tw_850 tw_851 tw_70 (gf_recv 0 (show 0 < 55 by decide) rfl rfl) hroom hst hd hn rfl (fun σ' r _ => kk σ' r)
def kt_T_alike (σ : gx_S) (L1 : Int32) (L2 : Int32) : gx_R :=
  gx_bd (kt_Schemes_has σ L1) (fun σ1 r2 =>
  if r2 = 0 then
    gx_rz σ1 0
  else
    gx_bd (kt_Schemes_has σ1 L2) (fun σ3 r4 =>
    if r4 = 0 then
      gx_rz σ3 0
    else
      none))
set_option maxRecDepth 100000 in
set_option maxHeartbeats 4000000 in
theorem tl_T_alike {D : va_G} {ob : Nat → Nat} {cA : ClassId} {X : gx_X} (hX : gx_K (tc_V D ob cA) X prog_1_method_19_code "TypeLoom" 3 1 21 (some .boolean)) (σ : gx_S) (L1 : Int32) (L2 : Int32) : gx_G (tc_V D ob cA) X (kt_T_alike σ L1 L2) σ 0 [(0, .ref (ob 0)), (1, .int L1), (2, .int L2)] [] := by
  unfold kt_T_alike
  refine gx_aload_n hX 0 1 dw_T_alike_0 rfl rfl rfl ?_
  refine tg_0 hX 6 4 (by decide) tw_456 rfl dw_T_alike_1 rfl ?_
  refine gx_iload_n hX 1 5 dw_T_alike_4 rfl rfl rfl ?_
  refine tr_Schemes_has hX 8 tw_841 ⟨Nat.le_of_ble_eq_true rfl, Nat.le_of_ble_eq_true rfl⟩ (Nat.le_of_ble_eq_true rfl) dw_T_alike_5 rfl (fun σ1 r2 => ?_)
  refine gx_if_eq hX 60 11 dw_T_alike_8 (by decide) rfl (fun _ => ?_) (fun _ => ?_)
  · refine gx_iconst hX 0 61 dw_T_alike_60 (by decide) rfl ?_
    exact gx_retz hX dw_T_alike_61
  · refine gx_aload_n hX 0 12 dw_T_alike_11 rfl rfl rfl ?_
    refine tg_0 hX 6 15 (by decide) tw_456 rfl dw_T_alike_12 rfl ?_
    refine gx_iload_n hX 2 16 dw_T_alike_15 rfl rfl rfl ?_
    refine tr_Schemes_has hX 19 tw_841 ⟨Nat.le_of_ble_eq_true rfl, Nat.le_of_ble_eq_true rfl⟩ (Nat.le_of_ble_eq_true rfl) dw_T_alike_16 rfl (fun σ3 r4 => ?_)
    refine gx_if_eq hX 60 22 dw_T_alike_19 (by decide) rfl (fun _ => ?_) (fun _ => ?_)
    · refine gx_iconst hX 0 61 dw_T_alike_60 (by decide) rfl ?_
      exact gx_retz hX dw_T_alike_61
    · refine gx_aload_n hX 0 23 dw_T_alike_22 rfl rfl rfl ?_
      refine tg_0 hX 6 26 (by decide) tw_456 rfl dw_T_alike_23 rfl ?_
      refine gx_iload_n hX 1 27 dw_T_alike_26 rfl rfl rfl ?_
      exact gx_none
def my_T_alike : MethodName := ⟨"TypeLoom", "alike", "(II)Z"⟩
theorem hy_T_alike : (my_T_alike.cls ≠ "java/lang/invoke/MethodHandle" ∧ my_T_alike.cls ≠ "java/lang/invoke/VarHandle") ∧ (parseMethodDescriptor my_T_alike.desc).map (fun d => d.parameters.length) = some 2 := by decide +kernel
theorem tm_T_alike {D : va_G} {ob : Nat → Nat} {cA : ClassId} (l : Launch) (σ : gx_S) (L1 : Int32) (L2 : Int32) : gx_C l (tc_V D ob cA) my_T_alike prog_1_method_19_code 3 (some .boolean) 1 21 [.ref (ob 0), .int L1, .int L2] σ (kt_T_alike σ L1 L2) := gx_met (by decide) rfl (Nat.le_of_ble_eq_true rfl) rfl (fun X _ hX => tl_T_alike hX σ L1 L2)
theorem tr_T_alike {D : va_G} {ob : Nat → Nat} {cA : ClassId} {X : gx_X} {cc : ByteArray} {own : String} {nL fr lo : Nat} {rt : Option FieldType} {σ : gx_S} {pc : Nat} {lv : List (Nat × Value)} {st : List Value} (hX : gx_K (tc_V D ob cA) X cc own nL fr lo rt) {idx : Nat} {L1 : Int32} {L2 : Int32} {k : gx_S → Int32 → gx_R} (n : Nat) (hlink : Cond.methodLink own idx ({ cls := "TypeLoom", name := "alike", desc := "(II)Z" } : Jvm.MethodName) ∈ gx_T) (hroom : 1 + 1 ≤ fr ∧ 8 + (3 + 11) + 21 ≤ lo) (hst : (st.map fun v => v.category).sum ≤ 8) (hd : decode cc pc = .ok (.invokevirtual idx, 3)) (hn : pc + 3 = n) (kk : ∀ σ' r, gx_G (tc_V D ob cA) X (k σ' r) σ' n lv (.int r :: st)) : gx_G (tc_V D ob cA) X (gx_bd (kt_T_alike σ L1 L2) k) σ pc lv (.int L2 :: .int L1 :: .ref (ob 0) :: st) :=
  gx_callI hX [.int L1, .int L2] n rfl (tm_T_alike _ σ L1 L2) hy_T_alike tw_868 hlink tw_866 tw_867 tw_70 (gf_recv 0 (show 0 < 55 by decide) rfl rfl) hroom hst hd hn rfl (fun σ' r _ => kk σ' r)
def kt_T_clear (σ : gx_S) (L1 : Int32) (L2 : Int32) : gx_R :=
  if L1 < 0 then
    gx_rz σ 0
  else
    if (σ.1 0) < L1 then
      gx_rz σ 0
    else
      gx_bd (kt_Schemes_canKeep σ L2 L1) (fun σ1 r2 =>
      if r2 = 0 then
        gx_rz σ1 0
      else
        gx_sb (gx_si σ1 0 L1) (fun σ3 =>
        gx_bd (kt_Schemes_cutTo σ3 L2) (fun σ4 _ =>
        gx_bd (kt_Web_drop σ4) (fun σ6 _ =>
        gx_bd (kt_Pushed_drop σ6) (fun σ8 _ =>
        gx_sb (gx_si σ8 20 0) (fun σ10 =>
        gx_rz σ10 1))))))
set_option maxRecDepth 100000 in
set_option maxHeartbeats 4000000 in
theorem tl_T_clear {D : va_G} {ob : Nat → Nat} {cA : ClassId} {X : gx_X} (hX : gx_K (tc_V D ob cA) X prog_1_method_20_code "TypeLoom" 3 2 44 (some .boolean)) (σ : gx_S) (L1 : Int32) (L2 : Int32) : gx_G (tc_V D ob cA) X (kt_T_clear σ L1 L2) σ 0 [(0, .ref (ob 0)), (1, .int L1), (2, .int L2)] [] := by
  unfold kt_T_clear
  refine gx_iload_n hX 1 1 dw_T_clear_0 rfl rfl rfl ?_
  refine gx_if_lt hX 27 4 dw_T_clear_1 (by decide) rfl (fun _ => ?_) (fun _ => ?_)
  · refine gx_iconst hX 0 28 dw_T_clear_27 (by decide) rfl ?_
    exact gx_retz hX dw_T_clear_28
  · refine gx_iload_n hX 1 5 dw_T_clear_4 rfl rfl rfl ?_
    refine gx_aload_n hX 0 6 dw_T_clear_5 rfl rfl rfl ?_
    refine tg_0 hX 0 9 (by decide) tw_450 rfl dw_T_clear_6 rfl ?_
    refine tg_1 hX 2 12 (by decide) tw_114 rfl dw_T_clear_9 rfl ?_
    refine gx_icmp_gt hX 27 15 dw_T_clear_12 (by decide) rfl (fun _ => ?_) (fun _ => ?_)
    · refine gx_iconst hX 0 28 dw_T_clear_27 (by decide) rfl ?_
      exact gx_retz hX dw_T_clear_28
    · refine gx_aload_n hX 0 16 dw_T_clear_15 rfl rfl rfl ?_
      refine tg_0 hX 6 19 (by decide) tw_456 rfl dw_T_clear_16 rfl ?_
      refine gx_iload_n hX 2 20 dw_T_clear_19 rfl rfl rfl ?_
      refine gx_iload_n hX 1 21 dw_T_clear_20 rfl rfl rfl ?_
      refine tr_Schemes_canKeep hX 24 tw_881 ⟨Nat.le_of_ble_eq_true rfl, Nat.le_of_ble_eq_true rfl⟩ (Nat.le_of_ble_eq_true rfl) dw_T_clear_21 rfl (fun σ1 r2 => ?_)
      refine gx_if_ne hX 29 27 dw_T_clear_24 (by decide) rfl (fun _ => ?_) (fun _ => ?_)
      · refine gx_aload_n hX 0 30 dw_T_clear_29 rfl rfl rfl ?_
        refine tg_0 hX 0 33 (by decide) tw_450 rfl dw_T_clear_30 rfl ?_
        refine gx_iload_n hX 1 34 dw_T_clear_33 rfl rfl rfl ?_
        refine tp_0 hX 37 tw_114 dw_T_clear_34 rfl (fun σ3 => ?_)
        refine gx_aload_n hX 0 38 dw_T_clear_37 rfl rfl rfl ?_
        refine tg_0 hX 6 41 (by decide) tw_456 rfl dw_T_clear_38 rfl ?_
        refine gx_iload_n hX 2 42 dw_T_clear_41 rfl rfl rfl ?_
        refine tr_Schemes_cutTo hX 45 tw_886 ⟨Nat.le_of_ble_eq_true rfl, Nat.le_of_ble_eq_true rfl⟩ (Nat.le_of_ble_eq_true rfl) dw_T_clear_42 rfl (fun σ4 _ => ?_)
        refine gx_aload_n hX 0 46 dw_T_clear_45 rfl rfl rfl ?_
        refine tg_0 hX 2 49 (by decide) tw_452 rfl dw_T_clear_46 rfl ?_
        refine tr_Web_drop hX 52 tw_890 ⟨Nat.le_of_ble_eq_true rfl, Nat.le_of_ble_eq_true rfl⟩ (Nat.le_of_ble_eq_true rfl) dw_T_clear_49 rfl (fun σ6 _ => ?_)
        refine gx_aload_n hX 0 53 dw_T_clear_52 rfl rfl rfl ?_
        refine tg_0 hX 1 56 (by decide) tw_451 rfl dw_T_clear_53 rfl ?_
        refine tr_Pushed_drop hX 59 tw_561 ⟨Nat.le_of_ble_eq_true rfl, Nat.le_of_ble_eq_true rfl⟩ (Nat.le_of_ble_eq_true rfl) dw_T_clear_56 rfl (fun σ8 _ => ?_)
        refine gx_aload_n hX 0 60 dw_T_clear_59 rfl rfl rfl ?_
        refine gx_iconst hX 0 61 dw_T_clear_60 (by decide) rfl ?_
        refine tp_20 hX 64 tw_457 dw_T_clear_61 rfl (fun σ10 => ?_)
        refine gx_iconst hX 1 65 dw_T_clear_64 (by decide) rfl ?_
        exact gx_retz hX dw_T_clear_65
      · refine gx_iconst hX 0 28 dw_T_clear_27 (by decide) rfl ?_
        exact gx_retz hX dw_T_clear_28
def my_T_clear : MethodName := ⟨"TypeLoom", "clear", "(II)Z"⟩
theorem hy_T_clear : (my_T_clear.cls ≠ "java/lang/invoke/MethodHandle" ∧ my_T_clear.cls ≠ "java/lang/invoke/VarHandle") ∧ (parseMethodDescriptor my_T_clear.desc).map (fun d => d.parameters.length) = some 2 := by decide +kernel
theorem tm_T_clear {D : va_G} {ob : Nat → Nat} {cA : ClassId} (l : Launch) (σ : gx_S) (L1 : Int32) (L2 : Int32) : gx_C l (tc_V D ob cA) my_T_clear prog_1_method_20_code 3 (some .boolean) 2 44 [.ref (ob 0), .int L1, .int L2] σ (kt_T_clear σ L1 L2) := gx_met (by decide) rfl (Nat.le_of_ble_eq_true rfl) rfl (fun X _ hX => tl_T_clear hX σ L1 L2)
theorem tr_T_clear {D : va_G} {ob : Nat → Nat} {cA : ClassId} {X : gx_X} {cc : ByteArray} {own : String} {nL fr lo : Nat} {rt : Option FieldType} {σ : gx_S} {pc : Nat} {lv : List (Nat × Value)} {st : List Value} (hX : gx_K (tc_V D ob cA) X cc own nL fr lo rt) {idx : Nat} {L1 : Int32} {L2 : Int32} {k : gx_S → Int32 → gx_R} (n : Nat) (hlink : Cond.methodLink own idx ({ cls := "TypeLoom", name := "clear", desc := "(II)Z" } : Jvm.MethodName) ∈ gx_T) (hroom : 2 + 1 ≤ fr ∧ 8 + (3 + 11) + 44 ≤ lo) (hst : (st.map fun v => v.category).sum ≤ 8) (hd : decode cc pc = .ok (.invokevirtual idx, 3)) (hn : pc + 3 = n) (kk : ∀ σ' r, gx_G (tc_V D ob cA) X (k σ' r) σ' n lv (.int r :: st)) : gx_G (tc_V D ob cA) X (gx_bd (kt_T_clear σ L1 L2) k) σ pc lv (.int L2 :: .int L1 :: .ref (ob 0) :: st) :=
  gx_callI hX [.int L1, .int L2] n rfl (tm_T_clear _ σ L1 L2) hy_T_clear tw_880 hlink tw_878 tw_879 tw_70 (gf_recv 0 (show 0 < 55 by decide) rfl rfl) hroom hst hd hn rfl (fun σ' r _ => kk σ' r)
def kt_T_count (σ : gx_S) (L1 : Int32) : gx_R :=
  if L1 = 0 then
    some (σ, (σ.1 0))
  else if L1 = 1 then
    some (σ, (σ.1 5))
  else if L1 = 2 then
    some (σ, (σ.1 1))
  else if L1 = 3 then
    some (σ, (σ.1 17))
  else if L1 = 4 then
    some (σ, (σ.1 6))
  else if L1 = 5 then
    some (σ, (σ.1 18))
  else if L1 = 6 then
    some (σ, (σ.1 19))
  else if L1 = 7 then
    some (σ, (σ.1 7))
  else if L1 = 8 then
    some (σ, (σ.1 20))
  else some (σ, (-1))
set_option maxRecDepth 100000 in
set_option maxHeartbeats 4000000 in
theorem tl_T_count {D : va_G} {ob : Nat → Nat} {cA : ClassId} {X : gx_X} (hX : gx_K (tc_V D ob cA) X prog_1_method_21_code "TypeLoom" 2 0 0 (some .int)) (σ : gx_S) (L1 : Int32) : gx_G (tc_V D ob cA) X (kt_T_count σ L1) σ 0 [(0, .ref (ob 0)), (1, .int L1)] [] := by
  unfold kt_T_count
  refine gx_iload_n hX 1 1 dw_T_count_0 rfl rfl rfl ?_
  refine gx_tsw9 hX 52 60 68 76 84 92 100 108 116 121 dw_T_count_1 (by decide) (by decide) (by decide) (by decide) (by decide) (by decide) (by decide) (by decide) (by decide) (by decide) ?_ ?_ ?_ ?_ ?_ ?_ ?_ ?_ ?_ ?_
  · refine gx_aload_n hX 0 53 dw_T_count_52 rfl rfl rfl ?_
    refine tg_0 hX 0 56 (by decide) tw_450 rfl dw_T_count_53 rfl ?_
    refine tg_1 hX 2 59 (by decide) tw_114 rfl dw_T_count_56 rfl ?_
    exact gx_ret hX dw_T_count_59
  · refine gx_aload_n hX 0 61 dw_T_count_60 rfl rfl rfl ?_
    refine tg_0 hX 2 64 (by decide) tw_452 rfl dw_T_count_61 rfl ?_
    refine tg_3 hX 14 67 (by decide) tw_204 rfl dw_T_count_64 rfl ?_
    exact gx_ret hX dw_T_count_67
  · refine gx_aload_n hX 0 69 dw_T_count_68 rfl rfl rfl ?_
    refine tg_0 hX 1 72 (by decide) tw_451 rfl dw_T_count_69 rfl ?_
    refine tg_2 hX 2 75 (by decide) tw_135 rfl dw_T_count_72 rfl ?_
    exact gx_ret hX dw_T_count_75
  · refine gx_aload_n hX 0 77 dw_T_count_76 rfl rfl rfl ?_
    refine tg_0 hX 6 80 (by decide) tw_456 rfl dw_T_count_77 rfl ?_
    refine tg_7 hX 15 83 (by decide) tw_408 rfl dw_T_count_80 rfl ?_
    exact gx_ret hX dw_T_count_83
  · refine gx_aload_n hX 0 85 dw_T_count_84 rfl rfl rfl ?_
    refine tg_0 hX 2 88 (by decide) tw_452 rfl dw_T_count_85 rfl ?_
    refine tg_3 hX 15 91 (by decide) tw_206 rfl dw_T_count_88 rfl ?_
    exact gx_ret hX dw_T_count_91
  · refine gx_aload_n hX 0 93 dw_T_count_92 rfl rfl rfl ?_
    refine tg_0 hX 6 96 (by decide) tw_456 rfl dw_T_count_93 rfl ?_
    refine tg_7 hX 16 99 (by decide) tw_410 rfl dw_T_count_96 rfl ?_
    exact gx_ret hX dw_T_count_99
  · refine gx_aload_n hX 0 101 dw_T_count_100 rfl rfl rfl ?_
    refine tg_0 hX 6 104 (by decide) tw_456 rfl dw_T_count_101 rfl ?_
    refine tg_7 hX 17 107 (by decide) tw_412 rfl dw_T_count_104 rfl ?_
    exact gx_ret hX dw_T_count_107
  · refine gx_aload_n hX 0 109 dw_T_count_108 rfl rfl rfl ?_
    refine tg_0 hX 2 112 (by decide) tw_452 rfl dw_T_count_109 rfl ?_
    refine tg_3 hX 16 115 (by decide) tw_208 rfl dw_T_count_112 rfl ?_
    exact gx_ret hX dw_T_count_115
  · refine gx_aload_n hX 0 117 dw_T_count_116 rfl rfl rfl ?_
    refine tg_0 hX 7 120 (by decide) tw_457 rfl dw_T_count_117 rfl ?_
    exact gx_ret hX dw_T_count_120
  · refine gx_iconst hX (-1) 122 dw_T_count_121 (by decide) rfl ?_
    exact gx_ret hX dw_T_count_122
def my_T_count : MethodName := ⟨"TypeLoom", "count", "(I)I"⟩
theorem hy_T_count : (my_T_count.cls ≠ "java/lang/invoke/MethodHandle" ∧ my_T_count.cls ≠ "java/lang/invoke/VarHandle") ∧ (parseMethodDescriptor my_T_count.desc).map (fun d => d.parameters.length) = some 1 := by decide +kernel
theorem tm_T_count {D : va_G} {ob : Nat → Nat} {cA : ClassId} (l : Launch) (σ : gx_S) (L1 : Int32) : gx_C l (tc_V D ob cA) my_T_count prog_1_method_21_code 2 (some .int) 0 0 [.ref (ob 0), .int L1] σ (kt_T_count σ L1) := gx_met (by decide) rfl (Nat.le_of_ble_eq_true rfl) rfl (fun X _ hX => tl_T_count hX σ L1)
theorem tr_T_count {D : va_G} {ob : Nat → Nat} {cA : ClassId} {X : gx_X} {cc : ByteArray} {own : String} {nL fr lo : Nat} {rt : Option FieldType} {σ : gx_S} {pc : Nat} {lv : List (Nat × Value)} {st : List Value} (hX : gx_K (tc_V D ob cA) X cc own nL fr lo rt) {idx : Nat} {L1 : Int32} {k : gx_S → Int32 → gx_R} (n : Nat) (hlink : Cond.methodLink own idx ({ cls := "TypeLoom", name := "count", desc := "(I)I" } : Jvm.MethodName) ∈ gx_T) (hroom : 0 + 1 ≤ fr ∧ 8 + (2 + 11) + 0 ≤ lo) (hst : (st.map fun v => v.category).sum ≤ 8) (hd : decode cc pc = .ok (.invokevirtual idx, 3)) (hn : pc + 3 = n) (kk : ∀ σ' r, gx_G (tc_V D ob cA) X (k σ' r) σ' n lv (.int r :: st)) : gx_G (tc_V D ob cA) X (gx_bd (kt_T_count σ L1) k) σ pc lv (.int L1 :: .ref (ob 0) :: st) :=
  gx_callI hX [.int L1] n rfl (tm_T_count _ σ L1) hy_T_count tw_897 hlink tw_895 tw_896 tw_70 (gf_recv 0 (show 0 < 55 by decide) rfl rfl) hroom hst hd hn rfl (fun σ' r _ => kk σ' r)
end
section
theorem tw_28 : (Jvm.Cond.selects "TypeLoomModel" ({ cls := "TypeLoomModel", name := "isType", desc := "(I)Z" } : Jvm.MethodName) ({ cls := "TypeLoomModel", name := "isType", desc := "(I)Z" } : Jvm.MethodName)) ∈ gx_T := gx_mem (i := 28) (by decide +kernel) (by decide +kernel)
theorem tw_29 : (Jvm.Cond.selects "TypeLoomModel" ({ cls := "TypeLoomModel", name := "areAll", desc := "(Z)Z" } : Jvm.MethodName) ({ cls := "TypeLoomModel", name := "areAll", desc := "(Z)Z" } : Jvm.MethodName)) ∈ gx_T := gx_mem (i := 29) (by decide +kernel) (by decide +kernel)
theorem tw_30 : (Jvm.Cond.selects "TypeLoomModel" ({ cls := "TypeLoomModel", name := "make", desc := "(II)I" } : Jvm.MethodName) ({ cls := "TypeLoomModel", name := "make", desc := "(II)I" } : Jvm.MethodName)) ∈ gx_T := gx_mem (i := 30) (by decide +kernel) (by decide +kernel)
theorem tw_31 : (Jvm.Cond.selects "TypeLoomModel" ({ cls := "TypeLoomModel", name := "addPart", desc := "(III)V" } : Jvm.MethodName) ({ cls := "TypeLoomModel", name := "addPart", desc := "(III)V" } : Jvm.MethodName)) ∈ gx_T := gx_mem (i := 31) (by decide +kernel) (by decide +kernel)
theorem tw_32 : (Jvm.Cond.selects "TypeLoomModel" ({ cls := "TypeLoomModel", name := "makeRow", desc := "(IZ)I" } : Jvm.MethodName) ({ cls := "TypeLoomModel", name := "makeRow", desc := "(IZ)I" } : Jvm.MethodName)) ∈ gx_T := gx_mem (i := 32) (by decide +kernel) (by decide +kernel)
theorem tw_33 : (Jvm.Cond.selects "TypeLoomModel" ({ cls := "TypeLoomModel", name := "equalOnes", desc := "(I)I" } : Jvm.MethodName) ({ cls := "TypeLoomModel", name := "equalOnes", desc := "(I)I" } : Jvm.MethodName)) ∈ gx_T := gx_mem (i := 33) (by decide +kernel) (by decide +kernel)
theorem tw_57 : (Jvm.Cond.selects "TypeLoomModel" ({ cls := "TypeLoomModel", name := "follow", desc := "(IJ)I" } : Jvm.MethodName) ({ cls := "TypeLoomModel", name := "follow", desc := "(IJ)I" } : Jvm.MethodName)) ∈ gx_T := gx_mem (i := 57) (by decide +kernel) (by decide +kernel)
theorem tw_67 : (Jvm.Cond.selects "TypeLoomModel" ({ cls := "TypeLoomModel", name := "isScheme", desc := "(I)Z" } : Jvm.MethodName) ({ cls := "TypeLoomModel", name := "isScheme", desc := "(I)Z" } : Jvm.MethodName)) ∈ gx_T := gx_mem (i := 67) (by decide +kernel) (by decide +kernel)
theorem tw_79 : (Jvm.Cond.initialized "TypeLoomModel") ∈ gx_T := gx_mem (i := 79) (by decide +kernel) (by decide +kernel)
theorem tw_904 : (Jvm.Cond.constant "TypeLoomModel" (46 : Nat) (65536 : Int32)) ∈ gx_T := gx_mem (i := 904) (by decide +kernel) (by decide +kernel)
theorem tw_908 : (Jvm.Cond.fieldLink "TypeLoomModel" (173 : Nat) "TypeLoomModel" "constructors" "I") ∈ gx_T := gx_mem (i := 908) (by decide +kernel) (by decide +kernel)
theorem tw_909 : (Jvm.Cond.fieldLink "TypeLoomModel" (7 : Nat) "TypeLoomModel" "arity" "[B") ∈ gx_T := gx_mem (i := 909) (by decide +kernel) (by decide +kernel)
theorem tw_910 : (Jvm.Cond.fieldLink "TypeLoomModel" (13 : Nat) "TypeLoomModel" "equality" "[B") ∈ gx_T := gx_mem (i := 910) (by decide +kernel) (by decide +kernel)
theorem tw_911 : (Jvm.Cond.fieldLink "TypeLoomModel" (177 : Nat) "TypeLoomModel" "types" "I") ∈ gx_T := gx_mem (i := 911) (by decide +kernel) (by decide +kernel)
theorem tw_912 : (Jvm.Cond.fieldLink "TypeLoomModel" (16 : Nat) "TypeLoomModel" "kind" "[B") ∈ gx_T := gx_mem (i := 912) (by decide +kernel) (by decide +kernel)
theorem tw_913 : (Jvm.Cond.fieldLink "TypeLoomModel" (19 : Nat) "TypeLoomModel" "con" "[I") ∈ gx_T := gx_mem (i := 913) (by decide +kernel) (by decide +kernel)
theorem tw_914 : (Jvm.Cond.fieldLink "TypeLoomModel" (23 : Nat) "TypeLoomModel" "first" "[I") ∈ gx_T := gx_mem (i := 914) (by decide +kernel) (by decide +kernel)
theorem tw_915 : (Jvm.Cond.fieldLink "TypeLoomModel" (26 : Nat) "TypeLoomModel" "many" "[S") ∈ gx_T := gx_mem (i := 915) (by decide +kernel) (by decide +kernel)
theorem tw_916 : (Jvm.Cond.fieldLink "TypeLoomModel" (30 : Nat) "TypeLoomModel" "rowOf" "[I") ∈ gx_T := gx_mem (i := 916) (by decide +kernel) (by decide +kernel)
theorem tw_917 : (Jvm.Cond.fieldLink "TypeLoomModel" (33 : Nat) "TypeLoomModel" "level" "[B") ∈ gx_T := gx_mem (i := 917) (by decide +kernel) (by decide +kernel)
theorem tw_918 : (Jvm.Cond.fieldLink "TypeLoomModel" (36 : Nat) "TypeLoomModel" "wish" "[Z") ∈ gx_T := gx_mem (i := 918) (by decide +kernel) (by decide +kernel)
theorem tw_919 : (Jvm.Cond.fieldLink "TypeLoomModel" (40 : Nat) "TypeLoomModel" "sets" "[I") ∈ gx_T := gx_mem (i := 919) (by decide +kernel) (by decide +kernel)
theorem tw_920 : (Jvm.Cond.fieldLink "TypeLoomModel" (43 : Nat) "TypeLoomModel" "link" "[I") ∈ gx_T := gx_mem (i := 920) (by decide +kernel) (by decide +kernel)
theorem tw_921 : (Jvm.Cond.fieldLink "TypeLoomModel" (180 : Nat) "TypeLoomModel" "parts" "I") ∈ gx_T := gx_mem (i := 921) (by decide +kernel) (by decide +kernel)
theorem tw_922 : (Jvm.Cond.fieldLink "TypeLoomModel" (47 : Nat) "TypeLoomModel" "part" "[S") ∈ gx_T := gx_mem (i := 922) (by decide +kernel) (by decide +kernel)
theorem tw_923 : (Jvm.Cond.fieldLink "TypeLoomModel" (50 : Nat) "TypeLoomModel" "labels" "[S") ∈ gx_T := gx_mem (i := 923) (by decide +kernel) (by decide +kernel)
theorem tw_924 : (Jvm.Cond.fieldLink "TypeLoomModel" (209 : Nat) "TypeLoomModel" "rows" "I") ∈ gx_T := gx_mem (i := 924) (by decide +kernel) (by decide +kernel)
theorem tw_925 : (Jvm.Cond.fieldLink "TypeLoomModel" (206 : Nat) "TypeLoomModel" "allRows" "I") ∈ gx_T := gx_mem (i := 925) (by decide +kernel) (by decide +kernel)
theorem tw_926 : (Jvm.Cond.fieldLink "TypeLoomModel" (53 : Nat) "TypeLoomModel" "rowLevel" "[B") ∈ gx_T := gx_mem (i := 926) (by decide +kernel) (by decide +kernel)
theorem tw_927 : (Jvm.Cond.fieldLink "TypeLoomModel" (56 : Nat) "TypeLoomModel" "rowWish" "[Z") ∈ gx_T := gx_mem (i := 927) (by decide +kernel) (by decide +kernel)
theorem tw_929 : (Jvm.Cond.fieldLink "TypeLoomModel" (62 : Nat) "TypeLoomModel" "rowMany" "[I") ∈ gx_T := gx_mem (i := 929) (by decide +kernel) (by decide +kernel)
theorem tw_930 : (Jvm.Cond.fieldLink "TypeLoomModel" (65 : Nat) "TypeLoomModel" "rowNext" "[I") ∈ gx_T := gx_mem (i := 930) (by decide +kernel) (by decide +kernel)
theorem tw_931 : (Jvm.Cond.fieldLink "TypeLoomModel" (254 : Nat) "TypeLoomModel" "rowParts" "I") ∈ gx_T := gx_mem (i := 931) (by decide +kernel) (by decide +kernel)
theorem tw_934 : (Jvm.Cond.fieldLink "TypeLoomModel" (191 : Nat) "TypeLoomModel" "pushed" "I") ∈ gx_T := gx_mem (i := 934) (by decide +kernel) (by decide +kernel)
theorem tw_935 : (Jvm.Cond.fieldLink "TypeLoomModel" (75 : Nat) "TypeLoomModel" "pushedLabel" "[I") ∈ gx_T := gx_mem (i := 935) (by decide +kernel) (by decide +kernel)
theorem tw_936 : (Jvm.Cond.fieldLink "TypeLoomModel" (78 : Nat) "TypeLoomModel" "pushedType" "[I") ∈ gx_T := gx_mem (i := 936) (by decide +kernel) (by decide +kernel)
theorem tw_937 : (Jvm.Cond.fieldLink "TypeLoomModel" (183 : Nat) "TypeLoomModel" "present" "I") ∈ gx_T := gx_mem (i := 937) (by decide +kernel) (by decide +kernel)
theorem tw_938 : (Jvm.Cond.fieldLink "TypeLoomModel" (364 : Nat) "TypeLoomModel" "schemes" "I") ∈ gx_T := gx_mem (i := 938) (by decide +kernel) (by decide +kernel)
theorem tw_939 : (Jvm.Cond.fieldLink "TypeLoomModel" (81 : Nat) "TypeLoomModel" "schemeFirst" "[I") ∈ gx_T := gx_mem (i := 939) (by decide +kernel) (by decide +kernel)
theorem tw_940 : (Jvm.Cond.fieldLink "TypeLoomModel" (84 : Nat) "TypeLoomModel" "schemeMany" "[I") ∈ gx_T := gx_mem (i := 940) (by decide +kernel) (by decide +kernel)
theorem tw_941 : (Jvm.Cond.fieldLink "TypeLoomModel" (87 : Nat) "TypeLoomModel" "schemeEqual" "[I") ∈ gx_T := gx_mem (i := 941) (by decide +kernel) (by decide +kernel)
theorem tw_942 : (Jvm.Cond.fieldLink "TypeLoomModel" (90 : Nat) "TypeLoomModel" "schemeClosed" "[Z") ∈ gx_T := gx_mem (i := 942) (by decide +kernel) (by decide +kernel)
theorem tw_943 : (Jvm.Cond.fieldLink "TypeLoomModel" (338 : Nat) "TypeLoomModel" "schemeTypes" "I") ∈ gx_T := gx_mem (i := 943) (by decide +kernel) (by decide +kernel)
theorem tw_944 : (Jvm.Cond.fieldLink "TypeLoomModel" (93 : Nat) "TypeLoomModel" "sKind" "[B") ∈ gx_T := gx_mem (i := 944) (by decide +kernel) (by decide +kernel)
theorem tw_945 : (Jvm.Cond.fieldLink "TypeLoomModel" (96 : Nat) "TypeLoomModel" "sWhat" "[I") ∈ gx_T := gx_mem (i := 945) (by decide +kernel) (by decide +kernel)
theorem tw_946 : (Jvm.Cond.fieldLink "TypeLoomModel" (99 : Nat) "TypeLoomModel" "sFirst" "[I") ∈ gx_T := gx_mem (i := 946) (by decide +kernel) (by decide +kernel)
theorem tw_948 : (Jvm.Cond.fieldLink "TypeLoomModel" (344 : Nat) "TypeLoomModel" "schemeParts" "I") ∈ gx_T := gx_mem (i := 948) (by decide +kernel) (by decide +kernel)
theorem tw_949 : (Jvm.Cond.fieldLink "TypeLoomModel" (106 : Nat) "TypeLoomModel" "sPart" "[S") ∈ gx_T := gx_mem (i := 949) (by decide +kernel) (by decide +kernel)
theorem tw_950 : (Jvm.Cond.fieldLink "TypeLoomModel" (109 : Nat) "TypeLoomModel" "sLabel" "[S") ∈ gx_T := gx_mem (i := 950) (by decide +kernel) (by decide +kernel)
theorem tw_975 : (Jvm.Cond.fieldLink "TypeLoomModel" (167 : Nat) "TypeLoomModel" "number" "[I") ∈ gx_T := gx_mem (i := 975) (by decide +kernel) (by decide +kernel)
theorem tw_980 : (Jvm.Cond.fieldLink "TypeLoomModel" (170 : Nat) "TypeLoomModel" "sWish" "[Z") ∈ gx_T := gx_mem (i := 980) (by decide +kernel) (by decide +kernel)
theorem tw_1132 : (Jvm.Cond.instanceMethod ({ cls := "TypeLoomModel", name := "constructor", desc := "(II)I" } : Jvm.MethodName)) ∈ gx_T := gx_mem (i := 1132) (by decide +kernel) (by decide +kernel)
theorem tw_1133 : (Jvm.Cond.selects "TypeLoomModel" ({ cls := "TypeLoomModel", name := "constructor", desc := "(II)I" } : Jvm.MethodName) ({ cls := "TypeLoomModel", name := "constructor", desc := "(II)I" } : Jvm.MethodName)) ∈ gx_T := gx_mem (i := 1133) (by decide +kernel) (by decide +kernel)
theorem tw_1134 : (Jvm.Cond.code ({ cls := "TypeLoomModel", name := "constructor", desc := "(II)I" } : Jvm.MethodName) prog_11_method_2_code (3 : Nat) (Option.some Jvm.ClassFile.FieldType.int)) ∈ gx_T := gx_mem (i := 1134) (by decide +kernel) (by decide +kernel)
theorem tw_1136 : (Jvm.Cond.instanceMethod ({ cls := "TypeLoomModel", name := "push", desc := "(II)I" } : Jvm.MethodName)) ∈ gx_T := gx_mem (i := 1136) (by decide +kernel) (by decide +kernel)
theorem tw_1137 : (Jvm.Cond.selects "TypeLoomModel" ({ cls := "TypeLoomModel", name := "push", desc := "(II)I" } : Jvm.MethodName) ({ cls := "TypeLoomModel", name := "push", desc := "(II)I" } : Jvm.MethodName)) ∈ gx_T := gx_mem (i := 1137) (by decide +kernel) (by decide +kernel)
theorem tw_1138 : (Jvm.Cond.code ({ cls := "TypeLoomModel", name := "push", desc := "(II)I" } : Jvm.MethodName) prog_11_method_6_code (5 : Nat) (Option.some Jvm.ClassFile.FieldType.int)) ∈ gx_T := gx_mem (i := 1138) (by decide +kernel) (by decide +kernel)
theorem tw_1139 : (Jvm.Cond.constant "TypeLoomModel" (186 : Nat) (32768 : Int32)) ∈ gx_T := gx_mem (i := 1139) (by decide +kernel) (by decide +kernel)
theorem tw_1140 : (Jvm.Cond.methodLink "TypeLoomModel" (187 : Nat) ({ cls := "TypeLoomModel", name := "isType", desc := "(I)Z" } : Jvm.MethodName)) ∈ gx_T := gx_mem (i := 1140) (by decide +kernel) (by decide +kernel)
theorem tw_1142 : (Jvm.Cond.instanceMethod ({ cls := "TypeLoomModel", name := "isType", desc := "(I)Z" } : Jvm.MethodName)) ∈ gx_T := gx_mem (i := 1142) (by decide +kernel) (by decide +kernel)
theorem tw_1143 : (Jvm.Cond.code ({ cls := "TypeLoomModel", name := "isType", desc := "(I)Z" } : Jvm.MethodName) prog_11_method_3_code (2 : Nat) (Option.some Jvm.ClassFile.FieldType.boolean)) ∈ gx_T := gx_mem (i := 1143) (by decide +kernel) (by decide +kernel)
theorem tw_1145 : (Jvm.Cond.instanceMethod ({ cls := "TypeLoomModel", name := "built", desc := "(I)I" } : Jvm.MethodName)) ∈ gx_T := gx_mem (i := 1145) (by decide +kernel) (by decide +kernel)
theorem tw_1146 : (Jvm.Cond.selects "TypeLoomModel" ({ cls := "TypeLoomModel", name := "built", desc := "(I)I" } : Jvm.MethodName) ({ cls := "TypeLoomModel", name := "built", desc := "(I)I" } : Jvm.MethodName)) ∈ gx_T := gx_mem (i := 1146) (by decide +kernel) (by decide +kernel)
theorem tw_1147 : (Jvm.Cond.code ({ cls := "TypeLoomModel", name := "built", desc := "(I)I" } : Jvm.MethodName) prog_11_method_8_code (4 : Nat) (Option.some Jvm.ClassFile.FieldType.int)) ∈ gx_T := gx_mem (i := 1147) (by decide +kernel) (by decide +kernel)
theorem tw_1148 : (Jvm.Cond.methodLink "TypeLoomModel" (194 : Nat) ({ cls := "TypeLoomModel", name := "areAll", desc := "(Z)Z" } : Jvm.MethodName)) ∈ gx_T := gx_mem (i := 1148) (by decide +kernel) (by decide +kernel)
theorem tw_1150 : (Jvm.Cond.instanceMethod ({ cls := "TypeLoomModel", name := "areAll", desc := "(Z)Z" } : Jvm.MethodName)) ∈ gx_T := gx_mem (i := 1150) (by decide +kernel) (by decide +kernel)
theorem tw_1151 : (Jvm.Cond.code ({ cls := "TypeLoomModel", name := "areAll", desc := "(Z)Z" } : Jvm.MethodName) prog_11_method_7_code (4 : Nat) (Option.some Jvm.ClassFile.FieldType.boolean)) ∈ gx_T := gx_mem (i := 1151) (by decide +kernel) (by decide +kernel)
theorem tw_1152 : (Jvm.Cond.methodLink "TypeLoomModel" (198 : Nat) ({ cls := "TypeLoomModel", name := "make", desc := "(II)I" } : Jvm.MethodName)) ∈ gx_T := gx_mem (i := 1152) (by decide +kernel) (by decide +kernel)
theorem tw_1154 : (Jvm.Cond.instanceMethod ({ cls := "TypeLoomModel", name := "make", desc := "(II)I" } : Jvm.MethodName)) ∈ gx_T := gx_mem (i := 1154) (by decide +kernel) (by decide +kernel)
theorem tw_1155 : (Jvm.Cond.code ({ cls := "TypeLoomModel", name := "make", desc := "(II)I" } : Jvm.MethodName) prog_11_method_4_code (4 : Nat) (Option.some Jvm.ClassFile.FieldType.int)) ∈ gx_T := gx_mem (i := 1155) (by decide +kernel) (by decide +kernel)
theorem tw_1156 : (Jvm.Cond.methodLink "TypeLoomModel" (202 : Nat) ({ cls := "TypeLoomModel", name := "addPart", desc := "(III)V" } : Jvm.MethodName)) ∈ gx_T := gx_mem (i := 1156) (by decide +kernel) (by decide +kernel)
theorem tw_1158 : (Jvm.Cond.instanceMethod ({ cls := "TypeLoomModel", name := "addPart", desc := "(III)V" } : Jvm.MethodName)) ∈ gx_T := gx_mem (i := 1158) (by decide +kernel) (by decide +kernel)
theorem tw_1159 : (Jvm.Cond.code ({ cls := "TypeLoomModel", name := "addPart", desc := "(III)V" } : Jvm.MethodName) prog_11_method_5_code (4 : Nat) (Option.none : Option Jvm.ClassFile.FieldType)) ∈ gx_T := gx_mem (i := 1159) (by decide +kernel) (by decide +kernel)
theorem tw_1161 : (Jvm.Cond.instanceMethod ({ cls := "TypeLoomModel", name := "record", desc := "(Z)I" } : Jvm.MethodName)) ∈ gx_T := gx_mem (i := 1161) (by decide +kernel) (by decide +kernel)
theorem tw_1162 : (Jvm.Cond.selects "TypeLoomModel" ({ cls := "TypeLoomModel", name := "record", desc := "(Z)I" } : Jvm.MethodName) ({ cls := "TypeLoomModel", name := "record", desc := "(Z)I" } : Jvm.MethodName)) ∈ gx_T := gx_mem (i := 1162) (by decide +kernel) (by decide +kernel)
theorem tw_1163 : (Jvm.Cond.code ({ cls := "TypeLoomModel", name := "record", desc := "(Z)I" } : Jvm.MethodName) prog_11_method_10_code (4 : Nat) (Option.some Jvm.ClassFile.FieldType.int)) ∈ gx_T := gx_mem (i := 1163) (by decide +kernel) (by decide +kernel)
theorem tw_1164 : (Jvm.Cond.methodLink "TypeLoomModel" (212 : Nat) ({ cls := "TypeLoomModel", name := "makeRow", desc := "(IZ)I" } : Jvm.MethodName)) ∈ gx_T := gx_mem (i := 1164) (by decide +kernel) (by decide +kernel)
theorem tw_1166 : (Jvm.Cond.instanceMethod ({ cls := "TypeLoomModel", name := "makeRow", desc := "(IZ)I" } : Jvm.MethodName)) ∈ gx_T := gx_mem (i := 1166) (by decide +kernel) (by decide +kernel)
theorem tw_1167 : (Jvm.Cond.code ({ cls := "TypeLoomModel", name := "makeRow", desc := "(IZ)I" } : Jvm.MethodName) prog_11_method_9_code (3 : Nat) (Option.some Jvm.ClassFile.FieldType.int)) ∈ gx_T := gx_mem (i := 1167) (by decide +kernel) (by decide +kernel)
theorem tw_1169 : (Jvm.Cond.instanceMethod ({ cls := "TypeLoomModel", name := "function", desc := "(II)I" } : Jvm.MethodName)) ∈ gx_T := gx_mem (i := 1169) (by decide +kernel) (by decide +kernel)
theorem tw_1170 : (Jvm.Cond.selects "TypeLoomModel" ({ cls := "TypeLoomModel", name := "function", desc := "(II)I" } : Jvm.MethodName) ({ cls := "TypeLoomModel", name := "function", desc := "(II)I" } : Jvm.MethodName)) ∈ gx_T := gx_mem (i := 1170) (by decide +kernel) (by decide +kernel)
theorem tw_1171 : (Jvm.Cond.code ({ cls := "TypeLoomModel", name := "function", desc := "(II)I" } : Jvm.MethodName) prog_11_method_11_code (4 : Nat) (Option.some Jvm.ClassFile.FieldType.int)) ∈ gx_T := gx_mem (i := 1171) (by decide +kernel) (by decide +kernel)
theorem tw_1173 : (Jvm.Cond.instanceMethod ({ cls := "TypeLoomModel", name := "variable", desc := "(ZI)I" } : Jvm.MethodName)) ∈ gx_T := gx_mem (i := 1173) (by decide +kernel) (by decide +kernel)
theorem tw_1174 : (Jvm.Cond.selects "TypeLoomModel" ({ cls := "TypeLoomModel", name := "variable", desc := "(ZI)I" } : Jvm.MethodName) ({ cls := "TypeLoomModel", name := "variable", desc := "(ZI)I" } : Jvm.MethodName)) ∈ gx_T := gx_mem (i := 1174) (by decide +kernel) (by decide +kernel)
theorem tw_1175 : (Jvm.Cond.code ({ cls := "TypeLoomModel", name := "variable", desc := "(ZI)I" } : Jvm.MethodName) prog_11_method_13_code (5 : Nat) (Option.some Jvm.ClassFile.FieldType.int)) ∈ gx_T := gx_mem (i := 1175) (by decide +kernel) (by decide +kernel)
theorem tw_1176 : (Jvm.Cond.methodLink "TypeLoomModel" (216 : Nat) ({ cls := "TypeLoomModel", name := "equalOnes", desc := "(I)I" } : Jvm.MethodName)) ∈ gx_T := gx_mem (i := 1176) (by decide +kernel) (by decide +kernel)
theorem tw_1178 : (Jvm.Cond.instanceMethod ({ cls := "TypeLoomModel", name := "equalOnes", desc := "(I)I" } : Jvm.MethodName)) ∈ gx_T := gx_mem (i := 1178) (by decide +kernel) (by decide +kernel)
theorem tw_1179 : (Jvm.Cond.code ({ cls := "TypeLoomModel", name := "equalOnes", desc := "(I)I" } : Jvm.MethodName) prog_11_method_12_code (4 : Nat) (Option.some Jvm.ClassFile.FieldType.int)) ∈ gx_T := gx_mem (i := 1179) (by decide +kernel) (by decide +kernel)
theorem tw_1181 : (Jvm.Cond.instanceMethod ({ cls := "TypeLoomModel", name := "rigid", desc := "(Z)I" } : Jvm.MethodName)) ∈ gx_T := gx_mem (i := 1181) (by decide +kernel) (by decide +kernel)
theorem tw_1182 : (Jvm.Cond.selects "TypeLoomModel" ({ cls := "TypeLoomModel", name := "rigid", desc := "(Z)I" } : Jvm.MethodName) ({ cls := "TypeLoomModel", name := "rigid", desc := "(Z)I" } : Jvm.MethodName)) ∈ gx_T := gx_mem (i := 1182) (by decide +kernel) (by decide +kernel)
theorem tw_1183 : (Jvm.Cond.code ({ cls := "TypeLoomModel", name := "rigid", desc := "(Z)I" } : Jvm.MethodName) prog_11_method_14_code (3 : Nat) (Option.some Jvm.ClassFile.FieldType.int)) ∈ gx_T := gx_mem (i := 1183) (by decide +kernel) (by decide +kernel)
theorem tw_1185 : (Jvm.Cond.instanceMethod ({ cls := "TypeLoomModel", name := "level", desc := "(I)I" } : Jvm.MethodName)) ∈ gx_T := gx_mem (i := 1185) (by decide +kernel) (by decide +kernel)
theorem tw_1186 : (Jvm.Cond.selects "TypeLoomModel" ({ cls := "TypeLoomModel", name := "level", desc := "(I)I" } : Jvm.MethodName) ({ cls := "TypeLoomModel", name := "level", desc := "(I)I" } : Jvm.MethodName)) ∈ gx_T := gx_mem (i := 1186) (by decide +kernel) (by decide +kernel)
theorem tw_1187 : (Jvm.Cond.code ({ cls := "TypeLoomModel", name := "level", desc := "(I)I" } : Jvm.MethodName) prog_11_method_15_code (3 : Nat) (Option.some Jvm.ClassFile.FieldType.int)) ∈ gx_T := gx_mem (i := 1187) (by decide +kernel) (by decide +kernel)
theorem tw_1189 : (Jvm.Cond.instanceMethod ({ cls := "TypeLoomModel", name := "unify", desc := "(II)Z" } : Jvm.MethodName)) ∈ gx_T := gx_mem (i := 1189) (by decide +kernel) (by decide +kernel)
theorem tw_1190 : (Jvm.Cond.selects "TypeLoomModel" ({ cls := "TypeLoomModel", name := "unify", desc := "(II)Z" } : Jvm.MethodName) ({ cls := "TypeLoomModel", name := "unify", desc := "(II)Z" } : Jvm.MethodName)) ∈ gx_T := gx_mem (i := 1190) (by decide +kernel) (by decide +kernel)
theorem tw_1191 : (Jvm.Cond.code ({ cls := "TypeLoomModel", name := "unify", desc := "(II)Z" } : Jvm.MethodName) prog_11_method_43_code (6 : Nat) (Option.some Jvm.ClassFile.FieldType.boolean)) ∈ gx_T := gx_mem (i := 1191) (by decide +kernel) (by decide +kernel)
theorem tw_1285 : (Jvm.Cond.instanceMethod ({ cls := "TypeLoomModel", name := "same", desc := "(IJIJ)Z" } : Jvm.MethodName)) ∈ gx_T := gx_mem (i := 1285) (by decide +kernel) (by decide +kernel)
theorem tw_1286 : (Jvm.Cond.selects "TypeLoomModel" ({ cls := "TypeLoomModel", name := "same", desc := "(IJIJ)Z" } : Jvm.MethodName) ({ cls := "TypeLoomModel", name := "same", desc := "(IJIJ)Z" } : Jvm.MethodName)) ∈ gx_T := gx_mem (i := 1286) (by decide +kernel) (by decide +kernel)
theorem tw_1287 : (Jvm.Cond.code ({ cls := "TypeLoomModel", name := "same", desc := "(IJIJ)Z" } : Jvm.MethodName) prog_11_method_46_code (9 : Nat) (Option.some Jvm.ClassFile.FieldType.boolean)) ∈ gx_T := gx_mem (i := 1287) (by decide +kernel) (by decide +kernel)
theorem tw_1288 : (Jvm.Cond.methodLink "TypeLoomModel" (325 : Nat) ({ cls := "TypeLoomModel", name := "follow", desc := "(IJ)I" } : Jvm.MethodName)) ∈ gx_T := gx_mem (i := 1288) (by decide +kernel) (by decide +kernel)
theorem tw_1290 : (Jvm.Cond.instanceMethod ({ cls := "TypeLoomModel", name := "follow", desc := "(IJ)I" } : Jvm.MethodName)) ∈ gx_T := gx_mem (i := 1290) (by decide +kernel) (by decide +kernel)
theorem tw_1291 : (Jvm.Cond.code ({ cls := "TypeLoomModel", name := "follow", desc := "(IJ)I" } : Jvm.MethodName) prog_11_method_21_code (7 : Nat) (Option.some Jvm.ClassFile.FieldType.int)) ∈ gx_T := gx_mem (i := 1291) (by decide +kernel) (by decide +kernel)
theorem tw_1306 : (Jvm.Cond.instanceMethod ({ cls := "TypeLoomModel", name := "look", desc := "(IJI)I" } : Jvm.MethodName)) ∈ gx_T := gx_mem (i := 1306) (by decide +kernel) (by decide +kernel)
theorem tw_1307 : (Jvm.Cond.selects "TypeLoomModel" ({ cls := "TypeLoomModel", name := "look", desc := "(IJI)I" } : Jvm.MethodName) ({ cls := "TypeLoomModel", name := "look", desc := "(IJI)I" } : Jvm.MethodName)) ∈ gx_T := gx_mem (i := 1307) (by decide +kernel) (by decide +kernel)
theorem tw_1308 : (Jvm.Cond.code ({ cls := "TypeLoomModel", name := "look", desc := "(IJI)I" } : Jvm.MethodName) prog_11_method_47_code (7 : Nat) (Option.some Jvm.ClassFile.FieldType.int)) ∈ gx_T := gx_mem (i := 1308) (by decide +kernel) (by decide +kernel)
theorem tw_1318 : (Jvm.Cond.instanceMethod ({ cls := "TypeLoomModel", name := "label", desc := "(IJI)I" } : Jvm.MethodName)) ∈ gx_T := gx_mem (i := 1318) (by decide +kernel) (by decide +kernel)
theorem tw_1319 : (Jvm.Cond.selects "TypeLoomModel" ({ cls := "TypeLoomModel", name := "label", desc := "(IJI)I" } : Jvm.MethodName) ({ cls := "TypeLoomModel", name := "label", desc := "(IJI)I" } : Jvm.MethodName)) ∈ gx_T := gx_mem (i := 1319) (by decide +kernel) (by decide +kernel)
theorem tw_1320 : (Jvm.Cond.code ({ cls := "TypeLoomModel", name := "label", desc := "(IJI)I" } : Jvm.MethodName) prog_11_method_48_code (7 : Nat) (Option.some Jvm.ClassFile.FieldType.int)) ∈ gx_T := gx_mem (i := 1320) (by decide +kernel) (by decide +kernel)
theorem tw_1322 : (Jvm.Cond.instanceMethod ({ cls := "TypeLoomModel", name := "scheme", desc := "(I)I" } : Jvm.MethodName)) ∈ gx_T := gx_mem (i := 1322) (by decide +kernel) (by decide +kernel)
theorem tw_1323 : (Jvm.Cond.selects "TypeLoomModel" ({ cls := "TypeLoomModel", name := "scheme", desc := "(I)I" } : Jvm.MethodName) ({ cls := "TypeLoomModel", name := "scheme", desc := "(I)I" } : Jvm.MethodName)) ∈ gx_T := gx_mem (i := 1323) (by decide +kernel) (by decide +kernel)
theorem tw_1324 : (Jvm.Cond.code ({ cls := "TypeLoomModel", name := "scheme", desc := "(I)I" } : Jvm.MethodName) prog_11_method_52_code (9 : Nat) (Option.some Jvm.ClassFile.FieldType.int)) ∈ gx_T := gx_mem (i := 1324) (by decide +kernel) (by decide +kernel)
theorem tw_1342 : (Jvm.Cond.instanceMethod ({ cls := "TypeLoomModel", name := "quantified", desc := "(II)I" } : Jvm.MethodName)) ∈ gx_T := gx_mem (i := 1342) (by decide +kernel) (by decide +kernel)
theorem tw_1343 : (Jvm.Cond.selects "TypeLoomModel" ({ cls := "TypeLoomModel", name := "quantified", desc := "(II)I" } : Jvm.MethodName) ({ cls := "TypeLoomModel", name := "quantified", desc := "(II)I" } : Jvm.MethodName)) ∈ gx_T := gx_mem (i := 1343) (by decide +kernel) (by decide +kernel)
theorem tw_1344 : (Jvm.Cond.code ({ cls := "TypeLoomModel", name := "quantified", desc := "(II)I" } : Jvm.MethodName) prog_11_method_55_code (3 : Nat) (Option.some Jvm.ClassFile.FieldType.int)) ∈ gx_T := gx_mem (i := 1344) (by decide +kernel) (by decide +kernel)
theorem tw_1345 : (Jvm.Cond.methodLink "TypeLoomModel" (373 : Nat) ({ cls := "TypeLoomModel", name := "isScheme", desc := "(I)Z" } : Jvm.MethodName)) ∈ gx_T := gx_mem (i := 1345) (by decide +kernel) (by decide +kernel)
theorem tw_1347 : (Jvm.Cond.instanceMethod ({ cls := "TypeLoomModel", name := "isScheme", desc := "(I)Z" } : Jvm.MethodName)) ∈ gx_T := gx_mem (i := 1347) (by decide +kernel) (by decide +kernel)
theorem tw_1348 : (Jvm.Cond.code ({ cls := "TypeLoomModel", name := "isScheme", desc := "(I)Z" } : Jvm.MethodName) prog_11_method_54_code (2 : Nat) (Option.some Jvm.ClassFile.FieldType.boolean)) ∈ gx_T := gx_mem (i := 1348) (by decide +kernel) (by decide +kernel)
theorem tw_1350 : (Jvm.Cond.instanceMethod ({ cls := "TypeLoomModel", name := "instance", desc := "(I)I" } : Jvm.MethodName)) ∈ gx_T := gx_mem (i := 1350) (by decide +kernel) (by decide +kernel)
theorem tw_1351 : (Jvm.Cond.selects "TypeLoomModel" ({ cls := "TypeLoomModel", name := "instance", desc := "(I)I" } : Jvm.MethodName) ({ cls := "TypeLoomModel", name := "instance", desc := "(I)I" } : Jvm.MethodName)) ∈ gx_T := gx_mem (i := 1351) (by decide +kernel) (by decide +kernel)
theorem tw_1352 : (Jvm.Cond.code ({ cls := "TypeLoomModel", name := "instance", desc := "(I)I" } : Jvm.MethodName) prog_11_method_56_code (7 : Nat) (Option.some Jvm.ClassFile.FieldType.int)) ∈ gx_T := gx_mem (i := 1352) (by decide +kernel) (by decide +kernel)
theorem tw_1358 : (Jvm.Cond.instanceMethod ({ cls := "TypeLoomModel", name := "alike", desc := "(II)Z" } : Jvm.MethodName)) ∈ gx_T := gx_mem (i := 1358) (by decide +kernel) (by decide +kernel)
theorem tw_1359 : (Jvm.Cond.selects "TypeLoomModel" ({ cls := "TypeLoomModel", name := "alike", desc := "(II)Z" } : Jvm.MethodName) ({ cls := "TypeLoomModel", name := "alike", desc := "(II)Z" } : Jvm.MethodName)) ∈ gx_T := gx_mem (i := 1359) (by decide +kernel) (by decide +kernel)
theorem tw_1360 : (Jvm.Cond.code ({ cls := "TypeLoomModel", name := "alike", desc := "(II)Z" } : Jvm.MethodName) prog_11_method_58_code (10 : Nat) (Option.some Jvm.ClassFile.FieldType.boolean)) ∈ gx_T := gx_mem (i := 1360) (by decide +kernel) (by decide +kernel)
theorem tw_1362 : (Jvm.Cond.instanceMethod ({ cls := "TypeLoomModel", name := "clear", desc := "(II)Z" } : Jvm.MethodName)) ∈ gx_T := gx_mem (i := 1362) (by decide +kernel) (by decide +kernel)
theorem tw_1363 : (Jvm.Cond.selects "TypeLoomModel" ({ cls := "TypeLoomModel", name := "clear", desc := "(II)Z" } : Jvm.MethodName) ({ cls := "TypeLoomModel", name := "clear", desc := "(II)Z" } : Jvm.MethodName)) ∈ gx_T := gx_mem (i := 1363) (by decide +kernel) (by decide +kernel)
theorem tw_1364 : (Jvm.Cond.code ({ cls := "TypeLoomModel", name := "clear", desc := "(II)Z" } : Jvm.MethodName) prog_11_method_59_code (6 : Nat) (Option.some Jvm.ClassFile.FieldType.boolean)) ∈ gx_T := gx_mem (i := 1364) (by decide +kernel) (by decide +kernel)
theorem tw_1366 : (Jvm.Cond.instanceMethod ({ cls := "TypeLoomModel", name := "count", desc := "(I)I" } : Jvm.MethodName)) ∈ gx_T := gx_mem (i := 1366) (by decide +kernel) (by decide +kernel)
theorem tw_1367 : (Jvm.Cond.selects "TypeLoomModel" ({ cls := "TypeLoomModel", name := "count", desc := "(I)I" } : Jvm.MethodName) ({ cls := "TypeLoomModel", name := "count", desc := "(I)I" } : Jvm.MethodName)) ∈ gx_T := gx_mem (i := 1367) (by decide +kernel) (by decide +kernel)
theorem tw_1368 : (Jvm.Cond.code ({ cls := "TypeLoomModel", name := "count", desc := "(I)I" } : Jvm.MethodName) prog_11_method_60_code (2 : Nat) (Option.some Jvm.ClassFile.FieldType.int)) ∈ gx_T := gx_mem (i := 1368) (by decide +kernel) (by decide +kernel)
end
section
theorem dw_M_isType_0 : decode prog_11_method_3_code 0 = .ok (.iload_n 1, 1) := by decide +kernel
theorem dw_M_isType_1 : decode prog_11_method_3_code 1 = .ok (.ifCond .lt 15, 3) := by decide +kernel
theorem dw_M_isType_16 : decode prog_11_method_3_code 16 = .ok (.iconst 0, 1) := by decide +kernel
theorem dw_M_isType_17 : decode prog_11_method_3_code 17 = .ok (.ireturn, 1) := by decide +kernel
theorem dw_M_isType_4 : decode prog_11_method_3_code 4 = .ok (.iload_n 1, 1) := by decide +kernel
theorem dw_M_isType_5 : decode prog_11_method_3_code 5 = .ok (.aload_n 0, 1) := by decide +kernel
theorem dw_M_isType_6 : decode prog_11_method_3_code 6 = .ok (.getfield 177, 3) := by decide +kernel
theorem dw_M_isType_9 : decode prog_11_method_3_code 9 = .ok (.if_icmp .ge 7, 3) := by decide +kernel
theorem dw_M_isType_12 : decode prog_11_method_3_code 12 = .ok (.iconst 1, 1) := by decide +kernel
theorem dw_M_isType_13 : decode prog_11_method_3_code 13 = .ok (.goto 4, 3) := by decide +kernel
theorem dw_M_make_0 : decode prog_11_method_4_code 0 = .ok (.aload_n 0, 1) := by decide +kernel
theorem dw_M_make_1 : decode prog_11_method_4_code 1 = .ok (.getfield 177, 3) := by decide +kernel
theorem dw_M_make_4 : decode prog_11_method_4_code 4 = .ok (.istore_n 3, 1) := by decide +kernel
theorem dw_M_make_5 : decode prog_11_method_4_code 5 = .ok (.aload_n 0, 1) := by decide +kernel
theorem dw_M_make_6 : decode prog_11_method_4_code 6 = .ok (.dup, 1) := by decide +kernel
theorem dw_M_make_7 : decode prog_11_method_4_code 7 = .ok (.getfield 177, 3) := by decide +kernel
theorem dw_M_make_10 : decode prog_11_method_4_code 10 = .ok (.iconst 1, 1) := by decide +kernel
theorem dw_M_make_11 : decode prog_11_method_4_code 11 = .ok (.iadd, 1) := by decide +kernel
theorem dw_M_make_12 : decode prog_11_method_4_code 12 = .ok (.putfield 177, 3) := by decide +kernel
theorem dw_M_make_15 : decode prog_11_method_4_code 15 = .ok (.aload_n 0, 1) := by decide +kernel
theorem dw_M_make_16 : decode prog_11_method_4_code 16 = .ok (.getfield 16, 3) := by decide +kernel
theorem dw_M_make_19 : decode prog_11_method_4_code 19 = .ok (.iload_n 3, 1) := by decide +kernel
theorem dw_M_make_20 : decode prog_11_method_4_code 20 = .ok (.iload_n 1, 1) := by decide +kernel
theorem dw_M_make_21 : decode prog_11_method_4_code 21 = .ok (.i2b, 1) := by decide +kernel
theorem dw_M_make_22 : decode prog_11_method_4_code 22 = .ok (.bastore, 1) := by decide +kernel
theorem dw_M_make_23 : decode prog_11_method_4_code 23 = .ok (.aload_n 0, 1) := by decide +kernel
theorem dw_M_make_24 : decode prog_11_method_4_code 24 = .ok (.getfield 19, 3) := by decide +kernel
theorem dw_M_make_27 : decode prog_11_method_4_code 27 = .ok (.iload_n 3, 1) := by decide +kernel
theorem dw_M_make_28 : decode prog_11_method_4_code 28 = .ok (.iload_n 2, 1) := by decide +kernel
theorem dw_M_make_29 : decode prog_11_method_4_code 29 = .ok (.iastore, 1) := by decide +kernel
theorem dw_M_make_30 : decode prog_11_method_4_code 30 = .ok (.aload_n 0, 1) := by decide +kernel
theorem dw_M_make_31 : decode prog_11_method_4_code 31 = .ok (.getfield 23, 3) := by decide +kernel
theorem dw_M_make_34 : decode prog_11_method_4_code 34 = .ok (.iload_n 3, 1) := by decide +kernel
theorem dw_M_make_35 : decode prog_11_method_4_code 35 = .ok (.aload_n 0, 1) := by decide +kernel
theorem dw_M_make_36 : decode prog_11_method_4_code 36 = .ok (.getfield 180, 3) := by decide +kernel
theorem dw_M_make_39 : decode prog_11_method_4_code 39 = .ok (.iastore, 1) := by decide +kernel
theorem dw_M_make_40 : decode prog_11_method_4_code 40 = .ok (.aload_n 0, 1) := by decide +kernel
theorem dw_M_make_41 : decode prog_11_method_4_code 41 = .ok (.getfield 26, 3) := by decide +kernel
theorem dw_M_make_44 : decode prog_11_method_4_code 44 = .ok (.iload_n 3, 1) := by decide +kernel
theorem dw_M_make_45 : decode prog_11_method_4_code 45 = .ok (.iconst 0, 1) := by decide +kernel
theorem dw_M_make_46 : decode prog_11_method_4_code 46 = .ok (.sastore, 1) := by decide +kernel
theorem dw_M_make_47 : decode prog_11_method_4_code 47 = .ok (.aload_n 0, 1) := by decide +kernel
theorem dw_M_make_48 : decode prog_11_method_4_code 48 = .ok (.getfield 30, 3) := by decide +kernel
theorem dw_M_make_51 : decode prog_11_method_4_code 51 = .ok (.iload_n 3, 1) := by decide +kernel
theorem dw_M_make_52 : decode prog_11_method_4_code 52 = .ok (.iconst (-1), 1) := by decide +kernel
theorem dw_M_make_53 : decode prog_11_method_4_code 53 = .ok (.iastore, 1) := by decide +kernel
theorem dw_M_make_54 : decode prog_11_method_4_code 54 = .ok (.aload_n 0, 1) := by decide +kernel
theorem dw_M_make_55 : decode prog_11_method_4_code 55 = .ok (.getfield 33, 3) := by decide +kernel
theorem dw_M_make_58 : decode prog_11_method_4_code 58 = .ok (.iload_n 3, 1) := by decide +kernel
theorem dw_M_make_59 : decode prog_11_method_4_code 59 = .ok (.aload_n 0, 1) := by decide +kernel
theorem dw_M_make_60 : decode prog_11_method_4_code 60 = .ok (.getfield 183, 3) := by decide +kernel
theorem dw_M_make_63 : decode prog_11_method_4_code 63 = .ok (.i2b, 1) := by decide +kernel
theorem dw_M_make_64 : decode prog_11_method_4_code 64 = .ok (.bastore, 1) := by decide +kernel
theorem dw_M_make_65 : decode prog_11_method_4_code 65 = .ok (.aload_n 0, 1) := by decide +kernel
theorem dw_M_make_66 : decode prog_11_method_4_code 66 = .ok (.getfield 36, 3) := by decide +kernel
theorem dw_M_make_69 : decode prog_11_method_4_code 69 = .ok (.iload_n 3, 1) := by decide +kernel
theorem dw_M_make_70 : decode prog_11_method_4_code 70 = .ok (.iconst 0, 1) := by decide +kernel
theorem dw_M_make_71 : decode prog_11_method_4_code 71 = .ok (.bastore, 1) := by decide +kernel
theorem dw_M_make_72 : decode prog_11_method_4_code 72 = .ok (.aload_n 0, 1) := by decide +kernel
theorem dw_M_make_73 : decode prog_11_method_4_code 73 = .ok (.getfield 40, 3) := by decide +kernel
theorem dw_M_make_76 : decode prog_11_method_4_code 76 = .ok (.iload_n 3, 1) := by decide +kernel
theorem dw_M_make_77 : decode prog_11_method_4_code 77 = .ok (.iconst 0, 1) := by decide +kernel
theorem dw_M_make_78 : decode prog_11_method_4_code 78 = .ok (.iastore, 1) := by decide +kernel
theorem dw_M_make_79 : decode prog_11_method_4_code 79 = .ok (.aload_n 0, 1) := by decide +kernel
theorem dw_M_make_80 : decode prog_11_method_4_code 80 = .ok (.getfield 43, 3) := by decide +kernel
theorem dw_M_make_83 : decode prog_11_method_4_code 83 = .ok (.iload_n 3, 1) := by decide +kernel
theorem dw_M_make_84 : decode prog_11_method_4_code 84 = .ok (.iconst (-1), 1) := by decide +kernel
theorem dw_M_make_85 : decode prog_11_method_4_code 85 = .ok (.iastore, 1) := by decide +kernel
theorem dw_M_make_86 : decode prog_11_method_4_code 86 = .ok (.iload_n 3, 1) := by decide +kernel
theorem dw_M_make_87 : decode prog_11_method_4_code 87 = .ok (.ireturn, 1) := by decide +kernel
theorem dw_M_addPart_0 : decode prog_11_method_5_code 0 = .ok (.aload_n 0, 1) := by decide +kernel
theorem dw_M_addPart_1 : decode prog_11_method_5_code 1 = .ok (.getfield 47, 3) := by decide +kernel
theorem dw_M_addPart_4 : decode prog_11_method_5_code 4 = .ok (.aload_n 0, 1) := by decide +kernel
theorem dw_M_addPart_5 : decode prog_11_method_5_code 5 = .ok (.getfield 180, 3) := by decide +kernel
theorem dw_M_addPart_8 : decode prog_11_method_5_code 8 = .ok (.iload_n 3, 1) := by decide +kernel
theorem dw_M_addPart_9 : decode prog_11_method_5_code 9 = .ok (.i2s, 1) := by decide +kernel
theorem dw_M_addPart_10 : decode prog_11_method_5_code 10 = .ok (.sastore, 1) := by decide +kernel
theorem dw_M_addPart_11 : decode prog_11_method_5_code 11 = .ok (.aload_n 0, 1) := by decide +kernel
theorem dw_M_addPart_12 : decode prog_11_method_5_code 12 = .ok (.getfield 50, 3) := by decide +kernel
theorem dw_M_addPart_15 : decode prog_11_method_5_code 15 = .ok (.aload_n 0, 1) := by decide +kernel
theorem dw_M_addPart_16 : decode prog_11_method_5_code 16 = .ok (.getfield 180, 3) := by decide +kernel
theorem dw_M_addPart_19 : decode prog_11_method_5_code 19 = .ok (.iload_n 2, 1) := by decide +kernel
theorem dw_M_addPart_20 : decode prog_11_method_5_code 20 = .ok (.i2s, 1) := by decide +kernel
theorem dw_M_addPart_21 : decode prog_11_method_5_code 21 = .ok (.sastore, 1) := by decide +kernel
theorem dw_M_addPart_22 : decode prog_11_method_5_code 22 = .ok (.aload_n 0, 1) := by decide +kernel
theorem dw_M_addPart_23 : decode prog_11_method_5_code 23 = .ok (.dup, 1) := by decide +kernel
theorem dw_M_addPart_24 : decode prog_11_method_5_code 24 = .ok (.getfield 180, 3) := by decide +kernel
theorem dw_M_addPart_27 : decode prog_11_method_5_code 27 = .ok (.iconst 1, 1) := by decide +kernel
theorem dw_M_addPart_28 : decode prog_11_method_5_code 28 = .ok (.iadd, 1) := by decide +kernel
theorem dw_M_addPart_29 : decode prog_11_method_5_code 29 = .ok (.putfield 180, 3) := by decide +kernel
theorem dw_M_addPart_32 : decode prog_11_method_5_code 32 = .ok (.aload_n 0, 1) := by decide +kernel
theorem dw_M_addPart_33 : decode prog_11_method_5_code 33 = .ok (.getfield 26, 3) := by decide +kernel
theorem dw_M_addPart_36 : decode prog_11_method_5_code 36 = .ok (.iload_n 1, 1) := by decide +kernel
theorem dw_M_addPart_37 : decode prog_11_method_5_code 37 = .ok (.dup2, 1) := by decide +kernel
theorem dw_M_addPart_38 : decode prog_11_method_5_code 38 = .ok (.saload, 1) := by decide +kernel
theorem dw_M_addPart_39 : decode prog_11_method_5_code 39 = .ok (.iconst 1, 1) := by decide +kernel
theorem dw_M_addPart_40 : decode prog_11_method_5_code 40 = .ok (.iadd, 1) := by decide +kernel
theorem dw_M_addPart_41 : decode prog_11_method_5_code 41 = .ok (.i2s, 1) := by decide +kernel
theorem dw_M_addPart_42 : decode prog_11_method_5_code 42 = .ok (.sastore, 1) := by decide +kernel
theorem dw_M_addPart_43 : decode prog_11_method_5_code 43 = .ok (.return_, 1) := by decide +kernel
theorem dw_M_areAll_0 : decode prog_11_method_7_code 0 = .ok (.iconst 1, 1) := by decide +kernel
theorem dw_M_areAll_1 : decode prog_11_method_7_code 1 = .ok (.istore_n 2, 1) := by decide +kernel
theorem dw_M_areAll_2 : decode prog_11_method_7_code 2 = .ok (.iconst 0, 1) := by decide +kernel
theorem dw_M_areAll_3 : decode prog_11_method_7_code 3 = .ok (.istore_n 3, 1) := by decide +kernel
theorem dw_M_areAll_4 : decode prog_11_method_7_code 4 = .ok (.iload_n 3, 1) := by decide +kernel
theorem dw_M_areAll_5 : decode prog_11_method_7_code 5 = .ok (.aload_n 0, 1) := by decide +kernel
theorem dw_M_areAll_6 : decode prog_11_method_7_code 6 = .ok (.getfield 191, 3) := by decide +kernel
theorem dw_M_areAll_9 : decode prog_11_method_7_code 9 = .ok (.if_icmp .ge 37, 3) := by decide +kernel
theorem dw_M_areAll_46 : decode prog_11_method_7_code 46 = .ok (.iload_n 2, 1) := by decide +kernel
theorem dw_M_areAll_47 : decode prog_11_method_7_code 47 = .ok (.ireturn, 1) := by decide +kernel
theorem dw_M_areAll_12 : decode prog_11_method_7_code 12 = .ok (.iload_n 2, 1) := by decide +kernel
theorem dw_M_areAll_13 : decode prog_11_method_7_code 13 = .ok (.ifCond .eq 25, 3) := by decide +kernel
theorem dw_M_areAll_39 : decode prog_11_method_7_code 39 = .ok (.istore_n 2, 1) := by decide +kernel
theorem dw_M_areAll_40 : decode prog_11_method_7_code 40 = .ok (.iinc 3 1, 3) := by decide +kernel
theorem dw_M_areAll_43 : decode prog_11_method_7_code 43 = .ok (.goto (-39), 3) := by decide +kernel
theorem dw_M_areAll_38 : decode prog_11_method_7_code 38 = .ok (.iconst 0, 1) := by decide +kernel
theorem dw_M_areAll_16 : decode prog_11_method_7_code 16 = .ok (.aload_n 0, 1) := by decide +kernel
theorem dw_M_areAll_17 : decode prog_11_method_7_code 17 = .ok (.getfield 75, 3) := by decide +kernel
theorem dw_M_areAll_20 : decode prog_11_method_7_code 20 = .ok (.iload_n 3, 1) := by decide +kernel
theorem dw_M_areAll_21 : decode prog_11_method_7_code 21 = .ok (.iaload, 1) := by decide +kernel
theorem dw_M_areAll_22 : decode prog_11_method_7_code 22 = .ok (.ifCond .lt 7, 3) := by decide +kernel
theorem dw_M_areAll_30 : decode prog_11_method_7_code 30 = .ok (.iload_n 1, 1) := by decide +kernel
theorem dw_M_areAll_31 : decode prog_11_method_7_code 31 = .ok (.if_icmp .ne 7, 3) := by decide +kernel
theorem dw_M_areAll_34 : decode prog_11_method_7_code 34 = .ok (.iconst 1, 1) := by decide +kernel
theorem dw_M_areAll_35 : decode prog_11_method_7_code 35 = .ok (.goto 4, 3) := by decide +kernel
theorem dw_M_areAll_29 : decode prog_11_method_7_code 29 = .ok (.iconst 0, 1) := by decide +kernel
theorem dw_M_areAll_25 : decode prog_11_method_7_code 25 = .ok (.iconst 1, 1) := by decide +kernel
theorem dw_M_areAll_26 : decode prog_11_method_7_code 26 = .ok (.goto 4, 3) := by decide +kernel
theorem dw_M_makeRow_0 : decode prog_11_method_9_code 0 = .ok (.aload_n 0, 1) := by decide +kernel
theorem dw_M_makeRow_1 : decode prog_11_method_9_code 1 = .ok (.getfield 53, 3) := by decide +kernel
theorem dw_M_makeRow_4 : decode prog_11_method_9_code 4 = .ok (.aload_n 0, 1) := by decide +kernel
theorem dw_M_makeRow_5 : decode prog_11_method_9_code 5 = .ok (.getfield 206, 3) := by decide +kernel
theorem dw_M_makeRow_8 : decode prog_11_method_9_code 8 = .ok (.iload_n 1, 1) := by decide +kernel
theorem dw_M_makeRow_9 : decode prog_11_method_9_code 9 = .ok (.i2b, 1) := by decide +kernel
theorem dw_M_makeRow_10 : decode prog_11_method_9_code 10 = .ok (.bastore, 1) := by decide +kernel
theorem dw_M_makeRow_11 : decode prog_11_method_9_code 11 = .ok (.aload_n 0, 1) := by decide +kernel
theorem dw_M_makeRow_12 : decode prog_11_method_9_code 12 = .ok (.getfield 56, 3) := by decide +kernel
theorem dw_M_makeRow_15 : decode prog_11_method_9_code 15 = .ok (.aload_n 0, 1) := by decide +kernel
theorem dw_M_makeRow_16 : decode prog_11_method_9_code 16 = .ok (.getfield 206, 3) := by decide +kernel
theorem dw_M_makeRow_19 : decode prog_11_method_9_code 19 = .ok (.iload_n 2, 1) := by decide +kernel
theorem dw_M_makeRow_20 : decode prog_11_method_9_code 20 = .ok (.bastore, 1) := by decide +kernel
theorem dw_M_makeRow_21 : decode prog_11_method_9_code 21 = .ok (.aload_n 0, 1) := by decide +kernel
theorem dw_M_makeRow_22 : decode prog_11_method_9_code 22 = .ok (.getfield 62, 3) := by decide +kernel
theorem dw_M_makeRow_25 : decode prog_11_method_9_code 25 = .ok (.aload_n 0, 1) := by decide +kernel
theorem dw_M_makeRow_26 : decode prog_11_method_9_code 26 = .ok (.getfield 206, 3) := by decide +kernel
theorem dw_M_makeRow_29 : decode prog_11_method_9_code 29 = .ok (.iconst (-1), 1) := by decide +kernel
theorem dw_M_makeRow_30 : decode prog_11_method_9_code 30 = .ok (.iastore, 1) := by decide +kernel
theorem dw_M_makeRow_31 : decode prog_11_method_9_code 31 = .ok (.aload_n 0, 1) := by decide +kernel
theorem dw_M_makeRow_32 : decode prog_11_method_9_code 32 = .ok (.getfield 65, 3) := by decide +kernel
theorem dw_M_makeRow_35 : decode prog_11_method_9_code 35 = .ok (.aload_n 0, 1) := by decide +kernel
theorem dw_M_makeRow_36 : decode prog_11_method_9_code 36 = .ok (.getfield 206, 3) := by decide +kernel
theorem dw_M_makeRow_39 : decode prog_11_method_9_code 39 = .ok (.iconst (-1), 1) := by decide +kernel
theorem dw_M_makeRow_40 : decode prog_11_method_9_code 40 = .ok (.iastore, 1) := by decide +kernel
theorem dw_M_makeRow_41 : decode prog_11_method_9_code 41 = .ok (.aload_n 0, 1) := by decide +kernel
theorem dw_M_makeRow_42 : decode prog_11_method_9_code 42 = .ok (.dup, 1) := by decide +kernel
theorem dw_M_makeRow_43 : decode prog_11_method_9_code 43 = .ok (.getfield 206, 3) := by decide +kernel
theorem dw_M_makeRow_46 : decode prog_11_method_9_code 46 = .ok (.iconst 1, 1) := by decide +kernel
theorem dw_M_makeRow_47 : decode prog_11_method_9_code 47 = .ok (.iadd, 1) := by decide +kernel
theorem dw_M_makeRow_48 : decode prog_11_method_9_code 48 = .ok (.putfield 206, 3) := by decide +kernel
theorem dw_M_makeRow_51 : decode prog_11_method_9_code 51 = .ok (.aload_n 0, 1) := by decide +kernel
theorem dw_M_makeRow_52 : decode prog_11_method_9_code 52 = .ok (.getfield 206, 3) := by decide +kernel
theorem dw_M_makeRow_55 : decode prog_11_method_9_code 55 = .ok (.iconst 1, 1) := by decide +kernel
theorem dw_M_makeRow_56 : decode prog_11_method_9_code 56 = .ok (.isub, 1) := by decide +kernel
theorem dw_M_makeRow_57 : decode prog_11_method_9_code 57 = .ok (.ireturn, 1) := by decide +kernel
theorem dw_M_equalOnes_0 : decode prog_11_method_12_code 0 = .ok (.iload_n 1, 1) := by decide +kernel
theorem dw_M_equalOnes_1 : decode prog_11_method_12_code 1 = .ok (.istore_n 2, 1) := by decide +kernel
theorem dw_M_equalOnes_2 : decode prog_11_method_12_code 2 = .ok (.iconst 0, 1) := by decide +kernel
theorem dw_M_equalOnes_3 : decode prog_11_method_12_code 3 = .ok (.istore_n 3, 1) := by decide +kernel
theorem dw_M_equalOnes_4 : decode prog_11_method_12_code 4 = .ok (.iload_n 3, 1) := by decide +kernel
theorem dw_M_equalOnes_5 : decode prog_11_method_12_code 5 = .ok (.bipush 31, 2) := by decide +kernel
theorem dw_M_equalOnes_7 : decode prog_11_method_12_code 7 = .ok (.if_icmp .ge 38, 3) := by decide +kernel
theorem dw_M_equalOnes_45 : decode prog_11_method_12_code 45 = .ok (.iload_n 2, 1) := by decide +kernel
theorem dw_M_equalOnes_46 : decode prog_11_method_12_code 46 = .ok (.ireturn, 1) := by decide +kernel
theorem dw_M_equalOnes_10 : decode prog_11_method_12_code 10 = .ok (.iload_n 3, 1) := by decide +kernel
theorem dw_M_equalOnes_11 : decode prog_11_method_12_code 11 = .ok (.aload_n 0, 1) := by decide +kernel
theorem dw_M_equalOnes_12 : decode prog_11_method_12_code 12 = .ok (.getfield 173, 3) := by decide +kernel
theorem dw_M_equalOnes_15 : decode prog_11_method_12_code 15 = .ok (.if_icmp .ge 30, 3) := by decide +kernel
theorem dw_M_equalOnes_18 : decode prog_11_method_12_code 18 = .ok (.aload_n 0, 1) := by decide +kernel
theorem dw_M_equalOnes_19 : decode prog_11_method_12_code 19 = .ok (.getfield 13, 3) := by decide +kernel
theorem dw_M_equalOnes_22 : decode prog_11_method_12_code 22 = .ok (.iload_n 3, 1) := by decide +kernel
theorem dw_M_equalOnes_23 : decode prog_11_method_12_code 23 = .ok (.baload, 1) := by decide +kernel
theorem dw_M_equalOnes_24 : decode prog_11_method_12_code 24 = .ok (.ifCond .ne 13, 3) := by decide +kernel
theorem dw_M_equalOnes_38 : decode prog_11_method_12_code 38 = .ok (.istore_n 2, 1) := by decide +kernel
theorem dw_M_equalOnes_39 : decode prog_11_method_12_code 39 = .ok (.iinc 3 1, 3) := by decide +kernel
theorem dw_M_equalOnes_42 : decode prog_11_method_12_code 42 = .ok (.goto (-38), 3) := by decide +kernel
theorem dw_M_equalOnes_37 : decode prog_11_method_12_code 37 = .ok (.iload_n 2, 1) := by decide +kernel
theorem dw_M_equalOnes_27 : decode prog_11_method_12_code 27 = .ok (.iload_n 2, 1) := by decide +kernel
theorem dw_M_equalOnes_28 : decode prog_11_method_12_code 28 = .ok (.iconst 1, 1) := by decide +kernel
theorem dw_M_equalOnes_29 : decode prog_11_method_12_code 29 = .ok (.iload_n 3, 1) := by decide +kernel
theorem dw_M_equalOnes_30 : decode prog_11_method_12_code 30 = .ok (.ishl, 1) := by decide +kernel
theorem dw_M_equalOnes_31 : decode prog_11_method_12_code 31 = .ok (.iconst (-1), 1) := by decide +kernel
theorem dw_M_equalOnes_32 : decode prog_11_method_12_code 32 = .ok (.ixor, 1) := by decide +kernel
theorem dw_M_equalOnes_33 : decode prog_11_method_12_code 33 = .ok (.iand, 1) := by decide +kernel
theorem dw_M_equalOnes_34 : decode prog_11_method_12_code 34 = .ok (.goto 4, 3) := by decide +kernel
theorem dw_M_follow_0 : decode prog_11_method_21_code 0 = .ok (.aload_n 0, 1) := by decide +kernel
theorem dw_M_follow_1 : decode prog_11_method_21_code 1 = .ok (.iload_n 1, 1) := by decide +kernel
theorem dw_M_follow_2 : decode prog_11_method_21_code 2 = .ok (.invokevirtual 187, 3) := by decide +kernel
theorem dw_M_follow_5 : decode prog_11_method_21_code 5 = .ok (.ifCond .ne 5, 3) := by decide +kernel
theorem dw_M_follow_10 : decode prog_11_method_21_code 10 = .ok (.aload_n 0, 1) := by decide +kernel
theorem dw_M_follow_11 : decode prog_11_method_21_code 11 = .ok (.iload_n 1, 1) := by decide +kernel
theorem dw_M_follow_12 : decode prog_11_method_21_code 12 = .ok (.invokevirtual 230, 3) := by decide +kernel
theorem dw_M_follow_8 : decode prog_11_method_21_code 8 = .ok (.iconst (-1), 1) := by decide +kernel
theorem dw_M_follow_9 : decode prog_11_method_21_code 9 = .ok (.ireturn, 1) := by decide +kernel
theorem dw_M_isScheme_0 : decode prog_11_method_54_code 0 = .ok (.iload_n 1, 1) := by decide +kernel
theorem dw_M_isScheme_1 : decode prog_11_method_54_code 1 = .ok (.ifCond .lt 15, 3) := by decide +kernel
theorem dw_M_isScheme_16 : decode prog_11_method_54_code 16 = .ok (.iconst 0, 1) := by decide +kernel
theorem dw_M_isScheme_17 : decode prog_11_method_54_code 17 = .ok (.ireturn, 1) := by decide +kernel
theorem dw_M_isScheme_4 : decode prog_11_method_54_code 4 = .ok (.iload_n 1, 1) := by decide +kernel
theorem dw_M_isScheme_5 : decode prog_11_method_54_code 5 = .ok (.aload_n 0, 1) := by decide +kernel
theorem dw_M_isScheme_6 : decode prog_11_method_54_code 6 = .ok (.getfield 364, 3) := by decide +kernel
theorem dw_M_isScheme_9 : decode prog_11_method_54_code 9 = .ok (.if_icmp .ge 7, 3) := by decide +kernel
theorem dw_M_isScheme_12 : decode prog_11_method_54_code 12 = .ok (.iconst 1, 1) := by decide +kernel
theorem dw_M_isScheme_13 : decode prog_11_method_54_code 13 = .ok (.goto 4, 3) := by decide +kernel
theorem dw_M_constructor_0 : decode prog_11_method_2_code 0 = .ok (.iload_n 1, 1) := by decide +kernel
theorem dw_M_constructor_1 : decode prog_11_method_2_code 1 = .ok (.ifCond .lt 18, 3) := by decide +kernel
theorem dw_M_constructor_19 : decode prog_11_method_2_code 19 = .ok (.iconst (-1), 1) := by decide +kernel
theorem dw_M_constructor_20 : decode prog_11_method_2_code 20 = .ok (.ireturn, 1) := by decide +kernel
theorem dw_M_constructor_4 : decode prog_11_method_2_code 4 = .ok (.iload_n 1, 1) := by decide +kernel
theorem dw_M_constructor_5 : decode prog_11_method_2_code 5 = .ok (.bipush 8, 2) := by decide +kernel
theorem dw_M_constructor_7 : decode prog_11_method_2_code 7 = .ok (.if_icmp .gt 12, 3) := by decide +kernel
theorem dw_M_constructor_10 : decode prog_11_method_2_code 10 = .ok (.iload_n 2, 1) := by decide +kernel
theorem dw_M_constructor_11 : decode prog_11_method_2_code 11 = .ok (.ifCond .lt 8, 3) := by decide +kernel
theorem dw_M_constructor_14 : decode prog_11_method_2_code 14 = .ok (.iload_n 2, 1) := by decide +kernel
theorem dw_M_constructor_15 : decode prog_11_method_2_code 15 = .ok (.iconst 2, 1) := by decide +kernel
theorem dw_M_constructor_16 : decode prog_11_method_2_code 16 = .ok (.if_icmp .le 5, 3) := by decide +kernel
theorem dw_M_constructor_21 : decode prog_11_method_2_code 21 = .ok (.aload_n 0, 1) := by decide +kernel
theorem dw_M_constructor_22 : decode prog_11_method_2_code 22 = .ok (.getfield 173, 3) := by decide +kernel
theorem dw_M_constructor_25 : decode prog_11_method_2_code 25 = .ok (.sipush 2048, 3) := by decide +kernel
theorem dw_M_constructor_28 : decode prog_11_method_2_code 28 = .ok (.if_icmp .ne 6, 3) := by decide +kernel
theorem dw_M_constructor_34 : decode prog_11_method_2_code 34 = .ok (.aload_n 0, 1) := by decide +kernel
theorem dw_M_constructor_35 : decode prog_11_method_2_code 35 = .ok (.getfield 7, 3) := by decide +kernel
theorem dw_M_constructor_38 : decode prog_11_method_2_code 38 = .ok (.aload_n 0, 1) := by decide +kernel
theorem dw_M_constructor_39 : decode prog_11_method_2_code 39 = .ok (.getfield 173, 3) := by decide +kernel
theorem dw_M_constructor_42 : decode prog_11_method_2_code 42 = .ok (.iload_n 1, 1) := by decide +kernel
theorem dw_M_constructor_43 : decode prog_11_method_2_code 43 = .ok (.i2b, 1) := by decide +kernel
theorem dw_M_constructor_44 : decode prog_11_method_2_code 44 = .ok (.bastore, 1) := by decide +kernel
theorem dw_M_constructor_45 : decode prog_11_method_2_code 45 = .ok (.aload_n 0, 1) := by decide +kernel
theorem dw_M_constructor_46 : decode prog_11_method_2_code 46 = .ok (.getfield 13, 3) := by decide +kernel
theorem dw_M_constructor_49 : decode prog_11_method_2_code 49 = .ok (.aload_n 0, 1) := by decide +kernel
theorem dw_M_constructor_50 : decode prog_11_method_2_code 50 = .ok (.getfield 173, 3) := by decide +kernel
theorem dw_M_constructor_53 : decode prog_11_method_2_code 53 = .ok (.iload_n 2, 1) := by decide +kernel
theorem dw_M_constructor_54 : decode prog_11_method_2_code 54 = .ok (.i2b, 1) := by decide +kernel
theorem dw_M_constructor_55 : decode prog_11_method_2_code 55 = .ok (.bastore, 1) := by decide +kernel
theorem dw_M_constructor_56 : decode prog_11_method_2_code 56 = .ok (.aload_n 0, 1) := by decide +kernel
theorem dw_M_constructor_57 : decode prog_11_method_2_code 57 = .ok (.dup, 1) := by decide +kernel
theorem dw_M_constructor_58 : decode prog_11_method_2_code 58 = .ok (.getfield 173, 3) := by decide +kernel
theorem dw_M_constructor_61 : decode prog_11_method_2_code 61 = .ok (.iconst 1, 1) := by decide +kernel
theorem dw_M_constructor_62 : decode prog_11_method_2_code 62 = .ok (.iadd, 1) := by decide +kernel
theorem dw_M_constructor_63 : decode prog_11_method_2_code 63 = .ok (.putfield 173, 3) := by decide +kernel
theorem dw_M_constructor_66 : decode prog_11_method_2_code 66 = .ok (.aload_n 0, 1) := by decide +kernel
theorem dw_M_constructor_67 : decode prog_11_method_2_code 67 = .ok (.getfield 173, 3) := by decide +kernel
theorem dw_M_constructor_70 : decode prog_11_method_2_code 70 = .ok (.iconst 1, 1) := by decide +kernel
theorem dw_M_constructor_71 : decode prog_11_method_2_code 71 = .ok (.isub, 1) := by decide +kernel
theorem dw_M_constructor_72 : decode prog_11_method_2_code 72 = .ok (.ireturn, 1) := by decide +kernel
theorem dw_M_constructor_31 : decode prog_11_method_2_code 31 = .ok (.bipush (-2), 2) := by decide +kernel
theorem dw_M_constructor_33 : decode prog_11_method_2_code 33 = .ok (.ireturn, 1) := by decide +kernel
theorem dw_M_push_0 : decode prog_11_method_6_code 0 = .ok (.iload_n 1, 1) := by decide +kernel
theorem dw_M_push_1 : decode prog_11_method_6_code 1 = .ok (.iconst (-1), 1) := by decide +kernel
theorem dw_M_push_2 : decode prog_11_method_6_code 2 = .ok (.if_icmp .lt 21, 3) := by decide +kernel
theorem dw_M_push_24 : decode prog_11_method_6_code 24 = .ok (.istore_n 3, 1) := by decide +kernel
theorem dw_M_push_25 : decode prog_11_method_6_code 25 = .ok (.iconst 0, 1) := by decide +kernel
theorem dw_M_push_26 : decode prog_11_method_6_code 26 = .ok (.istore 4, 2) := by decide +kernel
theorem dw_M_push_68 : decode prog_11_method_6_code 68 = .ok (.iload_n 3, 1) := by decide +kernel
theorem dw_M_push_69 : decode prog_11_method_6_code 69 = .ok (.ifCond .ne 5, 3) := by decide +kernel
theorem dw_M_push_74 : decode prog_11_method_6_code 74 = .ok (.aload_n 0, 1) := by decide +kernel
theorem dw_M_push_75 : decode prog_11_method_6_code 75 = .ok (.getfield 191, 3) := by decide +kernel
theorem dw_M_push_78 : decode prog_11_method_6_code 78 = .ok (.sipush 128, 3) := by decide +kernel
theorem dw_M_push_81 : decode prog_11_method_6_code 81 = .ok (.if_icmp .ne 6, 3) := by decide +kernel
theorem dw_M_push_87 : decode prog_11_method_6_code 87 = .ok (.aload_n 0, 1) := by decide +kernel
theorem dw_M_push_88 : decode prog_11_method_6_code 88 = .ok (.getfield 75, 3) := by decide +kernel
theorem dw_M_push_91 : decode prog_11_method_6_code 91 = .ok (.aload_n 0, 1) := by decide +kernel
theorem dw_M_push_92 : decode prog_11_method_6_code 92 = .ok (.getfield 191, 3) := by decide +kernel
theorem dw_M_push_95 : decode prog_11_method_6_code 95 = .ok (.iload_n 1, 1) := by decide +kernel
theorem dw_M_push_96 : decode prog_11_method_6_code 96 = .ok (.iastore, 1) := by decide +kernel
theorem dw_M_push_97 : decode prog_11_method_6_code 97 = .ok (.aload_n 0, 1) := by decide +kernel
theorem dw_M_push_98 : decode prog_11_method_6_code 98 = .ok (.getfield 78, 3) := by decide +kernel
theorem dw_M_push_101 : decode prog_11_method_6_code 101 = .ok (.aload_n 0, 1) := by decide +kernel
theorem dw_M_push_102 : decode prog_11_method_6_code 102 = .ok (.getfield 191, 3) := by decide +kernel
theorem dw_M_push_105 : decode prog_11_method_6_code 105 = .ok (.iload_n 2, 1) := by decide +kernel
theorem dw_M_push_106 : decode prog_11_method_6_code 106 = .ok (.iastore, 1) := by decide +kernel
theorem dw_M_push_107 : decode prog_11_method_6_code 107 = .ok (.aload_n 0, 1) := by decide +kernel
theorem dw_M_push_108 : decode prog_11_method_6_code 108 = .ok (.dup, 1) := by decide +kernel
theorem dw_M_push_109 : decode prog_11_method_6_code 109 = .ok (.getfield 191, 3) := by decide +kernel
theorem dw_M_push_112 : decode prog_11_method_6_code 112 = .ok (.iconst 1, 1) := by decide +kernel
theorem dw_M_push_113 : decode prog_11_method_6_code 113 = .ok (.iadd, 1) := by decide +kernel
theorem dw_M_push_114 : decode prog_11_method_6_code 114 = .ok (.putfield 191, 3) := by decide +kernel
theorem dw_M_push_117 : decode prog_11_method_6_code 117 = .ok (.aload_n 0, 1) := by decide +kernel
theorem dw_M_push_118 : decode prog_11_method_6_code 118 = .ok (.getfield 191, 3) := by decide +kernel
theorem dw_M_push_121 : decode prog_11_method_6_code 121 = .ok (.ireturn, 1) := by decide +kernel
theorem dw_M_push_84 : decode prog_11_method_6_code 84 = .ok (.bipush (-2), 2) := by decide +kernel
theorem dw_M_push_86 : decode prog_11_method_6_code 86 = .ok (.ireturn, 1) := by decide +kernel
theorem dw_M_push_72 : decode prog_11_method_6_code 72 = .ok (.iconst (-1), 1) := by decide +kernel
theorem dw_M_push_73 : decode prog_11_method_6_code 73 = .ok (.ireturn, 1) := by decide +kernel
theorem dw_M_push_28 : decode prog_11_method_6_code 28 = .ok (.iload 4, 2) := by decide +kernel
theorem dw_M_push_30 : decode prog_11_method_6_code 30 = .ok (.aload_n 0, 1) := by decide +kernel
theorem dw_M_push_31 : decode prog_11_method_6_code 31 = .ok (.getfield 191, 3) := by decide +kernel
theorem dw_M_push_34 : decode prog_11_method_6_code 34 = .ok (.if_icmp .ge 34, 3) := by decide +kernel
theorem dw_M_push_37 : decode prog_11_method_6_code 37 = .ok (.iload_n 3, 1) := by decide +kernel
theorem dw_M_push_38 : decode prog_11_method_6_code 38 = .ok (.ifCond .eq 22, 3) := by decide +kernel
theorem dw_M_push_61 : decode prog_11_method_6_code 61 = .ok (.istore_n 3, 1) := by decide +kernel
theorem dw_M_push_62 : decode prog_11_method_6_code 62 = .ok (.iinc 4 1, 3) := by decide +kernel
theorem dw_M_push_65 : decode prog_11_method_6_code 65 = .ok (.goto (-37), 3) := by decide +kernel
theorem dw_M_push_60 : decode prog_11_method_6_code 60 = .ok (.iconst 0, 1) := by decide +kernel
theorem dw_M_push_41 : decode prog_11_method_6_code 41 = .ok (.iload_n 1, 1) := by decide +kernel
theorem dw_M_push_42 : decode prog_11_method_6_code 42 = .ok (.ifCond .lt 14, 3) := by decide +kernel
theorem dw_M_push_56 : decode prog_11_method_6_code 56 = .ok (.iconst 1, 1) := by decide +kernel
theorem dw_M_push_57 : decode prog_11_method_6_code 57 = .ok (.goto 4, 3) := by decide +kernel
theorem dw_M_push_45 : decode prog_11_method_6_code 45 = .ok (.aload_n 0, 1) := by decide +kernel
theorem dw_M_push_46 : decode prog_11_method_6_code 46 = .ok (.getfield 75, 3) := by decide +kernel
theorem dw_M_push_49 : decode prog_11_method_6_code 49 = .ok (.iload 4, 2) := by decide +kernel
theorem dw_M_push_51 : decode prog_11_method_6_code 51 = .ok (.iaload, 1) := by decide +kernel
theorem dw_M_push_52 : decode prog_11_method_6_code 52 = .ok (.iload_n 1, 1) := by decide +kernel
theorem dw_M_push_53 : decode prog_11_method_6_code 53 = .ok (.if_icmp .eq 7, 3) := by decide +kernel
theorem dw_M_push_23 : decode prog_11_method_6_code 23 = .ok (.iconst 0, 1) := by decide +kernel
theorem dw_M_push_5 : decode prog_11_method_6_code 5 = .ok (.iload_n 1, 1) := by decide +kernel
theorem dw_M_push_6 : decode prog_11_method_6_code 6 = .ok (.ldc 186, 2) := by decide +kernel
theorem dw_M_push_8 : decode prog_11_method_6_code 8 = .ok (.if_icmp .ge 15, 3) := by decide +kernel
theorem dw_M_push_11 : decode prog_11_method_6_code 11 = .ok (.aload_n 0, 1) := by decide +kernel
theorem dw_M_push_12 : decode prog_11_method_6_code 12 = .ok (.iload_n 2, 1) := by decide +kernel
theorem dw_M_push_13 : decode prog_11_method_6_code 13 = .ok (.invokevirtual 187, 3) := by decide +kernel
theorem dw_M_push_16 : decode prog_11_method_6_code 16 = .ok (.ifCond .eq 7, 3) := by decide +kernel
theorem dw_M_push_19 : decode prog_11_method_6_code 19 = .ok (.iconst 1, 1) := by decide +kernel
theorem dw_M_push_20 : decode prog_11_method_6_code 20 = .ok (.goto 4, 3) := by decide +kernel
theorem dw_M_built_0 : decode prog_11_method_8_code 0 = .ok (.iload_n 1, 1) := by decide +kernel
theorem dw_M_built_1 : decode prog_11_method_8_code 1 = .ok (.ifCond .lt 32, 3) := by decide +kernel
theorem dw_M_built_33 : decode prog_11_method_8_code 33 = .ok (.iconst (-1), 1) := by decide +kernel
theorem dw_M_built_34 : decode prog_11_method_8_code 34 = .ok (.ireturn, 1) := by decide +kernel
theorem dw_M_built_4 : decode prog_11_method_8_code 4 = .ok (.iload_n 1, 1) := by decide +kernel
theorem dw_M_built_5 : decode prog_11_method_8_code 5 = .ok (.aload_n 0, 1) := by decide +kernel
theorem dw_M_built_6 : decode prog_11_method_8_code 6 = .ok (.getfield 173, 3) := by decide +kernel
theorem dw_M_built_9 : decode prog_11_method_8_code 9 = .ok (.if_icmp .ge 24, 3) := by decide +kernel
theorem dw_M_built_12 : decode prog_11_method_8_code 12 = .ok (.aload_n 0, 1) := by decide +kernel
theorem dw_M_built_13 : decode prog_11_method_8_code 13 = .ok (.iconst 0, 1) := by decide +kernel
theorem dw_M_built_14 : decode prog_11_method_8_code 14 = .ok (.invokevirtual 194, 3) := by decide +kernel
theorem dw_M_built_17 : decode prog_11_method_8_code 17 = .ok (.ifCond .eq 16, 3) := by decide +kernel
theorem dw_M_built_20 : decode prog_11_method_8_code 20 = .ok (.aload_n 0, 1) := by decide +kernel
theorem dw_M_built_21 : decode prog_11_method_8_code 21 = .ok (.getfield 191, 3) := by decide +kernel
theorem dw_M_built_24 : decode prog_11_method_8_code 24 = .ok (.aload_n 0, 1) := by decide +kernel
theorem dw_M_built_25 : decode prog_11_method_8_code 25 = .ok (.getfield 7, 3) := by decide +kernel
theorem dw_M_built_28 : decode prog_11_method_8_code 28 = .ok (.iload_n 1, 1) := by decide +kernel
theorem dw_M_built_29 : decode prog_11_method_8_code 29 = .ok (.baload, 1) := by decide +kernel
theorem dw_M_built_30 : decode prog_11_method_8_code 30 = .ok (.if_icmp .eq 5, 3) := by decide +kernel
theorem dw_M_built_35 : decode prog_11_method_8_code 35 = .ok (.aload_n 0, 1) := by decide +kernel
theorem dw_M_built_36 : decode prog_11_method_8_code 36 = .ok (.getfield 177, 3) := by decide +kernel
theorem dw_M_built_39 : decode prog_11_method_8_code 39 = .ok (.sipush 24576, 3) := by decide +kernel
theorem dw_M_built_42 : decode prog_11_method_8_code 42 = .ok (.if_icmp .eq 17, 3) := by decide +kernel
theorem dw_M_built_59 : decode prog_11_method_8_code 59 = .ok (.bipush (-2), 2) := by decide +kernel
theorem dw_M_built_61 : decode prog_11_method_8_code 61 = .ok (.ireturn, 1) := by decide +kernel
theorem dw_M_built_45 : decode prog_11_method_8_code 45 = .ok (.aload_n 0, 1) := by decide +kernel
theorem dw_M_built_46 : decode prog_11_method_8_code 46 = .ok (.getfield 180, 3) := by decide +kernel
theorem dw_M_built_49 : decode prog_11_method_8_code 49 = .ok (.aload_n 0, 1) := by decide +kernel
theorem dw_M_built_50 : decode prog_11_method_8_code 50 = .ok (.getfield 191, 3) := by decide +kernel
theorem dw_M_built_53 : decode prog_11_method_8_code 53 = .ok (.iadd, 1) := by decide +kernel
theorem dw_M_built_54 : decode prog_11_method_8_code 54 = .ok (.ldc 46, 2) := by decide +kernel
theorem dw_M_built_56 : decode prog_11_method_8_code 56 = .ok (.if_icmp .le 6, 3) := by decide +kernel
theorem dw_M_built_62 : decode prog_11_method_8_code 62 = .ok (.aload_n 0, 1) := by decide +kernel
theorem dw_M_built_63 : decode prog_11_method_8_code 63 = .ok (.iconst 2, 1) := by decide +kernel
theorem dw_M_built_64 : decode prog_11_method_8_code 64 = .ok (.iload_n 1, 1) := by decide +kernel
theorem dw_M_built_65 : decode prog_11_method_8_code 65 = .ok (.invokevirtual 198, 3) := by decide +kernel
theorem dw_M_built_68 : decode prog_11_method_8_code 68 = .ok (.istore_n 2, 1) := by decide +kernel
theorem dw_M_built_69 : decode prog_11_method_8_code 69 = .ok (.iconst 0, 1) := by decide +kernel
theorem dw_M_built_70 : decode prog_11_method_8_code 70 = .ok (.istore_n 3, 1) := by decide +kernel
theorem dw_M_built_97 : decode prog_11_method_8_code 97 = .ok (.aload_n 0, 1) := by decide +kernel
theorem dw_M_built_98 : decode prog_11_method_8_code 98 = .ok (.iconst 0, 1) := by decide +kernel
theorem dw_M_built_99 : decode prog_11_method_8_code 99 = .ok (.putfield 191, 3) := by decide +kernel
theorem dw_M_built_102 : decode prog_11_method_8_code 102 = .ok (.iload_n 2, 1) := by decide +kernel
theorem dw_M_built_103 : decode prog_11_method_8_code 103 = .ok (.ireturn, 1) := by decide +kernel
theorem dw_M_built_71 : decode prog_11_method_8_code 71 = .ok (.iload_n 3, 1) := by decide +kernel
theorem dw_M_built_72 : decode prog_11_method_8_code 72 = .ok (.aload_n 0, 1) := by decide +kernel
theorem dw_M_built_73 : decode prog_11_method_8_code 73 = .ok (.getfield 191, 3) := by decide +kernel
theorem dw_M_built_76 : decode prog_11_method_8_code 76 = .ok (.if_icmp .ge 21, 3) := by decide +kernel
theorem dw_M_built_79 : decode prog_11_method_8_code 79 = .ok (.aload_n 0, 1) := by decide +kernel
theorem dw_M_built_80 : decode prog_11_method_8_code 80 = .ok (.iload_n 2, 1) := by decide +kernel
theorem dw_M_built_81 : decode prog_11_method_8_code 81 = .ok (.iconst 0, 1) := by decide +kernel
theorem dw_M_built_82 : decode prog_11_method_8_code 82 = .ok (.aload_n 0, 1) := by decide +kernel
theorem dw_M_built_83 : decode prog_11_method_8_code 83 = .ok (.getfield 78, 3) := by decide +kernel
theorem dw_M_built_86 : decode prog_11_method_8_code 86 = .ok (.iload_n 3, 1) := by decide +kernel
theorem dw_M_built_87 : decode prog_11_method_8_code 87 = .ok (.iaload, 1) := by decide +kernel
theorem dw_M_built_88 : decode prog_11_method_8_code 88 = .ok (.invokevirtual 202, 3) := by decide +kernel
theorem dw_M_built_91 : decode prog_11_method_8_code 91 = .ok (.iinc 3 1, 3) := by decide +kernel
theorem dw_M_built_94 : decode prog_11_method_8_code 94 = .ok (.goto (-23), 3) := by decide +kernel
theorem dw_M_record_0 : decode prog_11_method_10_code 0 = .ok (.aload_n 0, 1) := by decide +kernel
theorem dw_M_record_1 : decode prog_11_method_10_code 1 = .ok (.iconst 1, 1) := by decide +kernel
theorem dw_M_record_2 : decode prog_11_method_10_code 2 = .ok (.invokevirtual 194, 3) := by decide +kernel
theorem dw_M_record_5 : decode prog_11_method_10_code 5 = .ok (.ifCond .ne 5, 3) := by decide +kernel
theorem dw_M_record_10 : decode prog_11_method_10_code 10 = .ok (.aload_n 0, 1) := by decide +kernel
theorem dw_M_record_11 : decode prog_11_method_10_code 11 = .ok (.getfield 177, 3) := by decide +kernel
theorem dw_M_record_14 : decode prog_11_method_10_code 14 = .ok (.sipush 24576, 3) := by decide +kernel
theorem dw_M_record_17 : decode prog_11_method_10_code 17 = .ok (.if_icmp .eq 31, 3) := by decide +kernel
theorem dw_M_record_48 : decode prog_11_method_10_code 48 = .ok (.bipush (-2), 2) := by decide +kernel
theorem dw_M_record_50 : decode prog_11_method_10_code 50 = .ok (.ireturn, 1) := by decide +kernel
theorem dw_M_record_20 : decode prog_11_method_10_code 20 = .ok (.aload_n 0, 1) := by decide +kernel
theorem dw_M_record_21 : decode prog_11_method_10_code 21 = .ok (.getfield 180, 3) := by decide +kernel
theorem dw_M_record_24 : decode prog_11_method_10_code 24 = .ok (.aload_n 0, 1) := by decide +kernel
theorem dw_M_record_25 : decode prog_11_method_10_code 25 = .ok (.getfield 191, 3) := by decide +kernel
theorem dw_M_record_28 : decode prog_11_method_10_code 28 = .ok (.iadd, 1) := by decide +kernel
theorem dw_M_record_29 : decode prog_11_method_10_code 29 = .ok (.ldc 46, 2) := by decide +kernel
theorem dw_M_record_31 : decode prog_11_method_10_code 31 = .ok (.if_icmp .gt 17, 3) := by decide +kernel
theorem dw_M_record_34 : decode prog_11_method_10_code 34 = .ok (.iload_n 1, 1) := by decide +kernel
theorem dw_M_record_35 : decode prog_11_method_10_code 35 = .ok (.ifCond .eq 16, 3) := by decide +kernel
theorem dw_M_record_51 : decode prog_11_method_10_code 51 = .ok (.aload_n 0, 1) := by decide +kernel
theorem dw_M_record_52 : decode prog_11_method_10_code 52 = .ok (.iconst 4, 1) := by decide +kernel
theorem dw_M_record_53 : decode prog_11_method_10_code 53 = .ok (.iconst 0, 1) := by decide +kernel
theorem dw_M_record_54 : decode prog_11_method_10_code 54 = .ok (.invokevirtual 198, 3) := by decide +kernel
theorem dw_M_record_57 : decode prog_11_method_10_code 57 = .ok (.istore_n 2, 1) := by decide +kernel
theorem dw_M_record_58 : decode prog_11_method_10_code 58 = .ok (.iconst 0, 1) := by decide +kernel
theorem dw_M_record_59 : decode prog_11_method_10_code 59 = .ok (.istore_n 3, 1) := by decide +kernel
theorem dw_M_record_91 : decode prog_11_method_10_code 91 = .ok (.iload_n 1, 1) := by decide +kernel
theorem dw_M_record_92 : decode prog_11_method_10_code 92 = .ok (.ifCond .eq 28, 3) := by decide +kernel
theorem dw_M_record_120 : decode prog_11_method_10_code 120 = .ok (.aload_n 0, 1) := by decide +kernel
theorem dw_M_record_121 : decode prog_11_method_10_code 121 = .ok (.iconst 0, 1) := by decide +kernel
theorem dw_M_record_122 : decode prog_11_method_10_code 122 = .ok (.putfield 191, 3) := by decide +kernel
theorem dw_M_record_125 : decode prog_11_method_10_code 125 = .ok (.iload_n 2, 1) := by decide +kernel
theorem dw_M_record_126 : decode prog_11_method_10_code 126 = .ok (.ireturn, 1) := by decide +kernel
theorem dw_M_record_95 : decode prog_11_method_10_code 95 = .ok (.aload_n 0, 1) := by decide +kernel
theorem dw_M_record_96 : decode prog_11_method_10_code 96 = .ok (.getfield 30, 3) := by decide +kernel
theorem dw_M_record_99 : decode prog_11_method_10_code 99 = .ok (.iload_n 2, 1) := by decide +kernel
theorem dw_M_record_100 : decode prog_11_method_10_code 100 = .ok (.aload_n 0, 1) := by decide +kernel
theorem dw_M_record_101 : decode prog_11_method_10_code 101 = .ok (.aload_n 0, 1) := by decide +kernel
theorem dw_M_record_102 : decode prog_11_method_10_code 102 = .ok (.getfield 183, 3) := by decide +kernel
theorem dw_M_record_105 : decode prog_11_method_10_code 105 = .ok (.iconst 0, 1) := by decide +kernel
theorem dw_M_record_106 : decode prog_11_method_10_code 106 = .ok (.invokevirtual 212, 3) := by decide +kernel
theorem dw_M_record_109 : decode prog_11_method_10_code 109 = .ok (.iastore, 1) := by decide +kernel
theorem dw_M_record_110 : decode prog_11_method_10_code 110 = .ok (.aload_n 0, 1) := by decide +kernel
theorem dw_M_record_111 : decode prog_11_method_10_code 111 = .ok (.dup, 1) := by decide +kernel
theorem dw_M_record_112 : decode prog_11_method_10_code 112 = .ok (.getfield 209, 3) := by decide +kernel
theorem dw_M_record_115 : decode prog_11_method_10_code 115 = .ok (.iconst 1, 1) := by decide +kernel
theorem dw_M_record_116 : decode prog_11_method_10_code 116 = .ok (.iadd, 1) := by decide +kernel
theorem dw_M_record_117 : decode prog_11_method_10_code 117 = .ok (.putfield 209, 3) := by decide +kernel
theorem dw_M_record_60 : decode prog_11_method_10_code 60 = .ok (.iload_n 3, 1) := by decide +kernel
theorem dw_M_record_61 : decode prog_11_method_10_code 61 = .ok (.aload_n 0, 1) := by decide +kernel
theorem dw_M_record_62 : decode prog_11_method_10_code 62 = .ok (.getfield 191, 3) := by decide +kernel
theorem dw_M_record_65 : decode prog_11_method_10_code 65 = .ok (.if_icmp .ge 26, 3) := by decide +kernel
theorem dw_M_record_68 : decode prog_11_method_10_code 68 = .ok (.aload_n 0, 1) := by decide +kernel
theorem dw_M_record_69 : decode prog_11_method_10_code 69 = .ok (.iload_n 2, 1) := by decide +kernel
theorem dw_M_record_70 : decode prog_11_method_10_code 70 = .ok (.aload_n 0, 1) := by decide +kernel
theorem dw_M_record_71 : decode prog_11_method_10_code 71 = .ok (.getfield 75, 3) := by decide +kernel
theorem dw_M_record_74 : decode prog_11_method_10_code 74 = .ok (.iload_n 3, 1) := by decide +kernel
theorem dw_M_record_75 : decode prog_11_method_10_code 75 = .ok (.iaload, 1) := by decide +kernel
theorem dw_M_record_76 : decode prog_11_method_10_code 76 = .ok (.aload_n 0, 1) := by decide +kernel
theorem dw_M_record_77 : decode prog_11_method_10_code 77 = .ok (.getfield 78, 3) := by decide +kernel
theorem dw_M_record_80 : decode prog_11_method_10_code 80 = .ok (.iload_n 3, 1) := by decide +kernel
theorem dw_M_record_81 : decode prog_11_method_10_code 81 = .ok (.iaload, 1) := by decide +kernel
theorem dw_M_record_82 : decode prog_11_method_10_code 82 = .ok (.invokevirtual 202, 3) := by decide +kernel
theorem dw_M_record_85 : decode prog_11_method_10_code 85 = .ok (.iinc 3 1, 3) := by decide +kernel
theorem dw_M_record_88 : decode prog_11_method_10_code 88 = .ok (.goto (-28), 3) := by decide +kernel
theorem dw_M_record_38 : decode prog_11_method_10_code 38 = .ok (.aload_n 0, 1) := by decide +kernel
theorem dw_M_record_39 : decode prog_11_method_10_code 39 = .ok (.getfield 209, 3) := by decide +kernel
theorem dw_M_record_42 : decode prog_11_method_10_code 42 = .ok (.sipush 512, 3) := by decide +kernel
theorem dw_M_record_45 : decode prog_11_method_10_code 45 = .ok (.if_icmp .ne 6, 3) := by decide +kernel
theorem dw_M_record_8 : decode prog_11_method_10_code 8 = .ok (.iconst (-1), 1) := by decide +kernel
theorem dw_M_record_9 : decode prog_11_method_10_code 9 = .ok (.ireturn, 1) := by decide +kernel
theorem dw_M_function_0 : decode prog_11_method_11_code 0 = .ok (.aload_n 0, 1) := by decide +kernel
theorem dw_M_function_1 : decode prog_11_method_11_code 1 = .ok (.iload_n 1, 1) := by decide +kernel
theorem dw_M_function_2 : decode prog_11_method_11_code 2 = .ok (.invokevirtual 187, 3) := by decide +kernel
theorem dw_M_function_5 : decode prog_11_method_11_code 5 = .ok (.ifCond .eq 11, 3) := by decide +kernel
theorem dw_M_function_16 : decode prog_11_method_11_code 16 = .ok (.iconst (-1), 1) := by decide +kernel
theorem dw_M_function_17 : decode prog_11_method_11_code 17 = .ok (.ireturn, 1) := by decide +kernel
theorem dw_M_function_8 : decode prog_11_method_11_code 8 = .ok (.aload_n 0, 1) := by decide +kernel
theorem dw_M_function_9 : decode prog_11_method_11_code 9 = .ok (.iload_n 2, 1) := by decide +kernel
theorem dw_M_function_10 : decode prog_11_method_11_code 10 = .ok (.invokevirtual 187, 3) := by decide +kernel
theorem dw_M_function_13 : decode prog_11_method_11_code 13 = .ok (.ifCond .ne 5, 3) := by decide +kernel
theorem dw_M_function_18 : decode prog_11_method_11_code 18 = .ok (.aload_n 0, 1) := by decide +kernel
theorem dw_M_function_19 : decode prog_11_method_11_code 19 = .ok (.getfield 177, 3) := by decide +kernel
theorem dw_M_function_22 : decode prog_11_method_11_code 22 = .ok (.sipush 24576, 3) := by decide +kernel
theorem dw_M_function_25 : decode prog_11_method_11_code 25 = .ok (.if_icmp .eq 14, 3) := by decide +kernel
theorem dw_M_function_39 : decode prog_11_method_11_code 39 = .ok (.bipush (-2), 2) := by decide +kernel
theorem dw_M_function_41 : decode prog_11_method_11_code 41 = .ok (.ireturn, 1) := by decide +kernel
theorem dw_M_function_28 : decode prog_11_method_11_code 28 = .ok (.aload_n 0, 1) := by decide +kernel
theorem dw_M_function_29 : decode prog_11_method_11_code 29 = .ok (.getfield 180, 3) := by decide +kernel
theorem dw_M_function_32 : decode prog_11_method_11_code 32 = .ok (.iconst 2, 1) := by decide +kernel
theorem dw_M_function_33 : decode prog_11_method_11_code 33 = .ok (.iadd, 1) := by decide +kernel
theorem dw_M_function_34 : decode prog_11_method_11_code 34 = .ok (.ldc 46, 2) := by decide +kernel
theorem dw_M_function_36 : decode prog_11_method_11_code 36 = .ok (.if_icmp .le 6, 3) := by decide +kernel
theorem dw_M_function_42 : decode prog_11_method_11_code 42 = .ok (.aload_n 0, 1) := by decide +kernel
theorem dw_M_function_43 : decode prog_11_method_11_code 43 = .ok (.iconst 3, 1) := by decide +kernel
theorem dw_M_function_44 : decode prog_11_method_11_code 44 = .ok (.iconst 0, 1) := by decide +kernel
theorem dw_M_function_45 : decode prog_11_method_11_code 45 = .ok (.invokevirtual 198, 3) := by decide +kernel
theorem dw_M_function_48 : decode prog_11_method_11_code 48 = .ok (.istore_n 3, 1) := by decide +kernel
theorem dw_M_function_49 : decode prog_11_method_11_code 49 = .ok (.aload_n 0, 1) := by decide +kernel
theorem dw_M_function_50 : decode prog_11_method_11_code 50 = .ok (.iload_n 3, 1) := by decide +kernel
theorem dw_M_function_51 : decode prog_11_method_11_code 51 = .ok (.iconst 0, 1) := by decide +kernel
theorem dw_M_function_52 : decode prog_11_method_11_code 52 = .ok (.iload_n 1, 1) := by decide +kernel
theorem dw_M_function_53 : decode prog_11_method_11_code 53 = .ok (.invokevirtual 202, 3) := by decide +kernel
theorem dw_M_function_56 : decode prog_11_method_11_code 56 = .ok (.aload_n 0, 1) := by decide +kernel
theorem dw_M_function_57 : decode prog_11_method_11_code 57 = .ok (.iload_n 3, 1) := by decide +kernel
theorem dw_M_function_58 : decode prog_11_method_11_code 58 = .ok (.iconst 0, 1) := by decide +kernel
theorem dw_M_function_59 : decode prog_11_method_11_code 59 = .ok (.iload_n 2, 1) := by decide +kernel
theorem dw_M_function_60 : decode prog_11_method_11_code 60 = .ok (.invokevirtual 202, 3) := by decide +kernel
theorem dw_M_function_63 : decode prog_11_method_11_code 63 = .ok (.iload_n 3, 1) := by decide +kernel
theorem dw_M_function_64 : decode prog_11_method_11_code 64 = .ok (.ireturn, 1) := by decide +kernel
theorem dw_M_variable_0 : decode prog_11_method_13_code 0 = .ok (.iload_n 2, 1) := by decide +kernel
theorem dw_M_variable_1 : decode prog_11_method_13_code 1 = .ok (.ifCond .lt 20, 3) := by decide +kernel
theorem dw_M_variable_22 : decode prog_11_method_13_code 22 = .ok (.istore_n 3, 1) := by decide +kernel
theorem dw_M_variable_23 : decode prog_11_method_13_code 23 = .ok (.iconst 0, 1) := by decide +kernel
theorem dw_M_variable_24 : decode prog_11_method_13_code 24 = .ok (.istore 4, 2) := by decide +kernel
theorem dw_M_variable_77 : decode prog_11_method_13_code 77 = .ok (.iload_n 3, 1) := by decide +kernel
theorem dw_M_variable_78 : decode prog_11_method_13_code 78 = .ok (.ifCond .ne 5, 3) := by decide +kernel
theorem dw_M_variable_83 : decode prog_11_method_13_code 83 = .ok (.aload_n 0, 1) := by decide +kernel
theorem dw_M_variable_84 : decode prog_11_method_13_code 84 = .ok (.getfield 177, 3) := by decide +kernel
theorem dw_M_variable_87 : decode prog_11_method_13_code 87 = .ok (.sipush 24576, 3) := by decide +kernel
theorem dw_M_variable_90 : decode prog_11_method_13_code 90 = .ok (.if_icmp .ne 6, 3) := by decide +kernel
theorem dw_M_variable_96 : decode prog_11_method_13_code 96 = .ok (.aload_n 0, 1) := by decide +kernel
theorem dw_M_variable_97 : decode prog_11_method_13_code 97 = .ok (.iconst 0, 1) := by decide +kernel
theorem dw_M_variable_98 : decode prog_11_method_13_code 98 = .ok (.iconst 0, 1) := by decide +kernel
theorem dw_M_variable_99 : decode prog_11_method_13_code 99 = .ok (.invokevirtual 198, 3) := by decide +kernel
theorem dw_M_variable_102 : decode prog_11_method_13_code 102 = .ok (.istore 4, 2) := by decide +kernel
theorem dw_M_variable_104 : decode prog_11_method_13_code 104 = .ok (.aload_n 0, 1) := by decide +kernel
theorem dw_M_variable_105 : decode prog_11_method_13_code 105 = .ok (.getfield 36, 3) := by decide +kernel
theorem dw_M_variable_108 : decode prog_11_method_13_code 108 = .ok (.iload 4, 2) := by decide +kernel
theorem dw_M_variable_110 : decode prog_11_method_13_code 110 = .ok (.iload_n 1, 1) := by decide +kernel
theorem dw_M_variable_111 : decode prog_11_method_13_code 111 = .ok (.bastore, 1) := by decide +kernel
theorem dw_M_variable_112 : decode prog_11_method_13_code 112 = .ok (.aload_n 0, 1) := by decide +kernel
theorem dw_M_variable_113 : decode prog_11_method_13_code 113 = .ok (.getfield 40, 3) := by decide +kernel
theorem dw_M_variable_116 : decode prog_11_method_13_code 116 = .ok (.iload 4, 2) := by decide +kernel
theorem dw_M_variable_118 : decode prog_11_method_13_code 118 = .ok (.iload_n 2, 1) := by decide +kernel
theorem dw_M_variable_119 : decode prog_11_method_13_code 119 = .ok (.iastore, 1) := by decide +kernel
theorem dw_M_variable_120 : decode prog_11_method_13_code 120 = .ok (.iload 4, 2) := by decide +kernel
theorem dw_M_variable_122 : decode prog_11_method_13_code 122 = .ok (.ireturn, 1) := by decide +kernel
theorem dw_M_variable_93 : decode prog_11_method_13_code 93 = .ok (.bipush (-2), 2) := by decide +kernel
theorem dw_M_variable_95 : decode prog_11_method_13_code 95 = .ok (.ireturn, 1) := by decide +kernel
theorem dw_M_variable_81 : decode prog_11_method_13_code 81 = .ok (.iconst (-1), 1) := by decide +kernel
theorem dw_M_variable_82 : decode prog_11_method_13_code 82 = .ok (.ireturn, 1) := by decide +kernel
theorem dw_M_variable_26 : decode prog_11_method_13_code 26 = .ok (.iload 4, 2) := by decide +kernel
theorem dw_M_variable_28 : decode prog_11_method_13_code 28 = .ok (.bipush 31, 2) := by decide +kernel
theorem dw_M_variable_30 : decode prog_11_method_13_code 30 = .ok (.if_icmp .ge 47, 3) := by decide +kernel
theorem dw_M_variable_33 : decode prog_11_method_13_code 33 = .ok (.iload_n 3, 1) := by decide +kernel
theorem dw_M_variable_34 : decode prog_11_method_13_code 34 = .ok (.ifCond .eq 35, 3) := by decide +kernel
theorem dw_M_variable_70 : decode prog_11_method_13_code 70 = .ok (.istore_n 3, 1) := by decide +kernel
theorem dw_M_variable_71 : decode prog_11_method_13_code 71 = .ok (.iinc 4 1, 3) := by decide +kernel
theorem dw_M_variable_74 : decode prog_11_method_13_code 74 = .ok (.goto (-48), 3) := by decide +kernel
theorem dw_M_variable_69 : decode prog_11_method_13_code 69 = .ok (.iconst 0, 1) := by decide +kernel
theorem dw_M_variable_37 : decode prog_11_method_13_code 37 = .ok (.iload_n 2, 1) := by decide +kernel
theorem dw_M_variable_38 : decode prog_11_method_13_code 38 = .ok (.iload 4, 2) := by decide +kernel
theorem dw_M_variable_40 : decode prog_11_method_13_code 40 = .ok (.ishr, 1) := by decide +kernel
theorem dw_M_variable_41 : decode prog_11_method_13_code 41 = .ok (.iconst 1, 1) := by decide +kernel
theorem dw_M_variable_42 : decode prog_11_method_13_code 42 = .ok (.iand, 1) := by decide +kernel
theorem dw_M_variable_43 : decode prog_11_method_13_code 43 = .ok (.ifCond .eq 22, 3) := by decide +kernel
theorem dw_M_variable_65 : decode prog_11_method_13_code 65 = .ok (.iconst 1, 1) := by decide +kernel
theorem dw_M_variable_66 : decode prog_11_method_13_code 66 = .ok (.goto 4, 3) := by decide +kernel
theorem dw_M_variable_46 : decode prog_11_method_13_code 46 = .ok (.iload 4, 2) := by decide +kernel
theorem dw_M_variable_48 : decode prog_11_method_13_code 48 = .ok (.aload_n 0, 1) := by decide +kernel
theorem dw_M_variable_49 : decode prog_11_method_13_code 49 = .ok (.getfield 173, 3) := by decide +kernel
theorem dw_M_variable_52 : decode prog_11_method_13_code 52 = .ok (.if_icmp .ge 17, 3) := by decide +kernel
theorem dw_M_variable_55 : decode prog_11_method_13_code 55 = .ok (.aload_n 0, 1) := by decide +kernel
theorem dw_M_variable_56 : decode prog_11_method_13_code 56 = .ok (.getfield 7, 3) := by decide +kernel
theorem dw_M_variable_59 : decode prog_11_method_13_code 59 = .ok (.iload 4, 2) := by decide +kernel
theorem dw_M_variable_61 : decode prog_11_method_13_code 61 = .ok (.baload, 1) := by decide +kernel
theorem dw_M_variable_62 : decode prog_11_method_13_code 62 = .ok (.ifCond .ne 7, 3) := by decide +kernel
theorem dw_M_variable_21 : decode prog_11_method_13_code 21 = .ok (.iconst 0, 1) := by decide +kernel
theorem dw_M_variable_4 : decode prog_11_method_13_code 4 = .ok (.iload_n 1, 1) := by decide +kernel
theorem dw_M_variable_5 : decode prog_11_method_13_code 5 = .ok (.ifCond .eq 12, 3) := by decide +kernel
theorem dw_M_variable_17 : decode prog_11_method_13_code 17 = .ok (.iconst 1, 1) := by decide +kernel
theorem dw_M_variable_18 : decode prog_11_method_13_code 18 = .ok (.goto 4, 3) := by decide +kernel
theorem dw_M_variable_8 : decode prog_11_method_13_code 8 = .ok (.aload_n 0, 1) := by decide +kernel
theorem dw_M_variable_9 : decode prog_11_method_13_code 9 = .ok (.iload_n 2, 1) := by decide +kernel
theorem dw_M_variable_10 : decode prog_11_method_13_code 10 = .ok (.invokevirtual 216, 3) := by decide +kernel
theorem dw_M_variable_13 : decode prog_11_method_13_code 13 = .ok (.iload_n 2, 1) := by decide +kernel
theorem dw_M_variable_14 : decode prog_11_method_13_code 14 = .ok (.if_icmp .ne 7, 3) := by decide +kernel
theorem dw_M_rigid_0 : decode prog_11_method_14_code 0 = .ok (.aload_n 0, 1) := by decide +kernel
theorem dw_M_rigid_1 : decode prog_11_method_14_code 1 = .ok (.getfield 177, 3) := by decide +kernel
theorem dw_M_rigid_4 : decode prog_11_method_14_code 4 = .ok (.sipush 24576, 3) := by decide +kernel
theorem dw_M_rigid_7 : decode prog_11_method_14_code 7 = .ok (.if_icmp .ne 6, 3) := by decide +kernel
theorem dw_M_rigid_13 : decode prog_11_method_14_code 13 = .ok (.aload_n 0, 1) := by decide +kernel
theorem dw_M_rigid_14 : decode prog_11_method_14_code 14 = .ok (.iconst 1, 1) := by decide +kernel
theorem dw_M_rigid_15 : decode prog_11_method_14_code 15 = .ok (.iconst 0, 1) := by decide +kernel
theorem dw_M_rigid_16 : decode prog_11_method_14_code 16 = .ok (.invokevirtual 198, 3) := by decide +kernel
theorem dw_M_rigid_19 : decode prog_11_method_14_code 19 = .ok (.istore_n 2, 1) := by decide +kernel
theorem dw_M_rigid_20 : decode prog_11_method_14_code 20 = .ok (.aload_n 0, 1) := by decide +kernel
theorem dw_M_rigid_21 : decode prog_11_method_14_code 21 = .ok (.getfield 36, 3) := by decide +kernel
theorem dw_M_rigid_24 : decode prog_11_method_14_code 24 = .ok (.iload_n 2, 1) := by decide +kernel
theorem dw_M_rigid_25 : decode prog_11_method_14_code 25 = .ok (.iload_n 1, 1) := by decide +kernel
theorem dw_M_rigid_26 : decode prog_11_method_14_code 26 = .ok (.bastore, 1) := by decide +kernel
theorem dw_M_rigid_27 : decode prog_11_method_14_code 27 = .ok (.iload_n 2, 1) := by decide +kernel
theorem dw_M_rigid_28 : decode prog_11_method_14_code 28 = .ok (.ireturn, 1) := by decide +kernel
theorem dw_M_rigid_10 : decode prog_11_method_14_code 10 = .ok (.bipush (-2), 2) := by decide +kernel
theorem dw_M_rigid_12 : decode prog_11_method_14_code 12 = .ok (.ireturn, 1) := by decide +kernel
theorem dw_M_level_0 : decode prog_11_method_15_code 0 = .ok (.iload_n 1, 1) := by decide +kernel
theorem dw_M_level_1 : decode prog_11_method_15_code 1 = .ok (.ifCond .lt 9, 3) := by decide +kernel
theorem dw_M_level_10 : decode prog_11_method_15_code 10 = .ok (.iconst (-1), 1) := by decide +kernel
theorem dw_M_level_11 : decode prog_11_method_15_code 11 = .ok (.ireturn, 1) := by decide +kernel
theorem dw_M_level_4 : decode prog_11_method_15_code 4 = .ok (.iload_n 1, 1) := by decide +kernel
theorem dw_M_level_5 : decode prog_11_method_15_code 5 = .ok (.bipush 100, 2) := by decide +kernel
theorem dw_M_level_7 : decode prog_11_method_15_code 7 = .ok (.if_icmp .le 5, 3) := by decide +kernel
theorem dw_M_level_12 : decode prog_11_method_15_code 12 = .ok (.aload_n 0, 1) := by decide +kernel
theorem dw_M_level_13 : decode prog_11_method_15_code 13 = .ok (.getfield 183, 3) := by decide +kernel
theorem dw_M_level_16 : decode prog_11_method_15_code 16 = .ok (.istore_n 2, 1) := by decide +kernel
theorem dw_M_level_17 : decode prog_11_method_15_code 17 = .ok (.aload_n 0, 1) := by decide +kernel
theorem dw_M_level_18 : decode prog_11_method_15_code 18 = .ok (.iload_n 1, 1) := by decide +kernel
theorem dw_M_level_19 : decode prog_11_method_15_code 19 = .ok (.putfield 183, 3) := by decide +kernel
theorem dw_M_level_22 : decode prog_11_method_15_code 22 = .ok (.iload_n 2, 1) := by decide +kernel
theorem dw_M_level_23 : decode prog_11_method_15_code 23 = .ok (.ireturn, 1) := by decide +kernel
theorem dw_M_unify_0 : decode prog_11_method_43_code 0 = .ok (.aload_n 0, 1) := by decide +kernel
theorem dw_M_unify_1 : decode prog_11_method_43_code 1 = .ok (.iload_n 1, 1) := by decide +kernel
theorem dw_M_unify_2 : decode prog_11_method_43_code 2 = .ok (.invokevirtual 187, 3) := by decide +kernel
theorem dw_M_unify_5 : decode prog_11_method_43_code 5 = .ok (.ifCond .eq 11, 3) := by decide +kernel
theorem dw_M_unify_16 : decode prog_11_method_43_code 16 = .ok (.iconst 0, 1) := by decide +kernel
theorem dw_M_unify_17 : decode prog_11_method_43_code 17 = .ok (.ireturn, 1) := by decide +kernel
theorem dw_M_unify_8 : decode prog_11_method_43_code 8 = .ok (.aload_n 0, 1) := by decide +kernel
theorem dw_M_unify_9 : decode prog_11_method_43_code 9 = .ok (.iload_n 2, 1) := by decide +kernel
theorem dw_M_unify_10 : decode prog_11_method_43_code 10 = .ok (.invokevirtual 187, 3) := by decide +kernel
theorem dw_M_unify_13 : decode prog_11_method_43_code 13 = .ok (.ifCond .ne 5, 3) := by decide +kernel
theorem dw_M_unify_18 : decode prog_11_method_43_code 18 = .ok (.aload_n 0, 1) := by decide +kernel
theorem dw_M_unify_19 : decode prog_11_method_43_code 19 = .ok (.getfield 206, 3) := by decide +kernel
theorem dw_M_unify_22 : decode prog_11_method_43_code 22 = .ok (.istore_n 3, 1) := by decide +kernel
theorem dw_M_unify_23 : decode prog_11_method_43_code 23 = .ok (.aload_n 0, 1) := by decide +kernel
theorem dw_M_unify_24 : decode prog_11_method_43_code 24 = .ok (.getfield 254, 3) := by decide +kernel
theorem dw_M_unify_27 : decode prog_11_method_43_code 27 = .ok (.istore 4, 2) := by decide +kernel
theorem dw_M_unify_29 : decode prog_11_method_43_code 29 = .ok (.aload_n 0, 1) := by decide +kernel
theorem dw_M_unify_30 : decode prog_11_method_43_code 30 = .ok (.invokevirtual 306, 3) := by decide +kernel
theorem dw_M_same_0 : decode prog_11_method_46_code 0 = .ok (.aload_n 0, 1) := by decide +kernel
theorem dw_M_same_1 : decode prog_11_method_46_code 1 = .ok (.iload_n 1, 1) := by decide +kernel
theorem dw_M_same_2 : decode prog_11_method_46_code 2 = .ok (.lload_n 2, 1) := by decide +kernel
theorem dw_M_same_3 : decode prog_11_method_46_code 3 = .ok (.invokevirtual 325, 3) := by decide +kernel
theorem dw_M_same_6 : decode prog_11_method_46_code 6 = .ok (.istore 7, 2) := by decide +kernel
theorem dw_M_same_8 : decode prog_11_method_46_code 8 = .ok (.aload_n 0, 1) := by decide +kernel
theorem dw_M_same_9 : decode prog_11_method_46_code 9 = .ok (.iload 4, 2) := by decide +kernel
theorem dw_M_same_11 : decode prog_11_method_46_code 11 = .ok (.lload 5, 2) := by decide +kernel
theorem dw_M_same_13 : decode prog_11_method_46_code 13 = .ok (.invokevirtual 325, 3) := by decide +kernel
theorem dw_M_same_16 : decode prog_11_method_46_code 16 = .ok (.istore 8, 2) := by decide +kernel
theorem dw_M_same_18 : decode prog_11_method_46_code 18 = .ok (.iload 7, 2) := by decide +kernel
theorem dw_M_same_20 : decode prog_11_method_46_code 20 = .ok (.ifCond .lt 23, 3) := by decide +kernel
theorem dw_M_same_43 : decode prog_11_method_46_code 43 = .ok (.iconst 0, 1) := by decide +kernel
theorem dw_M_same_44 : decode prog_11_method_46_code 44 = .ok (.ireturn, 1) := by decide +kernel
theorem dw_M_same_23 : decode prog_11_method_46_code 23 = .ok (.iload 8, 2) := by decide +kernel
theorem dw_M_same_25 : decode prog_11_method_46_code 25 = .ok (.ifCond .lt 18, 3) := by decide +kernel
theorem dw_M_same_28 : decode prog_11_method_46_code 28 = .ok (.aload_n 0, 1) := by decide +kernel
theorem dw_M_same_29 : decode prog_11_method_46_code 29 = .ok (.iload 7, 2) := by decide +kernel
theorem dw_M_same_31 : decode prog_11_method_46_code 31 = .ok (.iload 8, 2) := by decide +kernel
theorem dw_M_same_33 : decode prog_11_method_46_code 33 = .ok (.invokevirtual 329, 3) := by decide +kernel
theorem dw_M_look_0 : decode prog_11_method_47_code 0 = .ok (.aload_n 0, 1) := by decide +kernel
theorem dw_M_look_1 : decode prog_11_method_47_code 1 = .ok (.iload_n 1, 1) := by decide +kernel
theorem dw_M_look_2 : decode prog_11_method_47_code 2 = .ok (.lload_n 2, 1) := by decide +kernel
theorem dw_M_look_3 : decode prog_11_method_47_code 3 = .ok (.invokevirtual 325, 3) := by decide +kernel
theorem dw_M_look_6 : decode prog_11_method_47_code 6 = .ok (.istore 5, 2) := by decide +kernel
theorem dw_M_look_8 : decode prog_11_method_47_code 8 = .ok (.iload 5, 2) := by decide +kernel
theorem dw_M_look_10 : decode prog_11_method_47_code 10 = .ok (.ifCond .ge 5, 3) := by decide +kernel
theorem dw_M_look_15 : decode prog_11_method_47_code 15 = .ok (.aload_n 0, 1) := by decide +kernel
theorem dw_M_look_16 : decode prog_11_method_47_code 16 = .ok (.getfield 16, 3) := by decide +kernel
theorem dw_M_look_19 : decode prog_11_method_47_code 19 = .ok (.iload 5, 2) := by decide +kernel
theorem dw_M_look_21 : decode prog_11_method_47_code 21 = .ok (.baload, 1) := by decide +kernel
theorem dw_M_look_22 : decode prog_11_method_47_code 22 = .ok (.iconst 4, 1) := by decide +kernel
theorem dw_M_look_23 : decode prog_11_method_47_code 23 = .ok (.if_icmp .ne 13, 3) := by decide +kernel
theorem dw_M_look_37 : decode prog_11_method_47_code 37 = .ok (.istore 6, 2) := by decide +kernel
theorem dw_M_look_39 : decode prog_11_method_47_code 39 = .ok (.iload 4, 2) := by decide +kernel
theorem dw_M_look_41 : decode prog_11_method_47_code 41 = .ok (.tableswitch 182 0 6 #[43, 51, 74, 81, 96, 134, 156], 43) := by decide +kernel
theorem dw_M_look_223 : decode prog_11_method_47_code 223 = .ok (.iconst (-1), 1) := by decide +kernel
theorem dw_M_look_224 : decode prog_11_method_47_code 224 = .ok (.ireturn, 1) := by decide +kernel
theorem dw_M_look_84 : decode prog_11_method_47_code 84 = .ok (.aload_n 0, 1) := by decide +kernel
theorem dw_M_look_85 : decode prog_11_method_47_code 85 = .ok (.getfield 16, 3) := by decide +kernel
theorem dw_M_look_88 : decode prog_11_method_47_code 88 = .ok (.iload 5, 2) := by decide +kernel
theorem dw_M_look_90 : decode prog_11_method_47_code 90 = .ok (.baload, 1) := by decide +kernel
theorem dw_M_look_91 : decode prog_11_method_47_code 91 = .ok (.ireturn, 1) := by decide +kernel
theorem dw_M_look_92 : decode prog_11_method_47_code 92 = .ok (.aload_n 0, 1) := by decide +kernel
theorem dw_M_look_93 : decode prog_11_method_47_code 93 = .ok (.getfield 16, 3) := by decide +kernel
theorem dw_M_look_96 : decode prog_11_method_47_code 96 = .ok (.iload 5, 2) := by decide +kernel
theorem dw_M_look_98 : decode prog_11_method_47_code 98 = .ok (.baload, 1) := by decide +kernel
theorem dw_M_look_99 : decode prog_11_method_47_code 99 = .ok (.iconst 2, 1) := by decide +kernel
theorem dw_M_look_100 : decode prog_11_method_47_code 100 = .ok (.if_icmp .ne 13, 3) := by decide +kernel
theorem dw_M_look_113 : decode prog_11_method_47_code 113 = .ok (.iconst (-1), 1) := by decide +kernel
theorem dw_M_look_114 : decode prog_11_method_47_code 114 = .ok (.ireturn, 1) := by decide +kernel
theorem dw_M_look_103 : decode prog_11_method_47_code 103 = .ok (.aload_n 0, 1) := by decide +kernel
theorem dw_M_look_104 : decode prog_11_method_47_code 104 = .ok (.getfield 19, 3) := by decide +kernel
theorem dw_M_look_107 : decode prog_11_method_47_code 107 = .ok (.iload 5, 2) := by decide +kernel
theorem dw_M_look_109 : decode prog_11_method_47_code 109 = .ok (.iaload, 1) := by decide +kernel
theorem dw_M_look_110 : decode prog_11_method_47_code 110 = .ok (.goto 4, 3) := by decide +kernel
theorem dw_M_look_115 : decode prog_11_method_47_code 115 = .ok (.aload_n 0, 1) := by decide +kernel
theorem dw_M_look_116 : decode prog_11_method_47_code 116 = .ok (.iload 5, 2) := by decide +kernel
theorem dw_M_look_118 : decode prog_11_method_47_code 118 = .ok (.invokevirtual 332, 3) := by decide +kernel
theorem dw_M_look_122 : decode prog_11_method_47_code 122 = .ok (.aload_n 0, 1) := by decide +kernel
theorem dw_M_look_123 : decode prog_11_method_47_code 123 = .ok (.iload 5, 2) := by decide +kernel
theorem dw_M_look_125 : decode prog_11_method_47_code 125 = .ok (.invokevirtual 335, 3) := by decide +kernel
theorem dw_M_look_137 : decode prog_11_method_47_code 137 = .ok (.aload_n 0, 1) := by decide +kernel
theorem dw_M_look_138 : decode prog_11_method_47_code 138 = .ok (.getfield 16, 3) := by decide +kernel
theorem dw_M_look_141 : decode prog_11_method_47_code 141 = .ok (.iload 5, 2) := by decide +kernel
theorem dw_M_look_143 : decode prog_11_method_47_code 143 = .ok (.baload, 1) := by decide +kernel
theorem dw_M_look_144 : decode prog_11_method_47_code 144 = .ok (.iconst 2, 1) := by decide +kernel
theorem dw_M_look_145 : decode prog_11_method_47_code 145 = .ok (.if_icmp .ge 13, 3) := by decide +kernel
theorem dw_M_look_158 : decode prog_11_method_47_code 158 = .ok (.iload 6, 2) := by decide +kernel
theorem dw_M_look_160 : decode prog_11_method_47_code 160 = .ok (.ifCond .lt 13, 3) := by decide +kernel
theorem dw_M_look_173 : decode prog_11_method_47_code 173 = .ok (.iconst (-1), 1) := by decide +kernel
theorem dw_M_look_174 : decode prog_11_method_47_code 174 = .ok (.ireturn, 1) := by decide +kernel
theorem dw_M_look_163 : decode prog_11_method_47_code 163 = .ok (.aload_n 0, 1) := by decide +kernel
theorem dw_M_look_164 : decode prog_11_method_47_code 164 = .ok (.getfield 53, 3) := by decide +kernel
theorem dw_M_look_167 : decode prog_11_method_47_code 167 = .ok (.iload 6, 2) := by decide +kernel
theorem dw_M_look_169 : decode prog_11_method_47_code 169 = .ok (.baload, 1) := by decide +kernel
theorem dw_M_look_170 : decode prog_11_method_47_code 170 = .ok (.goto 4, 3) := by decide +kernel
theorem dw_M_look_148 : decode prog_11_method_47_code 148 = .ok (.aload_n 0, 1) := by decide +kernel
theorem dw_M_look_149 : decode prog_11_method_47_code 149 = .ok (.getfield 33, 3) := by decide +kernel
theorem dw_M_look_152 : decode prog_11_method_47_code 152 = .ok (.iload 5, 2) := by decide +kernel
theorem dw_M_look_154 : decode prog_11_method_47_code 154 = .ok (.baload, 1) := by decide +kernel
theorem dw_M_look_155 : decode prog_11_method_47_code 155 = .ok (.goto 19, 3) := by decide +kernel
theorem dw_M_look_175 : decode prog_11_method_47_code 175 = .ok (.aload_n 0, 1) := by decide +kernel
theorem dw_M_look_176 : decode prog_11_method_47_code 176 = .ok (.getfield 16, 3) := by decide +kernel
theorem dw_M_look_179 : decode prog_11_method_47_code 179 = .ok (.iload 5, 2) := by decide +kernel
theorem dw_M_look_181 : decode prog_11_method_47_code 181 = .ok (.baload, 1) := by decide +kernel
theorem dw_M_look_182 : decode prog_11_method_47_code 182 = .ok (.ifCond .ne 13, 3) := by decide +kernel
theorem dw_M_look_195 : decode prog_11_method_47_code 195 = .ok (.iconst (-1), 1) := by decide +kernel
theorem dw_M_look_196 : decode prog_11_method_47_code 196 = .ok (.ireturn, 1) := by decide +kernel
theorem dw_M_look_185 : decode prog_11_method_47_code 185 = .ok (.aload_n 0, 1) := by decide +kernel
theorem dw_M_look_186 : decode prog_11_method_47_code 186 = .ok (.getfield 40, 3) := by decide +kernel
theorem dw_M_look_189 : decode prog_11_method_47_code 189 = .ok (.iload 5, 2) := by decide +kernel
theorem dw_M_look_191 : decode prog_11_method_47_code 191 = .ok (.iaload, 1) := by decide +kernel
theorem dw_M_look_192 : decode prog_11_method_47_code 192 = .ok (.goto 4, 3) := by decide +kernel
theorem dw_M_look_197 : decode prog_11_method_47_code 197 = .ok (.aload_n 0, 1) := by decide +kernel
theorem dw_M_look_198 : decode prog_11_method_47_code 198 = .ok (.getfield 16, 3) := by decide +kernel
theorem dw_M_look_201 : decode prog_11_method_47_code 201 = .ok (.iload 5, 2) := by decide +kernel
theorem dw_M_look_203 : decode prog_11_method_47_code 203 = .ok (.baload, 1) := by decide +kernel
theorem dw_M_look_204 : decode prog_11_method_47_code 204 = .ok (.iconst 4, 1) := by decide +kernel
theorem dw_M_look_205 : decode prog_11_method_47_code 205 = .ok (.if_icmp .eq 7, 3) := by decide +kernel
theorem dw_M_look_212 : decode prog_11_method_47_code 212 = .ok (.iload 6, 2) := by decide +kernel
theorem dw_M_look_214 : decode prog_11_method_47_code 214 = .ok (.ifCond .lt 7, 3) := by decide +kernel
theorem dw_M_look_221 : decode prog_11_method_47_code 221 = .ok (.iconst 0, 1) := by decide +kernel
theorem dw_M_look_222 : decode prog_11_method_47_code 222 = .ok (.ireturn, 1) := by decide +kernel
theorem dw_M_look_217 : decode prog_11_method_47_code 217 = .ok (.iconst 1, 1) := by decide +kernel
theorem dw_M_look_218 : decode prog_11_method_47_code 218 = .ok (.goto 4, 3) := by decide +kernel
theorem dw_M_look_208 : decode prog_11_method_47_code 208 = .ok (.iconst (-1), 1) := by decide +kernel
theorem dw_M_look_209 : decode prog_11_method_47_code 209 = .ok (.goto 13, 3) := by decide +kernel
theorem dw_M_look_36 : decode prog_11_method_47_code 36 = .ok (.iconst (-1), 1) := by decide +kernel
theorem dw_M_look_26 : decode prog_11_method_47_code 26 = .ok (.aload_n 0, 1) := by decide +kernel
theorem dw_M_look_27 : decode prog_11_method_47_code 27 = .ok (.iload 5, 2) := by decide +kernel
theorem dw_M_look_29 : decode prog_11_method_47_code 29 = .ok (.iconst 0, 1) := by decide +kernel
theorem dw_M_look_30 : decode prog_11_method_47_code 30 = .ok (.invokevirtual 233, 3) := by decide +kernel
theorem dw_M_look_13 : decode prog_11_method_47_code 13 = .ok (.iconst (-1), 1) := by decide +kernel
theorem dw_M_look_14 : decode prog_11_method_47_code 14 = .ok (.ireturn, 1) := by decide +kernel
theorem dw_M_label_0 : decode prog_11_method_48_code 0 = .ok (.aload_n 0, 1) := by decide +kernel
theorem dw_M_label_1 : decode prog_11_method_48_code 1 = .ok (.iload_n 1, 1) := by decide +kernel
theorem dw_M_label_2 : decode prog_11_method_48_code 2 = .ok (.lload_n 2, 1) := by decide +kernel
theorem dw_M_label_3 : decode prog_11_method_48_code 3 = .ok (.invokevirtual 325, 3) := by decide +kernel
theorem dw_M_label_6 : decode prog_11_method_48_code 6 = .ok (.istore 5, 2) := by decide +kernel
theorem dw_M_label_8 : decode prog_11_method_48_code 8 = .ok (.iload 5, 2) := by decide +kernel
theorem dw_M_label_10 : decode prog_11_method_48_code 10 = .ok (.ifCond .lt 19, 3) := by decide +kernel
theorem dw_M_label_29 : decode prog_11_method_48_code 29 = .ok (.iconst (-1), 1) := by decide +kernel
theorem dw_M_label_30 : decode prog_11_method_48_code 30 = .ok (.ireturn, 1) := by decide +kernel
theorem dw_M_label_13 : decode prog_11_method_48_code 13 = .ok (.aload_n 0, 1) := by decide +kernel
theorem dw_M_label_14 : decode prog_11_method_48_code 14 = .ok (.getfield 16, 3) := by decide +kernel
theorem dw_M_label_17 : decode prog_11_method_48_code 17 = .ok (.iload 5, 2) := by decide +kernel
theorem dw_M_label_19 : decode prog_11_method_48_code 19 = .ok (.baload, 1) := by decide +kernel
theorem dw_M_label_20 : decode prog_11_method_48_code 20 = .ok (.iconst 4, 1) := by decide +kernel
theorem dw_M_label_21 : decode prog_11_method_48_code 21 = .ok (.if_icmp .ne 8, 3) := by decide +kernel
theorem dw_M_label_24 : decode prog_11_method_48_code 24 = .ok (.iload 4, 2) := by decide +kernel
theorem dw_M_label_26 : decode prog_11_method_48_code 26 = .ok (.ifCond .ge 5, 3) := by decide +kernel
theorem dw_M_label_31 : decode prog_11_method_48_code 31 = .ok (.aload_n 0, 1) := by decide +kernel
theorem dw_M_label_32 : decode prog_11_method_48_code 32 = .ok (.iload 5, 2) := by decide +kernel
theorem dw_M_label_34 : decode prog_11_method_48_code 34 = .ok (.iconst 0, 1) := by decide +kernel
theorem dw_M_label_35 : decode prog_11_method_48_code 35 = .ok (.invokevirtual 233, 3) := by decide +kernel
theorem dw_M_scheme_0 : decode prog_11_method_52_code 0 = .ok (.aload_n 0, 1) := by decide +kernel
theorem dw_M_scheme_1 : decode prog_11_method_52_code 1 = .ok (.iload_n 1, 1) := by decide +kernel
theorem dw_M_scheme_2 : decode prog_11_method_52_code 2 = .ok (.invokevirtual 187, 3) := by decide +kernel
theorem dw_M_scheme_5 : decode prog_11_method_52_code 5 = .ok (.ifCond .eq 15, 3) := by decide +kernel
theorem dw_M_scheme_20 : decode prog_11_method_52_code 20 = .ok (.iconst (-1), 1) := by decide +kernel
theorem dw_M_scheme_21 : decode prog_11_method_52_code 21 = .ok (.ireturn, 1) := by decide +kernel
theorem dw_M_scheme_8 : decode prog_11_method_52_code 8 = .ok (.aload_n 0, 1) := by decide +kernel
theorem dw_M_scheme_9 : decode prog_11_method_52_code 9 = .ok (.aload_n 0, 1) := by decide +kernel
theorem dw_M_scheme_10 : decode prog_11_method_52_code 10 = .ok (.iload_n 1, 1) := by decide +kernel
theorem dw_M_scheme_11 : decode prog_11_method_52_code 11 = .ok (.invokevirtual 230, 3) := by decide +kernel
theorem dw_M_quantified_0 : decode prog_11_method_55_code 0 = .ok (.aload_n 0, 1) := by decide +kernel
theorem dw_M_quantified_1 : decode prog_11_method_55_code 1 = .ok (.iload_n 1, 1) := by decide +kernel
theorem dw_M_quantified_2 : decode prog_11_method_55_code 2 = .ok (.invokevirtual 373, 3) := by decide +kernel
theorem dw_M_quantified_5 : decode prog_11_method_55_code 5 = .ok (.ifCond .ne 5, 3) := by decide +kernel
theorem dw_M_quantified_10 : decode prog_11_method_55_code 10 = .ok (.iload_n 2, 1) := by decide +kernel
theorem dw_M_quantified_11 : decode prog_11_method_55_code 11 = .ok (.ifCond .ne 12, 3) := by decide +kernel
theorem dw_M_quantified_23 : decode prog_11_method_55_code 23 = .ok (.iload_n 2, 1) := by decide +kernel
theorem dw_M_quantified_24 : decode prog_11_method_55_code 24 = .ok (.iconst 1, 1) := by decide +kernel
theorem dw_M_quantified_25 : decode prog_11_method_55_code 25 = .ok (.if_icmp .ne 20, 3) := by decide +kernel
theorem dw_M_quantified_45 : decode prog_11_method_55_code 45 = .ok (.iload_n 2, 1) := by decide +kernel
theorem dw_M_quantified_46 : decode prog_11_method_55_code 46 = .ok (.iconst 2, 1) := by decide +kernel
theorem dw_M_quantified_47 : decode prog_11_method_55_code 47 = .ok (.if_icmp .ne 12, 3) := by decide +kernel
theorem dw_M_quantified_59 : decode prog_11_method_55_code 59 = .ok (.iconst (-1), 1) := by decide +kernel
theorem dw_M_quantified_60 : decode prog_11_method_55_code 60 = .ok (.ireturn, 1) := by decide +kernel
theorem dw_M_quantified_50 : decode prog_11_method_55_code 50 = .ok (.aload_n 0, 1) := by decide +kernel
theorem dw_M_quantified_51 : decode prog_11_method_55_code 51 = .ok (.getfield 87, 3) := by decide +kernel
theorem dw_M_quantified_54 : decode prog_11_method_55_code 54 = .ok (.iload_n 1, 1) := by decide +kernel
theorem dw_M_quantified_55 : decode prog_11_method_55_code 55 = .ok (.iaload, 1) := by decide +kernel
theorem dw_M_quantified_56 : decode prog_11_method_55_code 56 = .ok (.goto 4, 3) := by decide +kernel
theorem dw_M_quantified_28 : decode prog_11_method_55_code 28 = .ok (.aload_n 0, 1) := by decide +kernel
theorem dw_M_quantified_29 : decode prog_11_method_55_code 29 = .ok (.getfield 90, 3) := by decide +kernel
theorem dw_M_quantified_32 : decode prog_11_method_55_code 32 = .ok (.iload_n 1, 1) := by decide +kernel
theorem dw_M_quantified_33 : decode prog_11_method_55_code 33 = .ok (.baload, 1) := by decide +kernel
theorem dw_M_quantified_34 : decode prog_11_method_55_code 34 = .ok (.ifCond .eq 7, 3) := by decide +kernel
theorem dw_M_quantified_41 : decode prog_11_method_55_code 41 = .ok (.iconst 0, 1) := by decide +kernel
theorem dw_M_quantified_42 : decode prog_11_method_55_code 42 = .ok (.goto 18, 3) := by decide +kernel
theorem dw_M_quantified_37 : decode prog_11_method_55_code 37 = .ok (.iconst 1, 1) := by decide +kernel
theorem dw_M_quantified_38 : decode prog_11_method_55_code 38 = .ok (.goto 22, 3) := by decide +kernel
theorem dw_M_quantified_14 : decode prog_11_method_55_code 14 = .ok (.aload_n 0, 1) := by decide +kernel
theorem dw_M_quantified_15 : decode prog_11_method_55_code 15 = .ok (.getfield 84, 3) := by decide +kernel
theorem dw_M_quantified_18 : decode prog_11_method_55_code 18 = .ok (.iload_n 1, 1) := by decide +kernel
theorem dw_M_quantified_19 : decode prog_11_method_55_code 19 = .ok (.iaload, 1) := by decide +kernel
theorem dw_M_quantified_20 : decode prog_11_method_55_code 20 = .ok (.goto 40, 3) := by decide +kernel
theorem dw_M_quantified_8 : decode prog_11_method_55_code 8 = .ok (.iconst (-1), 1) := by decide +kernel
theorem dw_M_quantified_9 : decode prog_11_method_55_code 9 = .ok (.ireturn, 1) := by decide +kernel
theorem dw_M_instance_0 : decode prog_11_method_56_code 0 = .ok (.aload_n 0, 1) := by decide +kernel
theorem dw_M_instance_1 : decode prog_11_method_56_code 1 = .ok (.iload_n 1, 1) := by decide +kernel
theorem dw_M_instance_2 : decode prog_11_method_56_code 2 = .ok (.invokevirtual 373, 3) := by decide +kernel
theorem dw_M_instance_5 : decode prog_11_method_56_code 5 = .ok (.ifCond .ne 5, 3) := by decide +kernel
theorem dw_M_instance_10 : decode prog_11_method_56_code 10 = .ok (.aload_n 0, 1) := by decide +kernel
theorem dw_M_instance_11 : decode prog_11_method_56_code 11 = .ok (.getfield 81, 3) := by decide +kernel
theorem dw_M_instance_14 : decode prog_11_method_56_code 14 = .ok (.iload_n 1, 1) := by decide +kernel
theorem dw_M_instance_15 : decode prog_11_method_56_code 15 = .ok (.iaload, 1) := by decide +kernel
theorem dw_M_instance_16 : decode prog_11_method_56_code 16 = .ok (.istore_n 2, 1) := by decide +kernel
theorem dw_M_instance_17 : decode prog_11_method_56_code 17 = .ok (.aload_n 0, 1) := by decide +kernel
theorem dw_M_instance_18 : decode prog_11_method_56_code 18 = .ok (.getfield 81, 3) := by decide +kernel
theorem dw_M_instance_21 : decode prog_11_method_56_code 21 = .ok (.iload_n 1, 1) := by decide +kernel
theorem dw_M_instance_22 : decode prog_11_method_56_code 22 = .ok (.iconst 1, 1) := by decide +kernel
theorem dw_M_instance_23 : decode prog_11_method_56_code 23 = .ok (.iadd, 1) := by decide +kernel
theorem dw_M_instance_24 : decode prog_11_method_56_code 24 = .ok (.iaload, 1) := by decide +kernel
theorem dw_M_instance_25 : decode prog_11_method_56_code 25 = .ok (.iload_n 2, 1) := by decide +kernel
theorem dw_M_instance_26 : decode prog_11_method_56_code 26 = .ok (.isub, 1) := by decide +kernel
theorem dw_M_instance_27 : decode prog_11_method_56_code 27 = .ok (.istore_n 3, 1) := by decide +kernel
theorem dw_M_instance_28 : decode prog_11_method_56_code 28 = .ok (.iconst 0, 1) := by decide +kernel
theorem dw_M_instance_29 : decode prog_11_method_56_code 29 = .ok (.istore 4, 2) := by decide +kernel
theorem dw_M_instance_31 : decode prog_11_method_56_code 31 = .ok (.iload_n 2, 1) := by decide +kernel
theorem dw_M_instance_32 : decode prog_11_method_56_code 32 = .ok (.istore 5, 2) := by decide +kernel
theorem dw_M_instance_70 : decode prog_11_method_56_code 70 = .ok (.aload_n 0, 1) := by decide +kernel
theorem dw_M_instance_71 : decode prog_11_method_56_code 71 = .ok (.getfield 99, 3) := by decide +kernel
theorem dw_M_instance_74 : decode prog_11_method_56_code 74 = .ok (.iload_n 2, 1) := by decide +kernel
theorem dw_M_instance_75 : decode prog_11_method_56_code 75 = .ok (.iload_n 3, 1) := by decide +kernel
theorem dw_M_instance_76 : decode prog_11_method_56_code 76 = .ok (.iadd, 1) := by decide +kernel
theorem dw_M_instance_77 : decode prog_11_method_56_code 77 = .ok (.iaload, 1) := by decide +kernel
theorem dw_M_instance_78 : decode prog_11_method_56_code 78 = .ok (.aload_n 0, 1) := by decide +kernel
theorem dw_M_instance_79 : decode prog_11_method_56_code 79 = .ok (.getfield 99, 3) := by decide +kernel
theorem dw_M_instance_82 : decode prog_11_method_56_code 82 = .ok (.iload_n 2, 1) := by decide +kernel
theorem dw_M_instance_83 : decode prog_11_method_56_code 83 = .ok (.iaload, 1) := by decide +kernel
theorem dw_M_instance_84 : decode prog_11_method_56_code 84 = .ok (.isub, 1) := by decide +kernel
theorem dw_M_instance_85 : decode prog_11_method_56_code 85 = .ok (.istore 5, 2) := by decide +kernel
theorem dw_M_instance_87 : decode prog_11_method_56_code 87 = .ok (.iload_n 3, 1) := by decide +kernel
theorem dw_M_instance_88 : decode prog_11_method_56_code 88 = .ok (.ifCond .eq 28, 3) := by decide +kernel
theorem dw_M_instance_116 : decode prog_11_method_56_code 116 = .ok (.bipush (-2), 2) := by decide +kernel
theorem dw_M_instance_118 : decode prog_11_method_56_code 118 = .ok (.ireturn, 1) := by decide +kernel
theorem dw_M_instance_91 : decode prog_11_method_56_code 91 = .ok (.aload_n 0, 1) := by decide +kernel
theorem dw_M_instance_92 : decode prog_11_method_56_code 92 = .ok (.getfield 177, 3) := by decide +kernel
theorem dw_M_instance_95 : decode prog_11_method_56_code 95 = .ok (.iload 4, 2) := by decide +kernel
theorem dw_M_instance_97 : decode prog_11_method_56_code 97 = .ok (.iadd, 1) := by decide +kernel
theorem dw_M_instance_98 : decode prog_11_method_56_code 98 = .ok (.sipush 24576, 3) := by decide +kernel
theorem dw_M_instance_101 : decode prog_11_method_56_code 101 = .ok (.if_icmp .gt 15, 3) := by decide +kernel
theorem dw_M_instance_104 : decode prog_11_method_56_code 104 = .ok (.aload_n 0, 1) := by decide +kernel
theorem dw_M_instance_105 : decode prog_11_method_56_code 105 = .ok (.getfield 180, 3) := by decide +kernel
theorem dw_M_instance_108 : decode prog_11_method_56_code 108 = .ok (.iload 5, 2) := by decide +kernel
theorem dw_M_instance_110 : decode prog_11_method_56_code 110 = .ok (.iadd, 1) := by decide +kernel
theorem dw_M_instance_111 : decode prog_11_method_56_code 111 = .ok (.ldc 46, 2) := by decide +kernel
theorem dw_M_instance_113 : decode prog_11_method_56_code 113 = .ok (.if_icmp .le 6, 3) := by decide +kernel
theorem dw_M_instance_119 : decode prog_11_method_56_code 119 = .ok (.iconst 0, 1) := by decide +kernel
theorem dw_M_instance_120 : decode prog_11_method_56_code 120 = .ok (.istore 6, 2) := by decide +kernel
theorem dw_M_instance_174 : decode prog_11_method_56_code 174 = .ok (.aload_n 0, 1) := by decide +kernel
theorem dw_M_instance_175 : decode prog_11_method_56_code 175 = .ok (.getfield 167, 3) := by decide +kernel
theorem dw_M_instance_178 : decode prog_11_method_56_code 178 = .ok (.iload_n 3, 1) := by decide +kernel
theorem dw_M_instance_179 : decode prog_11_method_56_code 179 = .ok (.iconst 1, 1) := by decide +kernel
theorem dw_M_instance_180 : decode prog_11_method_56_code 180 = .ok (.isub, 1) := by decide +kernel
theorem dw_M_instance_181 : decode prog_11_method_56_code 181 = .ok (.iaload, 1) := by decide +kernel
theorem dw_M_instance_182 : decode prog_11_method_56_code 182 = .ok (.ireturn, 1) := by decide +kernel
theorem dw_M_instance_122 : decode prog_11_method_56_code 122 = .ok (.iload 6, 2) := by decide +kernel
theorem dw_M_instance_124 : decode prog_11_method_56_code 124 = .ok (.iload_n 3, 1) := by decide +kernel
theorem dw_M_instance_125 : decode prog_11_method_56_code 125 = .ok (.if_icmp .ge 49, 3) := by decide +kernel
theorem dw_M_instance_128 : decode prog_11_method_56_code 128 = .ok (.aload_n 0, 1) := by decide +kernel
theorem dw_M_instance_129 : decode prog_11_method_56_code 129 = .ok (.getfield 167, 3) := by decide +kernel
theorem dw_M_instance_132 : decode prog_11_method_56_code 132 = .ok (.iload 6, 2) := by decide +kernel
theorem dw_M_instance_134 : decode prog_11_method_56_code 134 = .ok (.aload_n 0, 1) := by decide +kernel
theorem dw_M_instance_135 : decode prog_11_method_56_code 135 = .ok (.getfield 93, 3) := by decide +kernel
theorem dw_M_instance_138 : decode prog_11_method_56_code 138 = .ok (.iload_n 2, 1) := by decide +kernel
theorem dw_M_instance_139 : decode prog_11_method_56_code 139 = .ok (.iload 6, 2) := by decide +kernel
theorem dw_M_instance_141 : decode prog_11_method_56_code 141 = .ok (.iadd, 1) := by decide +kernel
theorem dw_M_instance_142 : decode prog_11_method_56_code 142 = .ok (.baload, 1) := by decide +kernel
theorem dw_M_instance_143 : decode prog_11_method_56_code 143 = .ok (.iconst 1, 1) := by decide +kernel
theorem dw_M_instance_144 : decode prog_11_method_56_code 144 = .ok (.if_icmp .ne 15, 3) := by decide +kernel
theorem dw_M_instance_167 : decode prog_11_method_56_code 167 = .ok (.iastore, 1) := by decide +kernel
theorem dw_M_instance_168 : decode prog_11_method_56_code 168 = .ok (.iinc 6 1, 3) := by decide +kernel
theorem dw_M_instance_171 : decode prog_11_method_56_code 171 = .ok (.goto (-49), 3) := by decide +kernel
theorem dw_M_instance_159 : decode prog_11_method_56_code 159 = .ok (.aload_n 0, 1) := by decide +kernel
theorem dw_M_instance_160 : decode prog_11_method_56_code 160 = .ok (.iload_n 2, 1) := by decide +kernel
theorem dw_M_instance_161 : decode prog_11_method_56_code 161 = .ok (.iload 6, 2) := by decide +kernel
theorem dw_M_instance_163 : decode prog_11_method_56_code 163 = .ok (.iadd, 1) := by decide +kernel
theorem dw_M_instance_164 : decode prog_11_method_56_code 164 = .ok (.invokevirtual 376, 3) := by decide +kernel
theorem dw_M_instance_147 : decode prog_11_method_56_code 147 = .ok (.aload_n 0, 1) := by decide +kernel
theorem dw_M_instance_148 : decode prog_11_method_56_code 148 = .ok (.getfield 96, 3) := by decide +kernel
theorem dw_M_instance_151 : decode prog_11_method_56_code 151 = .ok (.iload_n 2, 1) := by decide +kernel
theorem dw_M_instance_152 : decode prog_11_method_56_code 152 = .ok (.iload 6, 2) := by decide +kernel
theorem dw_M_instance_154 : decode prog_11_method_56_code 154 = .ok (.iadd, 1) := by decide +kernel
theorem dw_M_instance_155 : decode prog_11_method_56_code 155 = .ok (.iaload, 1) := by decide +kernel
theorem dw_M_instance_156 : decode prog_11_method_56_code 156 = .ok (.goto 11, 3) := by decide +kernel
theorem dw_M_instance_34 : decode prog_11_method_56_code 34 = .ok (.iload 5, 2) := by decide +kernel
theorem dw_M_instance_36 : decode prog_11_method_56_code 36 = .ok (.iload_n 2, 1) := by decide +kernel
theorem dw_M_instance_37 : decode prog_11_method_56_code 37 = .ok (.iload_n 3, 1) := by decide +kernel
theorem dw_M_instance_38 : decode prog_11_method_56_code 38 = .ok (.iadd, 1) := by decide +kernel
theorem dw_M_instance_39 : decode prog_11_method_56_code 39 = .ok (.if_icmp .ge 31, 3) := by decide +kernel
theorem dw_M_instance_42 : decode prog_11_method_56_code 42 = .ok (.aload_n 0, 1) := by decide +kernel
theorem dw_M_instance_43 : decode prog_11_method_56_code 43 = .ok (.getfield 93, 3) := by decide +kernel
theorem dw_M_instance_46 : decode prog_11_method_56_code 46 = .ok (.iload 5, 2) := by decide +kernel
theorem dw_M_instance_48 : decode prog_11_method_56_code 48 = .ok (.baload, 1) := by decide +kernel
theorem dw_M_instance_49 : decode prog_11_method_56_code 49 = .ok (.iconst 1, 1) := by decide +kernel
theorem dw_M_instance_50 : decode prog_11_method_56_code 50 = .ok (.if_icmp .ne 8, 3) := by decide +kernel
theorem dw_M_instance_62 : decode prog_11_method_56_code 62 = .ok (.istore 4, 2) := by decide +kernel
theorem dw_M_instance_64 : decode prog_11_method_56_code 64 = .ok (.iinc 5 1, 3) := by decide +kernel
theorem dw_M_instance_67 : decode prog_11_method_56_code 67 = .ok (.goto (-33), 3) := by decide +kernel
theorem dw_M_instance_58 : decode prog_11_method_56_code 58 = .ok (.iload 4, 2) := by decide +kernel
theorem dw_M_instance_60 : decode prog_11_method_56_code 60 = .ok (.iconst 1, 1) := by decide +kernel
theorem dw_M_instance_61 : decode prog_11_method_56_code 61 = .ok (.iadd, 1) := by decide +kernel
theorem dw_M_instance_53 : decode prog_11_method_56_code 53 = .ok (.iload 4, 2) := by decide +kernel
theorem dw_M_instance_55 : decode prog_11_method_56_code 55 = .ok (.goto 7, 3) := by decide +kernel
theorem dw_M_instance_8 : decode prog_11_method_56_code 8 = .ok (.iconst (-1), 1) := by decide +kernel
theorem dw_M_instance_9 : decode prog_11_method_56_code 9 = .ok (.ireturn, 1) := by decide +kernel
theorem dw_M_alike_0 : decode prog_11_method_58_code 0 = .ok (.aload_n 0, 1) := by decide +kernel
theorem dw_M_alike_1 : decode prog_11_method_58_code 1 = .ok (.iload_n 1, 1) := by decide +kernel
theorem dw_M_alike_2 : decode prog_11_method_58_code 2 = .ok (.invokevirtual 373, 3) := by decide +kernel
theorem dw_M_alike_5 : decode prog_11_method_58_code 5 = .ok (.ifCond .eq 29, 3) := by decide +kernel
theorem dw_M_alike_34 : decode prog_11_method_58_code 34 = .ok (.iconst 0, 1) := by decide +kernel
theorem dw_M_alike_35 : decode prog_11_method_58_code 35 = .ok (.ireturn, 1) := by decide +kernel
theorem dw_M_alike_8 : decode prog_11_method_58_code 8 = .ok (.aload_n 0, 1) := by decide +kernel
theorem dw_M_alike_9 : decode prog_11_method_58_code 9 = .ok (.iload_n 2, 1) := by decide +kernel
theorem dw_M_alike_10 : decode prog_11_method_58_code 10 = .ok (.invokevirtual 373, 3) := by decide +kernel
theorem dw_M_alike_13 : decode prog_11_method_58_code 13 = .ok (.ifCond .eq 21, 3) := by decide +kernel
theorem dw_M_alike_16 : decode prog_11_method_58_code 16 = .ok (.aload_n 0, 1) := by decide +kernel
theorem dw_M_alike_17 : decode prog_11_method_58_code 17 = .ok (.getfield 90, 3) := by decide +kernel
theorem dw_M_alike_20 : decode prog_11_method_58_code 20 = .ok (.iload_n 1, 1) := by decide +kernel
theorem dw_M_alike_21 : decode prog_11_method_58_code 21 = .ok (.baload, 1) := by decide +kernel
theorem dw_M_alike_22 : decode prog_11_method_58_code 22 = .ok (.ifCond .eq 12, 3) := by decide +kernel
theorem dw_M_alike_25 : decode prog_11_method_58_code 25 = .ok (.aload_n 0, 1) := by decide +kernel
theorem dw_M_alike_26 : decode prog_11_method_58_code 26 = .ok (.getfield 90, 3) := by decide +kernel
theorem dw_M_alike_29 : decode prog_11_method_58_code 29 = .ok (.iload_n 2, 1) := by decide +kernel
theorem dw_M_alike_30 : decode prog_11_method_58_code 30 = .ok (.baload, 1) := by decide +kernel
theorem dw_M_alike_31 : decode prog_11_method_58_code 31 = .ok (.ifCond .ne 5, 3) := by decide +kernel
theorem dw_M_alike_36 : decode prog_11_method_58_code 36 = .ok (.aload_n 0, 1) := by decide +kernel
theorem dw_M_alike_37 : decode prog_11_method_58_code 37 = .ok (.getfield 81, 3) := by decide +kernel
theorem dw_M_alike_40 : decode prog_11_method_58_code 40 = .ok (.iload_n 1, 1) := by decide +kernel
theorem dw_M_alike_41 : decode prog_11_method_58_code 41 = .ok (.iaload, 1) := by decide +kernel
theorem dw_M_alike_42 : decode prog_11_method_58_code 42 = .ok (.istore_n 3, 1) := by decide +kernel
theorem dw_M_alike_43 : decode prog_11_method_58_code 43 = .ok (.aload_n 0, 1) := by decide +kernel
theorem dw_M_alike_44 : decode prog_11_method_58_code 44 = .ok (.getfield 81, 3) := by decide +kernel
theorem dw_M_alike_47 : decode prog_11_method_58_code 47 = .ok (.iload_n 2, 1) := by decide +kernel
theorem dw_M_alike_48 : decode prog_11_method_58_code 48 = .ok (.iaload, 1) := by decide +kernel
theorem dw_M_alike_49 : decode prog_11_method_58_code 49 = .ok (.istore 4, 2) := by decide +kernel
theorem dw_M_alike_51 : decode prog_11_method_58_code 51 = .ok (.aload_n 0, 1) := by decide +kernel
theorem dw_M_alike_52 : decode prog_11_method_58_code 52 = .ok (.getfield 81, 3) := by decide +kernel
theorem dw_M_alike_55 : decode prog_11_method_58_code 55 = .ok (.iload_n 1, 1) := by decide +kernel
theorem dw_M_alike_56 : decode prog_11_method_58_code 56 = .ok (.iconst 1, 1) := by decide +kernel
theorem dw_M_alike_57 : decode prog_11_method_58_code 57 = .ok (.iadd, 1) := by decide +kernel
theorem dw_M_alike_58 : decode prog_11_method_58_code 58 = .ok (.iaload, 1) := by decide +kernel
theorem dw_M_alike_59 : decode prog_11_method_58_code 59 = .ok (.iload_n 3, 1) := by decide +kernel
theorem dw_M_alike_60 : decode prog_11_method_58_code 60 = .ok (.isub, 1) := by decide +kernel
theorem dw_M_alike_61 : decode prog_11_method_58_code 61 = .ok (.istore 5, 2) := by decide +kernel
theorem dw_M_alike_63 : decode prog_11_method_58_code 63 = .ok (.aload_n 0, 1) := by decide +kernel
theorem dw_M_alike_64 : decode prog_11_method_58_code 64 = .ok (.getfield 81, 3) := by decide +kernel
theorem dw_M_alike_67 : decode prog_11_method_58_code 67 = .ok (.iload_n 2, 1) := by decide +kernel
theorem dw_M_alike_68 : decode prog_11_method_58_code 68 = .ok (.iconst 1, 1) := by decide +kernel
theorem dw_M_alike_69 : decode prog_11_method_58_code 69 = .ok (.iadd, 1) := by decide +kernel
theorem dw_M_alike_70 : decode prog_11_method_58_code 70 = .ok (.iaload, 1) := by decide +kernel
theorem dw_M_alike_71 : decode prog_11_method_58_code 71 = .ok (.iload 4, 2) := by decide +kernel
theorem dw_M_alike_73 : decode prog_11_method_58_code 73 = .ok (.isub, 1) := by decide +kernel
theorem dw_M_alike_74 : decode prog_11_method_58_code 74 = .ok (.iload 5, 2) := by decide +kernel
theorem dw_M_alike_76 : decode prog_11_method_58_code 76 = .ok (.if_icmp .ne 7, 3) := by decide +kernel
theorem dw_M_alike_84 : decode prog_11_method_58_code 84 = .ok (.istore 6, 2) := by decide +kernel
theorem dw_M_alike_86 : decode prog_11_method_58_code 86 = .ok (.iconst 0, 1) := by decide +kernel
theorem dw_M_alike_87 : decode prog_11_method_58_code 87 = .ok (.istore 7, 2) := by decide +kernel
theorem dw_M_alike_89 : decode prog_11_method_58_code 89 = .ok (.iload 7, 2) := by decide +kernel
theorem dw_M_alike_91 : decode prog_11_method_58_code 91 = .ok (.iload 5, 2) := by decide +kernel
theorem dw_M_alike_93 : decode prog_11_method_58_code 93 = .ok (.if_icmp .ge 254, 3) := by decide +kernel
theorem dw_M_alike_347 : decode prog_11_method_58_code 347 = .ok (.iload 6, 2) := by decide +kernel
theorem dw_M_alike_349 : decode prog_11_method_58_code 349 = .ok (.ireturn, 1) := by decide +kernel
theorem dw_M_alike_96 : decode prog_11_method_58_code 96 = .ok (.iload 6, 2) := by decide +kernel
theorem dw_M_alike_98 : decode prog_11_method_58_code 98 = .ok (.ifCond .eq 249, 3) := by decide +kernel
theorem dw_M_alike_101 : decode prog_11_method_58_code 101 = .ok (.aload_n 0, 1) := by decide +kernel
theorem dw_M_alike_102 : decode prog_11_method_58_code 102 = .ok (.getfield 99, 3) := by decide +kernel
theorem dw_M_alike_105 : decode prog_11_method_58_code 105 = .ok (.iload_n 3, 1) := by decide +kernel
theorem dw_M_alike_106 : decode prog_11_method_58_code 106 = .ok (.iload 7, 2) := by decide +kernel
theorem dw_M_alike_108 : decode prog_11_method_58_code 108 = .ok (.iadd, 1) := by decide +kernel
theorem dw_M_alike_109 : decode prog_11_method_58_code 109 = .ok (.iconst 1, 1) := by decide +kernel
theorem dw_M_alike_110 : decode prog_11_method_58_code 110 = .ok (.iadd, 1) := by decide +kernel
theorem dw_M_alike_111 : decode prog_11_method_58_code 111 = .ok (.iaload, 1) := by decide +kernel
theorem dw_M_alike_112 : decode prog_11_method_58_code 112 = .ok (.aload_n 0, 1) := by decide +kernel
theorem dw_M_alike_113 : decode prog_11_method_58_code 113 = .ok (.getfield 99, 3) := by decide +kernel
theorem dw_M_alike_116 : decode prog_11_method_58_code 116 = .ok (.iload_n 3, 1) := by decide +kernel
theorem dw_M_alike_117 : decode prog_11_method_58_code 117 = .ok (.iload 7, 2) := by decide +kernel
theorem dw_M_alike_119 : decode prog_11_method_58_code 119 = .ok (.iadd, 1) := by decide +kernel
theorem dw_M_alike_120 : decode prog_11_method_58_code 120 = .ok (.iaload, 1) := by decide +kernel
theorem dw_M_alike_121 : decode prog_11_method_58_code 121 = .ok (.isub, 1) := by decide +kernel
theorem dw_M_alike_122 : decode prog_11_method_58_code 122 = .ok (.istore 8, 2) := by decide +kernel
theorem dw_M_alike_124 : decode prog_11_method_58_code 124 = .ok (.aload_n 0, 1) := by decide +kernel
theorem dw_M_alike_125 : decode prog_11_method_58_code 125 = .ok (.getfield 93, 3) := by decide +kernel
theorem dw_M_alike_128 : decode prog_11_method_58_code 128 = .ok (.iload_n 3, 1) := by decide +kernel
theorem dw_M_alike_129 : decode prog_11_method_58_code 129 = .ok (.iload 7, 2) := by decide +kernel
theorem dw_M_alike_131 : decode prog_11_method_58_code 131 = .ok (.iadd, 1) := by decide +kernel
theorem dw_M_alike_132 : decode prog_11_method_58_code 132 = .ok (.baload, 1) := by decide +kernel
theorem dw_M_alike_133 : decode prog_11_method_58_code 133 = .ok (.aload_n 0, 1) := by decide +kernel
theorem dw_M_alike_134 : decode prog_11_method_58_code 134 = .ok (.getfield 93, 3) := by decide +kernel
theorem dw_M_alike_137 : decode prog_11_method_58_code 137 = .ok (.iload 4, 2) := by decide +kernel
theorem dw_M_alike_139 : decode prog_11_method_58_code 139 = .ok (.iload 7, 2) := by decide +kernel
theorem dw_M_alike_141 : decode prog_11_method_58_code 141 = .ok (.iadd, 1) := by decide +kernel
theorem dw_M_alike_142 : decode prog_11_method_58_code 142 = .ok (.baload, 1) := by decide +kernel
theorem dw_M_alike_143 : decode prog_11_method_58_code 143 = .ok (.if_icmp .ne 91, 3) := by decide +kernel
theorem dw_M_alike_235 : decode prog_11_method_58_code 235 = .ok (.istore 6, 2) := by decide +kernel
theorem dw_M_alike_237 : decode prog_11_method_58_code 237 = .ok (.iconst 0, 1) := by decide +kernel
theorem dw_M_alike_238 : decode prog_11_method_58_code 238 = .ok (.istore 9, 2) := by decide +kernel
theorem dw_M_alike_341 : decode prog_11_method_58_code 341 = .ok (.iinc 7 1, 3) := by decide +kernel
theorem dw_M_alike_344 : decode prog_11_method_58_code 344 = .ok (.goto (-255), 3) := by decide +kernel
theorem dw_M_alike_240 : decode prog_11_method_58_code 240 = .ok (.iload 9, 2) := by decide +kernel
theorem dw_M_alike_242 : decode prog_11_method_58_code 242 = .ok (.iload 8, 2) := by decide +kernel
theorem dw_M_alike_244 : decode prog_11_method_58_code 244 = .ok (.if_icmp .ge 97, 3) := by decide +kernel
theorem dw_M_alike_247 : decode prog_11_method_58_code 247 = .ok (.iload 6, 2) := by decide +kernel
theorem dw_M_alike_249 : decode prog_11_method_58_code 249 = .ok (.ifCond .eq 92, 3) := by decide +kernel
theorem dw_M_alike_252 : decode prog_11_method_58_code 252 = .ok (.aload_n 0, 1) := by decide +kernel
theorem dw_M_alike_253 : decode prog_11_method_58_code 253 = .ok (.getfield 106, 3) := by decide +kernel
theorem dw_M_alike_256 : decode prog_11_method_58_code 256 = .ok (.aload_n 0, 1) := by decide +kernel
theorem dw_M_alike_257 : decode prog_11_method_58_code 257 = .ok (.getfield 99, 3) := by decide +kernel
theorem dw_M_alike_260 : decode prog_11_method_58_code 260 = .ok (.iload_n 3, 1) := by decide +kernel
theorem dw_M_alike_261 : decode prog_11_method_58_code 261 = .ok (.iload 7, 2) := by decide +kernel
theorem dw_M_alike_263 : decode prog_11_method_58_code 263 = .ok (.iadd, 1) := by decide +kernel
theorem dw_M_alike_264 : decode prog_11_method_58_code 264 = .ok (.iaload, 1) := by decide +kernel
theorem dw_M_alike_265 : decode prog_11_method_58_code 265 = .ok (.iload 9, 2) := by decide +kernel
theorem dw_M_alike_267 : decode prog_11_method_58_code 267 = .ok (.iadd, 1) := by decide +kernel
theorem dw_M_alike_268 : decode prog_11_method_58_code 268 = .ok (.saload, 1) := by decide +kernel
theorem dw_M_alike_269 : decode prog_11_method_58_code 269 = .ok (.aload_n 0, 1) := by decide +kernel
theorem dw_M_alike_270 : decode prog_11_method_58_code 270 = .ok (.getfield 106, 3) := by decide +kernel
theorem dw_M_alike_273 : decode prog_11_method_58_code 273 = .ok (.aload_n 0, 1) := by decide +kernel
theorem dw_M_alike_274 : decode prog_11_method_58_code 274 = .ok (.getfield 99, 3) := by decide +kernel
theorem dw_M_alike_277 : decode prog_11_method_58_code 277 = .ok (.iload 4, 2) := by decide +kernel
theorem dw_M_alike_279 : decode prog_11_method_58_code 279 = .ok (.iload 7, 2) := by decide +kernel
theorem dw_M_alike_281 : decode prog_11_method_58_code 281 = .ok (.iadd, 1) := by decide +kernel
theorem dw_M_alike_282 : decode prog_11_method_58_code 282 = .ok (.iaload, 1) := by decide +kernel
theorem dw_M_alike_283 : decode prog_11_method_58_code 283 = .ok (.iload 9, 2) := by decide +kernel
theorem dw_M_alike_285 : decode prog_11_method_58_code 285 = .ok (.iadd, 1) := by decide +kernel
theorem dw_M_alike_286 : decode prog_11_method_58_code 286 = .ok (.saload, 1) := by decide +kernel
theorem dw_M_alike_287 : decode prog_11_method_58_code 287 = .ok (.if_icmp .ne 45, 3) := by decide +kernel
theorem dw_M_alike_333 : decode prog_11_method_58_code 333 = .ok (.istore 6, 2) := by decide +kernel
theorem dw_M_alike_335 : decode prog_11_method_58_code 335 = .ok (.iinc 9 1, 3) := by decide +kernel
theorem dw_M_alike_338 : decode prog_11_method_58_code 338 = .ok (.goto (-98), 3) := by decide +kernel
theorem dw_M_alike_332 : decode prog_11_method_58_code 332 = .ok (.iconst 0, 1) := by decide +kernel
theorem dw_M_alike_290 : decode prog_11_method_58_code 290 = .ok (.aload_n 0, 1) := by decide +kernel
theorem dw_M_alike_291 : decode prog_11_method_58_code 291 = .ok (.getfield 109, 3) := by decide +kernel
theorem dw_M_alike_294 : decode prog_11_method_58_code 294 = .ok (.aload_n 0, 1) := by decide +kernel
theorem dw_M_alike_295 : decode prog_11_method_58_code 295 = .ok (.getfield 99, 3) := by decide +kernel
theorem dw_M_alike_298 : decode prog_11_method_58_code 298 = .ok (.iload_n 3, 1) := by decide +kernel
theorem dw_M_alike_299 : decode prog_11_method_58_code 299 = .ok (.iload 7, 2) := by decide +kernel
theorem dw_M_alike_301 : decode prog_11_method_58_code 301 = .ok (.iadd, 1) := by decide +kernel
theorem dw_M_alike_302 : decode prog_11_method_58_code 302 = .ok (.iaload, 1) := by decide +kernel
theorem dw_M_alike_303 : decode prog_11_method_58_code 303 = .ok (.iload 9, 2) := by decide +kernel
theorem dw_M_alike_305 : decode prog_11_method_58_code 305 = .ok (.iadd, 1) := by decide +kernel
theorem dw_M_alike_306 : decode prog_11_method_58_code 306 = .ok (.saload, 1) := by decide +kernel
theorem dw_M_alike_307 : decode prog_11_method_58_code 307 = .ok (.aload_n 0, 1) := by decide +kernel
theorem dw_M_alike_308 : decode prog_11_method_58_code 308 = .ok (.getfield 109, 3) := by decide +kernel
theorem dw_M_alike_311 : decode prog_11_method_58_code 311 = .ok (.aload_n 0, 1) := by decide +kernel
theorem dw_M_alike_312 : decode prog_11_method_58_code 312 = .ok (.getfield 99, 3) := by decide +kernel
theorem dw_M_alike_315 : decode prog_11_method_58_code 315 = .ok (.iload 4, 2) := by decide +kernel
theorem dw_M_alike_317 : decode prog_11_method_58_code 317 = .ok (.iload 7, 2) := by decide +kernel
theorem dw_M_alike_319 : decode prog_11_method_58_code 319 = .ok (.iadd, 1) := by decide +kernel
theorem dw_M_alike_320 : decode prog_11_method_58_code 320 = .ok (.iaload, 1) := by decide +kernel
theorem dw_M_alike_321 : decode prog_11_method_58_code 321 = .ok (.iload 9, 2) := by decide +kernel
theorem dw_M_alike_323 : decode prog_11_method_58_code 323 = .ok (.iadd, 1) := by decide +kernel
theorem dw_M_alike_324 : decode prog_11_method_58_code 324 = .ok (.saload, 1) := by decide +kernel
theorem dw_M_alike_325 : decode prog_11_method_58_code 325 = .ok (.if_icmp .ne 7, 3) := by decide +kernel
theorem dw_M_alike_328 : decode prog_11_method_58_code 328 = .ok (.iconst 1, 1) := by decide +kernel
theorem dw_M_alike_329 : decode prog_11_method_58_code 329 = .ok (.goto 4, 3) := by decide +kernel
theorem dw_M_alike_234 : decode prog_11_method_58_code 234 = .ok (.iconst 0, 1) := by decide +kernel
theorem dw_M_alike_146 : decode prog_11_method_58_code 146 = .ok (.aload_n 0, 1) := by decide +kernel
theorem dw_M_alike_147 : decode prog_11_method_58_code 147 = .ok (.getfield 96, 3) := by decide +kernel
theorem dw_M_alike_150 : decode prog_11_method_58_code 150 = .ok (.iload_n 3, 1) := by decide +kernel
theorem dw_M_alike_151 : decode prog_11_method_58_code 151 = .ok (.iload 7, 2) := by decide +kernel
theorem dw_M_alike_153 : decode prog_11_method_58_code 153 = .ok (.iadd, 1) := by decide +kernel
theorem dw_M_alike_154 : decode prog_11_method_58_code 154 = .ok (.iaload, 1) := by decide +kernel
theorem dw_M_alike_155 : decode prog_11_method_58_code 155 = .ok (.aload_n 0, 1) := by decide +kernel
theorem dw_M_alike_156 : decode prog_11_method_58_code 156 = .ok (.getfield 96, 3) := by decide +kernel
theorem dw_M_alike_159 : decode prog_11_method_58_code 159 = .ok (.iload 4, 2) := by decide +kernel
theorem dw_M_alike_161 : decode prog_11_method_58_code 161 = .ok (.iload 7, 2) := by decide +kernel
theorem dw_M_alike_163 : decode prog_11_method_58_code 163 = .ok (.iadd, 1) := by decide +kernel
theorem dw_M_alike_164 : decode prog_11_method_58_code 164 = .ok (.iaload, 1) := by decide +kernel
theorem dw_M_alike_165 : decode prog_11_method_58_code 165 = .ok (.if_icmp .ne 69, 3) := by decide +kernel
theorem dw_M_alike_168 : decode prog_11_method_58_code 168 = .ok (.aload_n 0, 1) := by decide +kernel
theorem dw_M_alike_169 : decode prog_11_method_58_code 169 = .ok (.getfield 99, 3) := by decide +kernel
theorem dw_M_alike_172 : decode prog_11_method_58_code 172 = .ok (.iload 4, 2) := by decide +kernel
theorem dw_M_alike_174 : decode prog_11_method_58_code 174 = .ok (.iload 7, 2) := by decide +kernel
theorem dw_M_alike_176 : decode prog_11_method_58_code 176 = .ok (.iadd, 1) := by decide +kernel
theorem dw_M_alike_177 : decode prog_11_method_58_code 177 = .ok (.iconst 1, 1) := by decide +kernel
theorem dw_M_alike_178 : decode prog_11_method_58_code 178 = .ok (.iadd, 1) := by decide +kernel
theorem dw_M_alike_179 : decode prog_11_method_58_code 179 = .ok (.iaload, 1) := by decide +kernel
theorem dw_M_alike_180 : decode prog_11_method_58_code 180 = .ok (.aload_n 0, 1) := by decide +kernel
theorem dw_M_alike_181 : decode prog_11_method_58_code 181 = .ok (.getfield 99, 3) := by decide +kernel
theorem dw_M_alike_184 : decode prog_11_method_58_code 184 = .ok (.iload 4, 2) := by decide +kernel
theorem dw_M_alike_186 : decode prog_11_method_58_code 186 = .ok (.iload 7, 2) := by decide +kernel
theorem dw_M_alike_188 : decode prog_11_method_58_code 188 = .ok (.iadd, 1) := by decide +kernel
theorem dw_M_alike_189 : decode prog_11_method_58_code 189 = .ok (.iaload, 1) := by decide +kernel
theorem dw_M_alike_190 : decode prog_11_method_58_code 190 = .ok (.isub, 1) := by decide +kernel
theorem dw_M_alike_191 : decode prog_11_method_58_code 191 = .ok (.iload 8, 2) := by decide +kernel
theorem dw_M_alike_193 : decode prog_11_method_58_code 193 = .ok (.if_icmp .ne 41, 3) := by decide +kernel
theorem dw_M_alike_196 : decode prog_11_method_58_code 196 = .ok (.aload_n 0, 1) := by decide +kernel
theorem dw_M_alike_197 : decode prog_11_method_58_code 197 = .ok (.getfield 93, 3) := by decide +kernel
theorem dw_M_alike_200 : decode prog_11_method_58_code 200 = .ok (.iload_n 3, 1) := by decide +kernel
theorem dw_M_alike_201 : decode prog_11_method_58_code 201 = .ok (.iload 7, 2) := by decide +kernel
theorem dw_M_alike_203 : decode prog_11_method_58_code 203 = .ok (.iadd, 1) := by decide +kernel
theorem dw_M_alike_204 : decode prog_11_method_58_code 204 = .ok (.baload, 1) := by decide +kernel
theorem dw_M_alike_205 : decode prog_11_method_58_code 205 = .ok (.ifCond .ne 25, 3) := by decide +kernel
theorem dw_M_alike_230 : decode prog_11_method_58_code 230 = .ok (.iconst 1, 1) := by decide +kernel
theorem dw_M_alike_231 : decode prog_11_method_58_code 231 = .ok (.goto 4, 3) := by decide +kernel
theorem dw_M_alike_208 : decode prog_11_method_58_code 208 = .ok (.aload_n 0, 1) := by decide +kernel
theorem dw_M_alike_209 : decode prog_11_method_58_code 209 = .ok (.getfield 170, 3) := by decide +kernel
theorem dw_M_alike_212 : decode prog_11_method_58_code 212 = .ok (.iload_n 3, 1) := by decide +kernel
theorem dw_M_alike_213 : decode prog_11_method_58_code 213 = .ok (.iload 7, 2) := by decide +kernel
theorem dw_M_alike_215 : decode prog_11_method_58_code 215 = .ok (.iadd, 1) := by decide +kernel
theorem dw_M_alike_216 : decode prog_11_method_58_code 216 = .ok (.baload, 1) := by decide +kernel
theorem dw_M_alike_217 : decode prog_11_method_58_code 217 = .ok (.aload_n 0, 1) := by decide +kernel
theorem dw_M_alike_218 : decode prog_11_method_58_code 218 = .ok (.getfield 170, 3) := by decide +kernel
theorem dw_M_alike_221 : decode prog_11_method_58_code 221 = .ok (.iload 4, 2) := by decide +kernel
theorem dw_M_alike_223 : decode prog_11_method_58_code 223 = .ok (.iload 7, 2) := by decide +kernel
theorem dw_M_alike_225 : decode prog_11_method_58_code 225 = .ok (.iadd, 1) := by decide +kernel
theorem dw_M_alike_226 : decode prog_11_method_58_code 226 = .ok (.baload, 1) := by decide +kernel
theorem dw_M_alike_227 : decode prog_11_method_58_code 227 = .ok (.if_icmp .ne 7, 3) := by decide +kernel
theorem dw_M_alike_83 : decode prog_11_method_58_code 83 = .ok (.iconst 0, 1) := by decide +kernel
theorem dw_M_alike_79 : decode prog_11_method_58_code 79 = .ok (.iconst 1, 1) := by decide +kernel
theorem dw_M_alike_80 : decode prog_11_method_58_code 80 = .ok (.goto 4, 3) := by decide +kernel
theorem dw_M_clear_0 : decode prog_11_method_59_code 0 = .ok (.iload_n 1, 1) := by decide +kernel
theorem dw_M_clear_1 : decode prog_11_method_59_code 1 = .ok (.ifCond .lt 27, 3) := by decide +kernel
theorem dw_M_clear_29 : decode prog_11_method_59_code 29 = .ok (.istore_n 3, 1) := by decide +kernel
theorem dw_M_clear_30 : decode prog_11_method_59_code 30 = .ok (.iconst 0, 1) := by decide +kernel
theorem dw_M_clear_31 : decode prog_11_method_59_code 31 = .ok (.istore 4, 2) := by decide +kernel
theorem dw_M_clear_118 : decode prog_11_method_59_code 118 = .ok (.iload_n 3, 1) := by decide +kernel
theorem dw_M_clear_119 : decode prog_11_method_59_code 119 = .ok (.ifCond .ne 5, 3) := by decide +kernel
theorem dw_M_clear_124 : decode prog_11_method_59_code 124 = .ok (.aload_n 0, 1) := by decide +kernel
theorem dw_M_clear_125 : decode prog_11_method_59_code 125 = .ok (.iload_n 1, 1) := by decide +kernel
theorem dw_M_clear_126 : decode prog_11_method_59_code 126 = .ok (.putfield 173, 3) := by decide +kernel
theorem dw_M_clear_129 : decode prog_11_method_59_code 129 = .ok (.aload_n 0, 1) := by decide +kernel
theorem dw_M_clear_130 : decode prog_11_method_59_code 130 = .ok (.iload_n 2, 1) := by decide +kernel
theorem dw_M_clear_131 : decode prog_11_method_59_code 131 = .ok (.putfield 364, 3) := by decide +kernel
theorem dw_M_clear_134 : decode prog_11_method_59_code 134 = .ok (.aload_n 0, 1) := by decide +kernel
theorem dw_M_clear_135 : decode prog_11_method_59_code 135 = .ok (.aload_n 0, 1) := by decide +kernel
theorem dw_M_clear_136 : decode prog_11_method_59_code 136 = .ok (.getfield 81, 3) := by decide +kernel
theorem dw_M_clear_139 : decode prog_11_method_59_code 139 = .ok (.iload_n 2, 1) := by decide +kernel
theorem dw_M_clear_140 : decode prog_11_method_59_code 140 = .ok (.iaload, 1) := by decide +kernel
theorem dw_M_clear_141 : decode prog_11_method_59_code 141 = .ok (.putfield 338, 3) := by decide +kernel
theorem dw_M_clear_144 : decode prog_11_method_59_code 144 = .ok (.aload_n 0, 1) := by decide +kernel
theorem dw_M_clear_145 : decode prog_11_method_59_code 145 = .ok (.aload_n 0, 1) := by decide +kernel
theorem dw_M_clear_146 : decode prog_11_method_59_code 146 = .ok (.getfield 99, 3) := by decide +kernel
theorem dw_M_clear_149 : decode prog_11_method_59_code 149 = .ok (.aload_n 0, 1) := by decide +kernel
theorem dw_M_clear_150 : decode prog_11_method_59_code 150 = .ok (.getfield 338, 3) := by decide +kernel
theorem dw_M_clear_153 : decode prog_11_method_59_code 153 = .ok (.iaload, 1) := by decide +kernel
theorem dw_M_clear_154 : decode prog_11_method_59_code 154 = .ok (.putfield 344, 3) := by decide +kernel
theorem dw_M_clear_157 : decode prog_11_method_59_code 157 = .ok (.aload_n 0, 1) := by decide +kernel
theorem dw_M_clear_158 : decode prog_11_method_59_code 158 = .ok (.iconst 0, 1) := by decide +kernel
theorem dw_M_clear_159 : decode prog_11_method_59_code 159 = .ok (.putfield 177, 3) := by decide +kernel
theorem dw_M_clear_162 : decode prog_11_method_59_code 162 = .ok (.aload_n 0, 1) := by decide +kernel
theorem dw_M_clear_163 : decode prog_11_method_59_code 163 = .ok (.iconst 0, 1) := by decide +kernel
theorem dw_M_clear_164 : decode prog_11_method_59_code 164 = .ok (.putfield 180, 3) := by decide +kernel
theorem dw_M_clear_167 : decode prog_11_method_59_code 167 = .ok (.aload_n 0, 1) := by decide +kernel
theorem dw_M_clear_168 : decode prog_11_method_59_code 168 = .ok (.iconst 0, 1) := by decide +kernel
theorem dw_M_clear_169 : decode prog_11_method_59_code 169 = .ok (.putfield 209, 3) := by decide +kernel
theorem dw_M_clear_172 : decode prog_11_method_59_code 172 = .ok (.aload_n 0, 1) := by decide +kernel
theorem dw_M_clear_173 : decode prog_11_method_59_code 173 = .ok (.iconst 0, 1) := by decide +kernel
theorem dw_M_clear_174 : decode prog_11_method_59_code 174 = .ok (.putfield 206, 3) := by decide +kernel
theorem dw_M_clear_177 : decode prog_11_method_59_code 177 = .ok (.aload_n 0, 1) := by decide +kernel
theorem dw_M_clear_178 : decode prog_11_method_59_code 178 = .ok (.iconst 0, 1) := by decide +kernel
theorem dw_M_clear_179 : decode prog_11_method_59_code 179 = .ok (.putfield 254, 3) := by decide +kernel
theorem dw_M_clear_182 : decode prog_11_method_59_code 182 = .ok (.aload_n 0, 1) := by decide +kernel
theorem dw_M_clear_183 : decode prog_11_method_59_code 183 = .ok (.iconst 0, 1) := by decide +kernel
theorem dw_M_clear_184 : decode prog_11_method_59_code 184 = .ok (.putfield 191, 3) := by decide +kernel
theorem dw_M_clear_187 : decode prog_11_method_59_code 187 = .ok (.aload_n 0, 1) := by decide +kernel
theorem dw_M_clear_188 : decode prog_11_method_59_code 188 = .ok (.iconst 0, 1) := by decide +kernel
theorem dw_M_clear_189 : decode prog_11_method_59_code 189 = .ok (.putfield 183, 3) := by decide +kernel
theorem dw_M_clear_192 : decode prog_11_method_59_code 192 = .ok (.iconst 1, 1) := by decide +kernel
theorem dw_M_clear_193 : decode prog_11_method_59_code 193 = .ok (.ireturn, 1) := by decide +kernel
theorem dw_M_clear_122 : decode prog_11_method_59_code 122 = .ok (.iconst 0, 1) := by decide +kernel
theorem dw_M_clear_123 : decode prog_11_method_59_code 123 = .ok (.ireturn, 1) := by decide +kernel
theorem dw_M_clear_33 : decode prog_11_method_59_code 33 = .ok (.iload 4, 2) := by decide +kernel
theorem dw_M_clear_35 : decode prog_11_method_59_code 35 = .ok (.iload_n 2, 1) := by decide +kernel
theorem dw_M_clear_36 : decode prog_11_method_59_code 36 = .ok (.if_icmp .ge 82, 3) := by decide +kernel
theorem dw_M_clear_39 : decode prog_11_method_59_code 39 = .ok (.iload_n 3, 1) := by decide +kernel
theorem dw_M_clear_40 : decode prog_11_method_59_code 40 = .ok (.ifCond .eq 78, 3) := by decide +kernel
theorem dw_M_clear_43 : decode prog_11_method_59_code 43 = .ok (.aload_n 0, 1) := by decide +kernel
theorem dw_M_clear_44 : decode prog_11_method_59_code 44 = .ok (.getfield 90, 3) := by decide +kernel
theorem dw_M_clear_47 : decode prog_11_method_59_code 47 = .ok (.iload 4, 2) := by decide +kernel
theorem dw_M_clear_49 : decode prog_11_method_59_code 49 = .ok (.baload, 1) := by decide +kernel
theorem dw_M_clear_50 : decode prog_11_method_59_code 50 = .ok (.istore_n 3, 1) := by decide +kernel
theorem dw_M_clear_51 : decode prog_11_method_59_code 51 = .ok (.aload_n 0, 1) := by decide +kernel
theorem dw_M_clear_52 : decode prog_11_method_59_code 52 = .ok (.getfield 81, 3) := by decide +kernel
theorem dw_M_clear_55 : decode prog_11_method_59_code 55 = .ok (.iload 4, 2) := by decide +kernel
theorem dw_M_clear_57 : decode prog_11_method_59_code 57 = .ok (.iaload, 1) := by decide +kernel
theorem dw_M_clear_58 : decode prog_11_method_59_code 58 = .ok (.istore 5, 2) := by decide +kernel
theorem dw_M_clear_112 : decode prog_11_method_59_code 112 = .ok (.iinc 4 1, 3) := by decide +kernel
theorem dw_M_clear_115 : decode prog_11_method_59_code 115 = .ok (.goto (-82), 3) := by decide +kernel
theorem dw_M_clear_60 : decode prog_11_method_59_code 60 = .ok (.iload 5, 2) := by decide +kernel
theorem dw_M_clear_62 : decode prog_11_method_59_code 62 = .ok (.aload_n 0, 1) := by decide +kernel
theorem dw_M_clear_63 : decode prog_11_method_59_code 63 = .ok (.getfield 81, 3) := by decide +kernel
theorem dw_M_clear_66 : decode prog_11_method_59_code 66 = .ok (.iload 4, 2) := by decide +kernel
theorem dw_M_clear_68 : decode prog_11_method_59_code 68 = .ok (.iconst 1, 1) := by decide +kernel
theorem dw_M_clear_69 : decode prog_11_method_59_code 69 = .ok (.iadd, 1) := by decide +kernel
theorem dw_M_clear_70 : decode prog_11_method_59_code 70 = .ok (.iaload, 1) := by decide +kernel
theorem dw_M_clear_71 : decode prog_11_method_59_code 71 = .ok (.if_icmp .ge 41, 3) := by decide +kernel
theorem dw_M_clear_74 : decode prog_11_method_59_code 74 = .ok (.iload_n 3, 1) := by decide +kernel
theorem dw_M_clear_75 : decode prog_11_method_59_code 75 = .ok (.ifCond .eq 29, 3) := by decide +kernel
theorem dw_M_clear_105 : decode prog_11_method_59_code 105 = .ok (.istore_n 3, 1) := by decide +kernel
theorem dw_M_clear_106 : decode prog_11_method_59_code 106 = .ok (.iinc 5 1, 3) := by decide +kernel
theorem dw_M_clear_109 : decode prog_11_method_59_code 109 = .ok (.goto (-49), 3) := by decide +kernel
theorem dw_M_clear_104 : decode prog_11_method_59_code 104 = .ok (.iconst 0, 1) := by decide +kernel
theorem dw_M_clear_78 : decode prog_11_method_59_code 78 = .ok (.aload_n 0, 1) := by decide +kernel
theorem dw_M_clear_79 : decode prog_11_method_59_code 79 = .ok (.getfield 93, 3) := by decide +kernel
theorem dw_M_clear_82 : decode prog_11_method_59_code 82 = .ok (.iload 5, 2) := by decide +kernel
theorem dw_M_clear_84 : decode prog_11_method_59_code 84 = .ok (.baload, 1) := by decide +kernel
theorem dw_M_clear_85 : decode prog_11_method_59_code 85 = .ok (.iconst 2, 1) := by decide +kernel
theorem dw_M_clear_86 : decode prog_11_method_59_code 86 = .ok (.if_icmp .ne 14, 3) := by decide +kernel
theorem dw_M_clear_100 : decode prog_11_method_59_code 100 = .ok (.iconst 1, 1) := by decide +kernel
theorem dw_M_clear_101 : decode prog_11_method_59_code 101 = .ok (.goto 4, 3) := by decide +kernel
theorem dw_M_clear_89 : decode prog_11_method_59_code 89 = .ok (.aload_n 0, 1) := by decide +kernel
theorem dw_M_clear_90 : decode prog_11_method_59_code 90 = .ok (.getfield 96, 3) := by decide +kernel
theorem dw_M_clear_93 : decode prog_11_method_59_code 93 = .ok (.iload 5, 2) := by decide +kernel
theorem dw_M_clear_95 : decode prog_11_method_59_code 95 = .ok (.iaload, 1) := by decide +kernel
theorem dw_M_clear_96 : decode prog_11_method_59_code 96 = .ok (.iload_n 1, 1) := by decide +kernel
theorem dw_M_clear_97 : decode prog_11_method_59_code 97 = .ok (.if_icmp .ge 7, 3) := by decide +kernel
theorem dw_M_clear_28 : decode prog_11_method_59_code 28 = .ok (.iconst 0, 1) := by decide +kernel
theorem dw_M_clear_4 : decode prog_11_method_59_code 4 = .ok (.iload_n 1, 1) := by decide +kernel
theorem dw_M_clear_5 : decode prog_11_method_59_code 5 = .ok (.aload_n 0, 1) := by decide +kernel
theorem dw_M_clear_6 : decode prog_11_method_59_code 6 = .ok (.getfield 173, 3) := by decide +kernel
theorem dw_M_clear_9 : decode prog_11_method_59_code 9 = .ok (.if_icmp .gt 19, 3) := by decide +kernel
theorem dw_M_clear_12 : decode prog_11_method_59_code 12 = .ok (.iload_n 2, 1) := by decide +kernel
theorem dw_M_clear_13 : decode prog_11_method_59_code 13 = .ok (.ifCond .lt 15, 3) := by decide +kernel
theorem dw_M_clear_16 : decode prog_11_method_59_code 16 = .ok (.iload_n 2, 1) := by decide +kernel
theorem dw_M_clear_17 : decode prog_11_method_59_code 17 = .ok (.aload_n 0, 1) := by decide +kernel
theorem dw_M_clear_18 : decode prog_11_method_59_code 18 = .ok (.getfield 364, 3) := by decide +kernel
theorem dw_M_clear_21 : decode prog_11_method_59_code 21 = .ok (.if_icmp .gt 7, 3) := by decide +kernel
theorem dw_M_clear_24 : decode prog_11_method_59_code 24 = .ok (.iconst 1, 1) := by decide +kernel
theorem dw_M_clear_25 : decode prog_11_method_59_code 25 = .ok (.goto 4, 3) := by decide +kernel
theorem dw_M_count_0 : decode prog_11_method_60_code 0 = .ok (.iload_n 1, 1) := by decide +kernel
theorem dw_M_count_1 : decode prog_11_method_60_code 1 = .ok (.tableswitch 96 0 8 #[51, 56, 61, 66, 71, 76, 81, 86, 91], 51) := by decide +kernel
theorem dw_M_count_97 : decode prog_11_method_60_code 97 = .ok (.iconst (-1), 1) := by decide +kernel
theorem dw_M_count_98 : decode prog_11_method_60_code 98 = .ok (.ireturn, 1) := by decide +kernel
theorem dw_M_count_52 : decode prog_11_method_60_code 52 = .ok (.aload_n 0, 1) := by decide +kernel
theorem dw_M_count_53 : decode prog_11_method_60_code 53 = .ok (.getfield 173, 3) := by decide +kernel
theorem dw_M_count_56 : decode prog_11_method_60_code 56 = .ok (.ireturn, 1) := by decide +kernel
theorem dw_M_count_57 : decode prog_11_method_60_code 57 = .ok (.aload_n 0, 1) := by decide +kernel
theorem dw_M_count_58 : decode prog_11_method_60_code 58 = .ok (.getfield 177, 3) := by decide +kernel
theorem dw_M_count_61 : decode prog_11_method_60_code 61 = .ok (.ireturn, 1) := by decide +kernel
theorem dw_M_count_62 : decode prog_11_method_60_code 62 = .ok (.aload_n 0, 1) := by decide +kernel
theorem dw_M_count_63 : decode prog_11_method_60_code 63 = .ok (.getfield 191, 3) := by decide +kernel
theorem dw_M_count_66 : decode prog_11_method_60_code 66 = .ok (.ireturn, 1) := by decide +kernel
theorem dw_M_count_67 : decode prog_11_method_60_code 67 = .ok (.aload_n 0, 1) := by decide +kernel
theorem dw_M_count_68 : decode prog_11_method_60_code 68 = .ok (.getfield 364, 3) := by decide +kernel
theorem dw_M_count_71 : decode prog_11_method_60_code 71 = .ok (.ireturn, 1) := by decide +kernel
theorem dw_M_count_72 : decode prog_11_method_60_code 72 = .ok (.aload_n 0, 1) := by decide +kernel
theorem dw_M_count_73 : decode prog_11_method_60_code 73 = .ok (.getfield 180, 3) := by decide +kernel
theorem dw_M_count_76 : decode prog_11_method_60_code 76 = .ok (.ireturn, 1) := by decide +kernel
theorem dw_M_count_77 : decode prog_11_method_60_code 77 = .ok (.aload_n 0, 1) := by decide +kernel
theorem dw_M_count_78 : decode prog_11_method_60_code 78 = .ok (.getfield 338, 3) := by decide +kernel
theorem dw_M_count_81 : decode prog_11_method_60_code 81 = .ok (.ireturn, 1) := by decide +kernel
theorem dw_M_count_82 : decode prog_11_method_60_code 82 = .ok (.aload_n 0, 1) := by decide +kernel
theorem dw_M_count_83 : decode prog_11_method_60_code 83 = .ok (.getfield 344, 3) := by decide +kernel
theorem dw_M_count_86 : decode prog_11_method_60_code 86 = .ok (.ireturn, 1) := by decide +kernel
theorem dw_M_count_87 : decode prog_11_method_60_code 87 = .ok (.aload_n 0, 1) := by decide +kernel
theorem dw_M_count_88 : decode prog_11_method_60_code 88 = .ok (.getfield 209, 3) := by decide +kernel
theorem dw_M_count_91 : decode prog_11_method_60_code 91 = .ok (.ireturn, 1) := by decide +kernel
theorem dw_M_count_92 : decode prog_11_method_60_code 92 = .ok (.aload_n 0, 1) := by decide +kernel
theorem dw_M_count_93 : decode prog_11_method_60_code 93 = .ok (.getfield 183, 3) := by decide +kernel
theorem dw_M_count_96 : decode prog_11_method_60_code 96 = .ok (.ireturn, 1) := by decide +kernel
end
section
/-! the reference: object 0, the arrays 1 + j -/
def md_O (ob : Nat → Nat) (σ : gx_S) (_ : Nat) : Nat × List Value := (9, [.int (σ.1 0), .ref (ob 1), .ref (ob 2), .int (σ.1 1), .ref (ob 3), .ref (ob 4), .ref (ob 5), .ref (ob 6), .ref (ob 7), .ref (ob 8), .ref (ob 9), .ref (ob 10), .ref (ob 11), .int (σ.1 2), .ref (ob 12), .ref (ob 13), .int (σ.1 3), .int (σ.1 4), .ref (ob 14), .ref (ob 15), .ref (ob 16), .ref (ob 17), .ref (ob 18), .int (σ.1 5), .ref (ob 19), .ref (ob 20), .int (σ.1 6), .ref (ob 21), .ref (ob 22), .int (σ.1 7), .int (σ.1 8), .ref (ob 23), .ref (ob 24), .ref (ob 25), .ref (ob 26), .int (σ.1 9), .ref (ob 27), .ref (ob 28), .ref (ob 29), .ref (ob 30), .int (σ.1 10), .ref (ob 31), .ref (ob 32), .int (σ.1 11), .ref (ob 33), .ref (ob 34), .ref (ob 35), .ref (ob 36), .ref (ob 37), .ref (ob 38), .ref (ob 39), .ref (ob 40), .ref (ob 41), .ref (ob 42), .int (σ.1 12), .ref (ob 43), .int (σ.1 13), .ref (ob 44), .int (σ.1 14), .ref (ob 45), .ref (ob 46), .int (σ.1 15), .ref (ob 47), .ref (ob 48), .int (σ.1 16), .ref (ob 49), .ref (ob 50), .ref (ob 51), .int (σ.1 17), .int (σ.1 18), .int (σ.1 19), .int (σ.1 20), .ref (ob 52)])
def md_lens : List Nat := [2048, 2048, 24576, 24576, 24576, 24576, 24576, 24576, 24576, 24576, 24576, 65536, 65536, 1100, 1100, 1100, 1100, 1100, 70000, 70000, 128, 128, 2049, 2048, 2048, 2048, 16386, 16386, 16386, 16386, 32900, 32900, 65536, 65536, 24576, 24576, 24576, 24576, 24576, 1100, 1100, 1100, 24576, 1100, 128, 128, 128, 128, 140000, 24576, 24576, 16385]
def md_cs (cI cB cS cZ : ClassId) : List ClassId := [cB, cB, cB, cI, cI, cS, cI, cB, cZ, cI, cI, cS, cS, cB, cZ, cI, cI, cI, cS, cS, cI, cI, cI, cI, cI, cZ, cB, cI, cI, cI, cS, cS, cS, cS, cI, cB, cZ, cI, cI, cB, cZ, cI, cS, cS, cI, cI, cI, cI, cS, cB, cI, cZ]
def md_u (ob : Nat → Nat) (cI cB cS cZ : ClassId) : gf_U := ((1, 52), md_O ob, (fun _ => 0), (fun j => (md_cs cI cB cS cZ).getD j cI), (fun j => md_lens.getD j 0))
def md_V (D : va_G) (ob : Nat → Nat) (cI cB cS cZ : ClassId) : gx_V := gf_V D tq_cl [(cI, .int), (cB, .byte), (cS, .short), (cZ, .boolean)] (md_u ob cI cB cS cZ) ob
section MD
variable {D : va_G} {ob : Nat → Nat} {cI cB cS cZ : ClassId} {X : gx_X} {cc : ByteArray} {own : String} {nL fr lo : Nat} {rt : Option FieldType} {res : gx_R} {σ : gx_S} {pc : Nat} {lv : List (Nat × Value)} {st : List Value}
set_option maxRecDepth 100000 in
theorem mg_0 (hX : gx_K (md_V D ob cI cB cS cZ) X cc own nL fr lo rt) {idx : Nat} {v : Value} (f n : Nat) (hf : f < 73) (hlink : Cond.fieldLink own idx (tf_9 f).1 (tf_9 f).2.1 (tf_9 f).2.2.1 ∈ gx_T) (hv : (md_O ob σ 0).2[f]? = some v) (hd : decode cc pc = .ok (.getfield idx, 3)) (hn : pc + 3 = n) (kk : gx_G (md_V D ob cI cB cS cZ) X res σ n lv (v :: st)) : gx_G (md_V D ob cI cB cS cZ) X res σ pc lv (.ref (ob 0) :: st) := gf_get (u := md_u ob cI cB cS cZ) hX 0 f n (show 0 < 1 by decide) rfl ti_9 hf hlink rfl hv hd hn kk
set_option maxRecDepth 100000 in
theorem mp_0 (hX : gx_K (md_V D ob cI cB cS cZ) X cc own nL fr lo rt) {idx : Nat} {x : Int32} {kf : gx_S → gx_R} (n : Nat) (hlink : Cond.fieldLink own idx "TypeLoomModel" "constructors" "I" ∈ gx_T) (hd : decode cc pc = .ok (.putfield idx, 3)) (hn : pc + 3 = n) (kk : ∀ σ', gx_G (md_V D ob cI cB cS cZ) X (kf σ') σ' n lv st) : gx_G (md_V D ob cI cB cS cZ) X (gx_sb (gx_si σ 0 x) kf) σ pc lv (.int x :: .ref (ob 0) :: st) := gf_put (u := md_u ob cI cB cS cZ) hX 0 0 0 n (show 0 < 1 by decide) rfl ti_9 tt_9 tk_9 tn_9 (by decide) hlink rfl rfl rfl (Nat.le_of_ble_eq_true rfl) rfl (fun q h1 h2 => absurd (Nat.lt_one_iff.mp h1) h2) hd hn kk
set_option maxRecDepth 100000 in
theorem mp_1 (hX : gx_K (md_V D ob cI cB cS cZ) X cc own nL fr lo rt) {idx : Nat} {x : Int32} {kf : gx_S → gx_R} (n : Nat) (hlink : Cond.fieldLink own idx "TypeLoomModel" "types" "I" ∈ gx_T) (hd : decode cc pc = .ok (.putfield idx, 3)) (hn : pc + 3 = n) (kk : ∀ σ', gx_G (md_V D ob cI cB cS cZ) X (kf σ') σ' n lv st) : gx_G (md_V D ob cI cB cS cZ) X (gx_sb (gx_si σ 1 x) kf) σ pc lv (.int x :: .ref (ob 0) :: st) := gf_put (u := md_u ob cI cB cS cZ) hX 0 3 1 n (show 0 < 1 by decide) rfl ti_9 tt_9 tk_9 tn_9 (by decide) hlink rfl rfl rfl (Nat.le_of_ble_eq_true rfl) rfl (fun q h1 h2 => absurd (Nat.lt_one_iff.mp h1) h2) hd hn kk
set_option maxRecDepth 100000 in
theorem mp_2 (hX : gx_K (md_V D ob cI cB cS cZ) X cc own nL fr lo rt) {idx : Nat} {x : Int32} {kf : gx_S → gx_R} (n : Nat) (hlink : Cond.fieldLink own idx "TypeLoomModel" "parts" "I" ∈ gx_T) (hd : decode cc pc = .ok (.putfield idx, 3)) (hn : pc + 3 = n) (kk : ∀ σ', gx_G (md_V D ob cI cB cS cZ) X (kf σ') σ' n lv st) : gx_G (md_V D ob cI cB cS cZ) X (gx_sb (gx_si σ 2 x) kf) σ pc lv (.int x :: .ref (ob 0) :: st) := gf_put (u := md_u ob cI cB cS cZ) hX 0 13 2 n (show 0 < 1 by decide) rfl ti_9 tt_9 tk_9 tn_9 (by decide) hlink rfl rfl rfl (Nat.le_of_ble_eq_true rfl) rfl (fun q h1 h2 => absurd (Nat.lt_one_iff.mp h1) h2) hd hn kk
set_option maxRecDepth 100000 in
theorem mp_3 (hX : gx_K (md_V D ob cI cB cS cZ) X cc own nL fr lo rt) {idx : Nat} {x : Int32} {kf : gx_S → gx_R} (n : Nat) (hlink : Cond.fieldLink own idx "TypeLoomModel" "rows" "I" ∈ gx_T) (hd : decode cc pc = .ok (.putfield idx, 3)) (hn : pc + 3 = n) (kk : ∀ σ', gx_G (md_V D ob cI cB cS cZ) X (kf σ') σ' n lv st) : gx_G (md_V D ob cI cB cS cZ) X (gx_sb (gx_si σ 3 x) kf) σ pc lv (.int x :: .ref (ob 0) :: st) := gf_put (u := md_u ob cI cB cS cZ) hX 0 16 3 n (show 0 < 1 by decide) rfl ti_9 tt_9 tk_9 tn_9 (by decide) hlink rfl rfl rfl (Nat.le_of_ble_eq_true rfl) rfl (fun q h1 h2 => absurd (Nat.lt_one_iff.mp h1) h2) hd hn kk
set_option maxRecDepth 100000 in
theorem mp_4 (hX : gx_K (md_V D ob cI cB cS cZ) X cc own nL fr lo rt) {idx : Nat} {x : Int32} {kf : gx_S → gx_R} (n : Nat) (hlink : Cond.fieldLink own idx "TypeLoomModel" "allRows" "I" ∈ gx_T) (hd : decode cc pc = .ok (.putfield idx, 3)) (hn : pc + 3 = n) (kk : ∀ σ', gx_G (md_V D ob cI cB cS cZ) X (kf σ') σ' n lv st) : gx_G (md_V D ob cI cB cS cZ) X (gx_sb (gx_si σ 4 x) kf) σ pc lv (.int x :: .ref (ob 0) :: st) := gf_put (u := md_u ob cI cB cS cZ) hX 0 17 4 n (show 0 < 1 by decide) rfl ti_9 tt_9 tk_9 tn_9 (by decide) hlink rfl rfl rfl (Nat.le_of_ble_eq_true rfl) rfl (fun q h1 h2 => absurd (Nat.lt_one_iff.mp h1) h2) hd hn kk
set_option maxRecDepth 100000 in
theorem mp_5 (hX : gx_K (md_V D ob cI cB cS cZ) X cc own nL fr lo rt) {idx : Nat} {x : Int32} {kf : gx_S → gx_R} (n : Nat) (hlink : Cond.fieldLink own idx "TypeLoomModel" "rowParts" "I" ∈ gx_T) (hd : decode cc pc = .ok (.putfield idx, 3)) (hn : pc + 3 = n) (kk : ∀ σ', gx_G (md_V D ob cI cB cS cZ) X (kf σ') σ' n lv st) : gx_G (md_V D ob cI cB cS cZ) X (gx_sb (gx_si σ 5 x) kf) σ pc lv (.int x :: .ref (ob 0) :: st) := gf_put (u := md_u ob cI cB cS cZ) hX 0 23 5 n (show 0 < 1 by decide) rfl ti_9 tt_9 tk_9 tn_9 (by decide) hlink rfl rfl rfl (Nat.le_of_ble_eq_true rfl) rfl (fun q h1 h2 => absurd (Nat.lt_one_iff.mp h1) h2) hd hn kk
set_option maxRecDepth 100000 in
theorem mp_6 (hX : gx_K (md_V D ob cI cB cS cZ) X cc own nL fr lo rt) {idx : Nat} {x : Int32} {kf : gx_S → gx_R} (n : Nat) (hlink : Cond.fieldLink own idx "TypeLoomModel" "pushed" "I" ∈ gx_T) (hd : decode cc pc = .ok (.putfield idx, 3)) (hn : pc + 3 = n) (kk : ∀ σ', gx_G (md_V D ob cI cB cS cZ) X (kf σ') σ' n lv st) : gx_G (md_V D ob cI cB cS cZ) X (gx_sb (gx_si σ 6 x) kf) σ pc lv (.int x :: .ref (ob 0) :: st) := gf_put (u := md_u ob cI cB cS cZ) hX 0 26 6 n (show 0 < 1 by decide) rfl ti_9 tt_9 tk_9 tn_9 (by decide) hlink rfl rfl rfl (Nat.le_of_ble_eq_true rfl) rfl (fun q h1 h2 => absurd (Nat.lt_one_iff.mp h1) h2) hd hn kk
set_option maxRecDepth 100000 in
theorem mp_7 (hX : gx_K (md_V D ob cI cB cS cZ) X cc own nL fr lo rt) {idx : Nat} {x : Int32} {kf : gx_S → gx_R} (n : Nat) (hlink : Cond.fieldLink own idx "TypeLoomModel" "present" "I" ∈ gx_T) (hd : decode cc pc = .ok (.putfield idx, 3)) (hn : pc + 3 = n) (kk : ∀ σ', gx_G (md_V D ob cI cB cS cZ) X (kf σ') σ' n lv st) : gx_G (md_V D ob cI cB cS cZ) X (gx_sb (gx_si σ 7 x) kf) σ pc lv (.int x :: .ref (ob 0) :: st) := gf_put (u := md_u ob cI cB cS cZ) hX 0 29 7 n (show 0 < 1 by decide) rfl ti_9 tt_9 tk_9 tn_9 (by decide) hlink rfl rfl rfl (Nat.le_of_ble_eq_true rfl) rfl (fun q h1 h2 => absurd (Nat.lt_one_iff.mp h1) h2) hd hn kk
set_option maxRecDepth 100000 in
theorem mp_8 (hX : gx_K (md_V D ob cI cB cS cZ) X cc own nL fr lo rt) {idx : Nat} {x : Int32} {kf : gx_S → gx_R} (n : Nat) (hlink : Cond.fieldLink own idx "TypeLoomModel" "schemes" "I" ∈ gx_T) (hd : decode cc pc = .ok (.putfield idx, 3)) (hn : pc + 3 = n) (kk : ∀ σ', gx_G (md_V D ob cI cB cS cZ) X (kf σ') σ' n lv st) : gx_G (md_V D ob cI cB cS cZ) X (gx_sb (gx_si σ 8 x) kf) σ pc lv (.int x :: .ref (ob 0) :: st) := gf_put (u := md_u ob cI cB cS cZ) hX 0 30 8 n (show 0 < 1 by decide) rfl ti_9 tt_9 tk_9 tn_9 (by decide) hlink rfl rfl rfl (Nat.le_of_ble_eq_true rfl) rfl (fun q h1 h2 => absurd (Nat.lt_one_iff.mp h1) h2) hd hn kk
set_option maxRecDepth 100000 in
theorem mp_9 (hX : gx_K (md_V D ob cI cB cS cZ) X cc own nL fr lo rt) {idx : Nat} {x : Int32} {kf : gx_S → gx_R} (n : Nat) (hlink : Cond.fieldLink own idx "TypeLoomModel" "schemeTypes" "I" ∈ gx_T) (hd : decode cc pc = .ok (.putfield idx, 3)) (hn : pc + 3 = n) (kk : ∀ σ', gx_G (md_V D ob cI cB cS cZ) X (kf σ') σ' n lv st) : gx_G (md_V D ob cI cB cS cZ) X (gx_sb (gx_si σ 9 x) kf) σ pc lv (.int x :: .ref (ob 0) :: st) := gf_put (u := md_u ob cI cB cS cZ) hX 0 35 9 n (show 0 < 1 by decide) rfl ti_9 tt_9 tk_9 tn_9 (by decide) hlink rfl rfl rfl (Nat.le_of_ble_eq_true rfl) rfl (fun q h1 h2 => absurd (Nat.lt_one_iff.mp h1) h2) hd hn kk
set_option maxRecDepth 100000 in
theorem mp_10 (hX : gx_K (md_V D ob cI cB cS cZ) X cc own nL fr lo rt) {idx : Nat} {x : Int32} {kf : gx_S → gx_R} (n : Nat) (hlink : Cond.fieldLink own idx "TypeLoomModel" "schemeParts" "I" ∈ gx_T) (hd : decode cc pc = .ok (.putfield idx, 3)) (hn : pc + 3 = n) (kk : ∀ σ', gx_G (md_V D ob cI cB cS cZ) X (kf σ') σ' n lv st) : gx_G (md_V D ob cI cB cS cZ) X (gx_sb (gx_si σ 10 x) kf) σ pc lv (.int x :: .ref (ob 0) :: st) := gf_put (u := md_u ob cI cB cS cZ) hX 0 40 10 n (show 0 < 1 by decide) rfl ti_9 tt_9 tk_9 tn_9 (by decide) hlink rfl rfl rfl (Nat.le_of_ble_eq_true rfl) rfl (fun q h1 h2 => absurd (Nat.lt_one_iff.mp h1) h2) hd hn kk
set_option maxRecDepth 100000 in
theorem mp_11 (hX : gx_K (md_V D ob cI cB cS cZ) X cc own nL fr lo rt) {idx : Nat} {x : Int32} {kf : gx_S → gx_R} (n : Nat) (hlink : Cond.fieldLink own idx "TypeLoomModel" "equations" "I" ∈ gx_T) (hd : decode cc pc = .ok (.putfield idx, 3)) (hn : pc + 3 = n) (kk : ∀ σ', gx_G (md_V D ob cI cB cS cZ) X (kf σ') σ' n lv st) : gx_G (md_V D ob cI cB cS cZ) X (gx_sb (gx_si σ 11 x) kf) σ pc lv (.int x :: .ref (ob 0) :: st) := gf_put (u := md_u ob cI cB cS cZ) hX 0 43 11 n (show 0 < 1 by decide) rfl ti_9 tt_9 tk_9 tn_9 (by decide) hlink rfl rfl rfl (Nat.le_of_ble_eq_true rfl) rfl (fun q h1 h2 => absurd (Nat.lt_one_iff.mp h1) h2) hd hn kk
set_option maxRecDepth 100000 in
theorem mp_12 (hX : gx_K (md_V D ob cI cB cS cZ) X cc own nL fr lo rt) {idx : Nat} {x : Int32} {kf : gx_S → gx_R} (n : Nat) (hlink : Cond.fieldLink own idx "TypeLoomModel" "bound" "I" ∈ gx_T) (hd : decode cc pc = .ok (.putfield idx, 3)) (hn : pc + 3 = n) (kk : ∀ σ', gx_G (md_V D ob cI cB cS cZ) X (kf σ') σ' n lv st) : gx_G (md_V D ob cI cB cS cZ) X (gx_sb (gx_si σ 12 x) kf) σ pc lv (.int x :: .ref (ob 0) :: st) := gf_put (u := md_u ob cI cB cS cZ) hX 0 54 12 n (show 0 < 1 by decide) rfl ti_9 tt_9 tk_9 tn_9 (by decide) hlink rfl rfl rfl (Nat.le_of_ble_eq_true rfl) rfl (fun q h1 h2 => absurd (Nat.lt_one_iff.mp h1) h2) hd hn kk
set_option maxRecDepth 100000 in
theorem mp_13 (hX : gx_K (md_V D ob cI cB cS cZ) X cc own nL fr lo rt) {idx : Nat} {x : Int32} {kf : gx_S → gx_R} (n : Nat) (hlink : Cond.fieldLink own idx "TypeLoomModel" "boundRows" "I" ∈ gx_T) (hd : decode cc pc = .ok (.putfield idx, 3)) (hn : pc + 3 = n) (kk : ∀ σ', gx_G (md_V D ob cI cB cS cZ) X (kf σ') σ' n lv st) : gx_G (md_V D ob cI cB cS cZ) X (gx_sb (gx_si σ 13 x) kf) σ pc lv (.int x :: .ref (ob 0) :: st) := gf_put (u := md_u ob cI cB cS cZ) hX 0 56 13 n (show 0 < 1 by decide) rfl ti_9 tt_9 tk_9 tn_9 (by decide) hlink rfl rfl rfl (Nat.le_of_ble_eq_true rfl) rfl (fun q h1 h2 => absurd (Nat.lt_one_iff.mp h1) h2) hd hn kk
set_option maxRecDepth 100000 in
theorem mp_14 (hX : gx_K (md_V D ob cI cB cS cZ) X cc own nL fr lo rt) {idx : Nat} {x : Int32} {kf : gx_S → gx_R} (n : Nat) (hlink : Cond.fieldLink own idx "TypeLoomModel" "ones" "I" ∈ gx_T) (hd : decode cc pc = .ok (.putfield idx, 3)) (hn : pc + 3 = n) (kk : ∀ σ', gx_G (md_V D ob cI cB cS cZ) X (kf σ') σ' n lv st) : gx_G (md_V D ob cI cB cS cZ) X (gx_sb (gx_si σ 14 x) kf) σ pc lv (.int x :: .ref (ob 0) :: st) := gf_put (u := md_u ob cI cB cS cZ) hX 0 58 14 n (show 0 < 1 by decide) rfl ti_9 tt_9 tk_9 tn_9 (by decide) hlink rfl rfl rfl (Nat.le_of_ble_eq_true rfl) rfl (fun q h1 h2 => absurd (Nat.lt_one_iff.mp h1) h2) hd hn kk
set_option maxRecDepth 100000 in
theorem mp_15 (hX : gx_K (md_V D ob cI cB cS cZ) X cc own nL fr lo rt) {idx : Nat} {x : Int32} {kf : gx_S → gx_R} (n : Nat) (hlink : Cond.fieldLink own idx "TypeLoomModel" "twos" "I" ∈ gx_T) (hd : decode cc pc = .ok (.putfield idx, 3)) (hn : pc + 3 = n) (kk : ∀ σ', gx_G (md_V D ob cI cB cS cZ) X (kf σ') σ' n lv st) : gx_G (md_V D ob cI cB cS cZ) X (gx_sb (gx_si σ 15 x) kf) σ pc lv (.int x :: .ref (ob 0) :: st) := gf_put (u := md_u ob cI cB cS cZ) hX 0 61 15 n (show 0 < 1 by decide) rfl ti_9 tt_9 tk_9 tn_9 (by decide) hlink rfl rfl rfl (Nat.le_of_ble_eq_true rfl) rfl (fun q h1 h2 => absurd (Nat.lt_one_iff.mp h1) h2) hd hn kk
set_option maxRecDepth 100000 in
theorem mp_16 (hX : gx_K (md_V D ob cI cB cS cZ) X cc own nL fr lo rt) {idx : Nat} {x : Int32} {kf : gx_S → gx_R} (n : Nat) (hlink : Cond.fieldLink own idx "TypeLoomModel" "piled" "I" ∈ gx_T) (hd : decode cc pc = .ok (.putfield idx, 3)) (hn : pc + 3 = n) (kk : ∀ σ', gx_G (md_V D ob cI cB cS cZ) X (kf σ') σ' n lv st) : gx_G (md_V D ob cI cB cS cZ) X (gx_sb (gx_si σ 16 x) kf) σ pc lv (.int x :: .ref (ob 0) :: st) := gf_put (u := md_u ob cI cB cS cZ) hX 0 64 16 n (show 0 < 1 by decide) rfl ti_9 tt_9 tk_9 tn_9 (by decide) hlink rfl rfl rfl (Nat.le_of_ble_eq_true rfl) rfl (fun q h1 h2 => absurd (Nat.lt_one_iff.mp h1) h2) hd hn kk
set_option maxRecDepth 100000 in
theorem mp_17 (hX : gx_K (md_V D ob cI cB cS cZ) X cc own nL fr lo rt) {idx : Nat} {x : Int32} {kf : gx_S → gx_R} (n : Nat) (hlink : Cond.fieldLink own idx "TypeLoomModel" "quantities" "I" ∈ gx_T) (hd : decode cc pc = .ok (.putfield idx, 3)) (hn : pc + 3 = n) (kk : ∀ σ', gx_G (md_V D ob cI cB cS cZ) X (kf σ') σ' n lv st) : gx_G (md_V D ob cI cB cS cZ) X (gx_sb (gx_si σ 17 x) kf) σ pc lv (.int x :: .ref (ob 0) :: st) := gf_put (u := md_u ob cI cB cS cZ) hX 0 68 17 n (show 0 < 1 by decide) rfl ti_9 tt_9 tk_9 tn_9 (by decide) hlink rfl rfl rfl (Nat.le_of_ble_eq_true rfl) rfl (fun q h1 h2 => absurd (Nat.lt_one_iff.mp h1) h2) hd hn kk
set_option maxRecDepth 100000 in
theorem mp_18 (hX : gx_K (md_V D ob cI cB cS cZ) X cc own nL fr lo rt) {idx : Nat} {x : Int32} {kf : gx_S → gx_R} (n : Nat) (hlink : Cond.fieldLink own idx "TypeLoomModel" "equalities" "I" ∈ gx_T) (hd : decode cc pc = .ok (.putfield idx, 3)) (hn : pc + 3 = n) (kk : ∀ σ', gx_G (md_V D ob cI cB cS cZ) X (kf σ') σ' n lv st) : gx_G (md_V D ob cI cB cS cZ) X (gx_sb (gx_si σ 18 x) kf) σ pc lv (.int x :: .ref (ob 0) :: st) := gf_put (u := md_u ob cI cB cS cZ) hX 0 69 18 n (show 0 < 1 by decide) rfl ti_9 tt_9 tk_9 tn_9 (by decide) hlink rfl rfl rfl (Nat.le_of_ble_eq_true rfl) rfl (fun q h1 h2 => absurd (Nat.lt_one_iff.mp h1) h2) hd hn kk
end MD
end
section
def km_M_isType (σ : gx_S) (L1 : Int32) : gx_R :=
  if L1 < 0 then
    gx_rz σ 0
  else
    if (σ.1 1) ≤ L1 then
      gx_rz σ 0
    else
      gx_rz σ 1
set_option maxRecDepth 100000 in
set_option maxHeartbeats 4000000 in
theorem tl_M_isType {D : va_G} {ob : Nat → Nat} {cI cB cS cZ : ClassId} {X : gx_X} (hX : gx_K (md_V D ob cI cB cS cZ) X prog_11_method_3_code "TypeLoomModel" 2 0 0 (some .boolean)) (σ : gx_S) (L1 : Int32) : gx_G (md_V D ob cI cB cS cZ) X (km_M_isType σ L1) σ 0 [(0, .ref (ob 0)), (1, .int L1)] [] := by
  unfold km_M_isType
  refine gx_iload_n hX 1 1 dw_M_isType_0 rfl rfl rfl ?_
  refine gx_if_lt hX 16 4 dw_M_isType_1 (by decide) rfl (fun _ => ?_) (fun _ => ?_)
  · refine gx_iconst hX 0 17 dw_M_isType_16 (by decide) rfl ?_
    exact gx_retz hX dw_M_isType_17
  · refine gx_iload_n hX 1 5 dw_M_isType_4 rfl rfl rfl ?_
    refine gx_aload_n hX 0 6 dw_M_isType_5 rfl rfl rfl ?_
    refine mg_0 hX 3 9 (by decide) tw_911 rfl dw_M_isType_6 rfl ?_
    refine gx_icmp_ge hX 16 12 dw_M_isType_9 (by decide) rfl (fun _ => ?_) (fun _ => ?_)
    · refine gx_iconst hX 0 17 dw_M_isType_16 (by decide) rfl ?_
      exact gx_retz hX dw_M_isType_17
    · refine gx_iconst hX 1 13 dw_M_isType_12 (by decide) rfl ?_
      refine gx_goto hX 17 dw_M_isType_13 (by decide) ?_
      exact gx_retz hX dw_M_isType_17
def my_M_isType : MethodName := ⟨"TypeLoomModel", "isType", "(I)Z"⟩
theorem hy_M_isType : (my_M_isType.cls ≠ "java/lang/invoke/MethodHandle" ∧ my_M_isType.cls ≠ "java/lang/invoke/VarHandle") ∧ (parseMethodDescriptor my_M_isType.desc).map (fun d => d.parameters.length) = some 1 := by decide +kernel
theorem tm_M_isType {D : va_G} {ob : Nat → Nat} {cI cB cS cZ : ClassId} (l : Launch) (σ : gx_S) (L1 : Int32) : gx_C l (md_V D ob cI cB cS cZ) my_M_isType prog_11_method_3_code 2 (some .boolean) 0 0 [.ref (ob 0), .int L1] σ (km_M_isType σ L1) := gx_met (by decide) rfl (Nat.le_of_ble_eq_true rfl) rfl (fun X _ hX => tl_M_isType hX σ L1)
theorem tr_M_isType {D : va_G} {ob : Nat → Nat} {cI cB cS cZ : ClassId} {X : gx_X} {cc : ByteArray} {own : String} {nL fr lo : Nat} {rt : Option FieldType} {σ : gx_S} {pc : Nat} {lv : List (Nat × Value)} {st : List Value} (hX : gx_K (md_V D ob cI cB cS cZ) X cc own nL fr lo rt) {idx : Nat} {L1 : Int32} {k : gx_S → Int32 → gx_R} (n : Nat) (hlink : Cond.methodLink own idx ({ cls := "TypeLoomModel", name := "isType", desc := "(I)Z" } : Jvm.MethodName) ∈ gx_T) (hroom : 0 + 1 ≤ fr ∧ 8 + (2 + 11) + 0 ≤ lo) (hst : (st.map fun v => v.category).sum ≤ 8) (hd : decode cc pc = .ok (.invokevirtual idx, 3)) (hn : pc + 3 = n) (kk : ∀ σ' r, gx_G (md_V D ob cI cB cS cZ) X (k σ' r) σ' n lv (.int r :: st)) : gx_G (md_V D ob cI cB cS cZ) X (gx_bd (km_M_isType σ L1) k) σ pc lv (.int L1 :: .ref (ob 0) :: st) :=
  gx_callI hX [.int L1] n rfl (tm_M_isType _ σ L1) hy_M_isType tw_1143 hlink tw_1142 tw_28 tw_79 (gf_recv 0 (show 0 < 1 by decide) rfl rfl) hroom hst hd hn rfl (fun σ' r _ => kk σ' r)
def km_M_make (σ : gx_S) (L1 : Int32) (L2 : Int32) : gx_R :=
  gx_bv ((σ.1 1)) (fun x1 =>
  gx_sb (gx_si σ 1 ((((σ.1 1)) + 1))) (fun σ2 =>
  gx_st σ2 2 24576 x1 (vp_nar .byte (((Int32.toInt8 L1).toInt32))) (fun σ3 =>
  gx_st σ3 3 24576 x1 L2 (fun σ4 =>
  gx_st σ4 4 24576 x1 ((σ4.1 2)) (fun σ5 =>
  gx_st σ5 5 24576 x1 (vp_nar .short 0) (fun σ6 =>
  gx_st σ6 6 24576 x1 (-1) (fun σ7 =>
  gx_st σ7 7 24576 x1 (vp_nar .byte (((Int32.toInt8 ((σ7.1 7))).toInt32))) (fun σ8 =>
  gx_st σ8 8 24576 x1 (vp_nar .boolean 0) (fun σ9 =>
  gx_st σ9 9 24576 x1 0 (fun σ10 =>
  gx_st σ10 10 24576 x1 (-1) (fun σ11 =>
  some (σ11, x1))))))))))))
set_option maxRecDepth 100000 in
set_option maxHeartbeats 4000000 in
theorem tl_M_make {D : va_G} {ob : Nat → Nat} {cI cB cS cZ : ClassId} {X : gx_X} (hX : gx_K (md_V D ob cI cB cS cZ) X prog_11_method_4_code "TypeLoomModel" 4 0 0 (some .int)) (σ : gx_S) (L1 : Int32) (L2 : Int32) : gx_G (md_V D ob cI cB cS cZ) X (km_M_make σ L1 L2) σ 0 [(0, .ref (ob 0)), (1, .int L1), (2, .int L2)] [] := by
  unfold km_M_make
  refine gx_aload_n hX 0 1 dw_M_make_0 rfl rfl rfl ?_
  refine mg_0 hX 3 4 (by decide) tw_911 rfl dw_M_make_1 rfl ?_
  refine gx_bvN (fun x1 => ?_)
  refine gx_istore_n hX [(3, .int x1), (0, .ref (ob 0)), (1, .int L1), (2, .int L2)] 5 dw_M_make_4 rfl (by decide) rfl rfl ?_
  refine gx_aload_n hX 1 6 dw_M_make_5 rfl rfl rfl ?_
  refine gx_dup hX 7 dw_M_make_6 rfl rfl ?_
  refine mg_0 hX 3 10 (by decide) tw_911 rfl dw_M_make_7 rfl ?_
  refine gx_iconst hX 1 11 dw_M_make_10 (by decide) rfl ?_
  refine gx_iadd hX 12 dw_M_make_11 rfl ?_
  refine mp_1 hX 15 tw_911 dw_M_make_12 rfl (fun σ2 => ?_)
  refine gx_aload_n hX 1 16 dw_M_make_15 rfl rfl rfl ?_
  refine mg_0 hX 4 19 (by decide) tw_912 rfl dw_M_make_16 rfl ?_
  refine gx_iload_n hX 0 20 dw_M_make_19 rfl rfl rfl ?_
  refine gx_iload_n hX 2 21 dw_M_make_20 rfl rfl rfl ?_
  refine gx_i2b hX 22 dw_M_make_21 rfl ?_
  refine gf_bast (u := md_u ob cI cB cS cZ) hX 2 3 1 23 (show 2 < 52 by decide) rfl rfl (fun _ _ _ => rfl) dw_M_make_22 rfl (fun σ3 => ?_)
  refine gx_aload_n hX 1 24 dw_M_make_23 rfl rfl rfl ?_
  refine mg_0 hX 5 27 (by decide) tw_913 rfl dw_M_make_24 rfl ?_
  refine gx_iload_n hX 0 28 dw_M_make_27 rfl rfl rfl ?_
  refine gx_iload_n hX 3 29 dw_M_make_28 rfl rfl rfl ?_
  refine gf_iast (u := md_u ob cI cB cS cZ) hX 3 4 0 30 (show 3 < 52 by decide) rfl rfl (fun _ _ _ => rfl) dw_M_make_29 rfl (fun σ4 => ?_)
  refine gx_aload_n hX 1 31 dw_M_make_30 rfl rfl rfl ?_
  refine mg_0 hX 6 34 (by decide) tw_914 rfl dw_M_make_31 rfl ?_
  refine gx_iload_n hX 0 35 dw_M_make_34 rfl rfl rfl ?_
  refine gx_aload_n hX 1 36 dw_M_make_35 rfl rfl rfl ?_
  refine mg_0 hX 13 39 (by decide) tw_921 rfl dw_M_make_36 rfl ?_
  refine gf_iast (u := md_u ob cI cB cS cZ) hX 4 5 0 40 (show 4 < 52 by decide) rfl rfl (fun _ _ _ => rfl) dw_M_make_39 rfl (fun σ5 => ?_)
  refine gx_aload_n hX 1 41 dw_M_make_40 rfl rfl rfl ?_
  refine mg_0 hX 7 44 (by decide) tw_915 rfl dw_M_make_41 rfl ?_
  refine gx_iload_n hX 0 45 dw_M_make_44 rfl rfl rfl ?_
  refine gx_iconst hX 0 46 dw_M_make_45 (by decide) rfl ?_
  refine gf_sast (u := md_u ob cI cB cS cZ) hX 5 6 2 47 (show 5 < 52 by decide) rfl rfl (fun _ _ _ => rfl) dw_M_make_46 rfl (fun σ6 => ?_)
  refine gx_aload_n hX 1 48 dw_M_make_47 rfl rfl rfl ?_
  refine mg_0 hX 8 51 (by decide) tw_916 rfl dw_M_make_48 rfl ?_
  refine gx_iload_n hX 0 52 dw_M_make_51 rfl rfl rfl ?_
  refine gx_iconst hX (-1) 53 dw_M_make_52 (by decide) rfl ?_
  refine gf_iast (u := md_u ob cI cB cS cZ) hX 6 7 0 54 (show 6 < 52 by decide) rfl rfl (fun _ _ _ => rfl) dw_M_make_53 rfl (fun σ7 => ?_)
  refine gx_aload_n hX 1 55 dw_M_make_54 rfl rfl rfl ?_
  refine mg_0 hX 9 58 (by decide) tw_917 rfl dw_M_make_55 rfl ?_
  refine gx_iload_n hX 0 59 dw_M_make_58 rfl rfl rfl ?_
  refine gx_aload_n hX 1 60 dw_M_make_59 rfl rfl rfl ?_
  refine mg_0 hX 29 63 (by decide) tw_937 rfl dw_M_make_60 rfl ?_
  refine gx_i2b hX 64 dw_M_make_63 rfl ?_
  refine gf_bast (u := md_u ob cI cB cS cZ) hX 7 8 1 65 (show 7 < 52 by decide) rfl rfl (fun _ _ _ => rfl) dw_M_make_64 rfl (fun σ8 => ?_)
  refine gx_aload_n hX 1 66 dw_M_make_65 rfl rfl rfl ?_
  refine mg_0 hX 10 69 (by decide) tw_918 rfl dw_M_make_66 rfl ?_
  refine gx_iload_n hX 0 70 dw_M_make_69 rfl rfl rfl ?_
  refine gx_iconst hX 0 71 dw_M_make_70 (by decide) rfl ?_
  refine gf_zast (u := md_u ob cI cB cS cZ) hX 8 9 3 72 (show 8 < 52 by decide) rfl rfl (fun _ _ _ => rfl) dw_M_make_71 rfl (fun σ9 => ?_)
  refine gx_aload_n hX 1 73 dw_M_make_72 rfl rfl rfl ?_
  refine mg_0 hX 11 76 (by decide) tw_919 rfl dw_M_make_73 rfl ?_
  refine gx_iload_n hX 0 77 dw_M_make_76 rfl rfl rfl ?_
  refine gx_iconst hX 0 78 dw_M_make_77 (by decide) rfl ?_
  refine gf_iast (u := md_u ob cI cB cS cZ) hX 9 10 0 79 (show 9 < 52 by decide) rfl rfl (fun _ _ _ => rfl) dw_M_make_78 rfl (fun σ10 => ?_)
  refine gx_aload_n hX 1 80 dw_M_make_79 rfl rfl rfl ?_
  refine mg_0 hX 12 83 (by decide) tw_920 rfl dw_M_make_80 rfl ?_
  refine gx_iload_n hX 0 84 dw_M_make_83 rfl rfl rfl ?_
  refine gx_iconst hX (-1) 85 dw_M_make_84 (by decide) rfl ?_
  refine gf_iast (u := md_u ob cI cB cS cZ) hX 10 11 0 86 (show 10 < 52 by decide) rfl rfl (fun _ _ _ => rfl) dw_M_make_85 rfl (fun σ11 => ?_)
  refine gx_iload_n hX 0 87 dw_M_make_86 rfl rfl rfl ?_
  exact gx_ret hX dw_M_make_87
def my_M_make : MethodName := ⟨"TypeLoomModel", "make", "(II)I"⟩
theorem hy_M_make : (my_M_make.cls ≠ "java/lang/invoke/MethodHandle" ∧ my_M_make.cls ≠ "java/lang/invoke/VarHandle") ∧ (parseMethodDescriptor my_M_make.desc).map (fun d => d.parameters.length) = some 2 := by decide +kernel
theorem tm_M_make {D : va_G} {ob : Nat → Nat} {cI cB cS cZ : ClassId} (l : Launch) (σ : gx_S) (L1 : Int32) (L2 : Int32) : gx_C l (md_V D ob cI cB cS cZ) my_M_make prog_11_method_4_code 4 (some .int) 0 0 [.ref (ob 0), .int L1, .int L2] σ (km_M_make σ L1 L2) := gx_met (by decide) rfl (Nat.le_of_ble_eq_true rfl) rfl (fun X _ hX => tl_M_make hX σ L1 L2)
theorem tr_M_make {D : va_G} {ob : Nat → Nat} {cI cB cS cZ : ClassId} {X : gx_X} {cc : ByteArray} {own : String} {nL fr lo : Nat} {rt : Option FieldType} {σ : gx_S} {pc : Nat} {lv : List (Nat × Value)} {st : List Value} (hX : gx_K (md_V D ob cI cB cS cZ) X cc own nL fr lo rt) {idx : Nat} {L1 : Int32} {L2 : Int32} {k : gx_S → Int32 → gx_R} (n : Nat) (hlink : Cond.methodLink own idx ({ cls := "TypeLoomModel", name := "make", desc := "(II)I" } : Jvm.MethodName) ∈ gx_T) (hroom : 0 + 1 ≤ fr ∧ 8 + (4 + 11) + 0 ≤ lo) (hst : (st.map fun v => v.category).sum ≤ 8) (hd : decode cc pc = .ok (.invokevirtual idx, 3)) (hn : pc + 3 = n) (kk : ∀ σ' r, gx_G (md_V D ob cI cB cS cZ) X (k σ' r) σ' n lv (.int r :: st)) : gx_G (md_V D ob cI cB cS cZ) X (gx_bd (km_M_make σ L1 L2) k) σ pc lv (.int L2 :: .int L1 :: .ref (ob 0) :: st) :=
  gx_callI hX [.int L1, .int L2] n rfl (tm_M_make _ σ L1 L2) hy_M_make tw_1155 hlink tw_1154 tw_30 tw_79 (gf_recv 0 (show 0 < 1 by decide) rfl rfl) hroom hst hd hn rfl (fun σ' r _ => kk σ' r)
def km_M_addPart (σ : gx_S) (L1 : Int32) (L2 : Int32) (L3 : Int32) : gx_R :=
  gx_st σ 11 65536 ((σ.1 2)) (vp_nar .short (((Int32.toInt16 L3).toInt32))) (fun σ1 =>
  gx_st σ1 12 65536 ((σ1.1 2)) (vp_nar .short (((Int32.toInt16 L2).toInt32))) (fun σ2 =>
  gx_sb (gx_si σ2 2 ((((σ2.1 2)) + 1))) (fun σ3 =>
  gx_ld σ3 5 24576 L1 (fun r4 =>
  gx_st σ3 5 24576 L1 (vp_nar .short (((Int32.toInt16 ((r4 + 1))).toInt32))) (fun σ5 =>
  some (σ5, 0))))))
set_option maxRecDepth 100000 in
set_option maxHeartbeats 4000000 in
theorem tl_M_addPart {D : va_G} {ob : Nat → Nat} {cI cB cS cZ : ClassId} {X : gx_X} (hX : gx_K (md_V D ob cI cB cS cZ) X prog_11_method_5_code "TypeLoomModel" 4 0 0 none) (σ : gx_S) (L1 : Int32) (L2 : Int32) (L3 : Int32) : gx_G (md_V D ob cI cB cS cZ) X (km_M_addPart σ L1 L2 L3) σ 0 [(0, .ref (ob 0)), (1, .int L1), (2, .int L2), (3, .int L3)] [] := by
  unfold km_M_addPart
  refine gx_aload_n hX 0 1 dw_M_addPart_0 rfl rfl rfl ?_
  refine mg_0 hX 14 4 (by decide) tw_922 rfl dw_M_addPart_1 rfl ?_
  refine gx_aload_n hX 0 5 dw_M_addPart_4 rfl rfl rfl ?_
  refine mg_0 hX 13 8 (by decide) tw_921 rfl dw_M_addPart_5 rfl ?_
  refine gx_iload_n hX 3 9 dw_M_addPart_8 rfl rfl rfl ?_
  refine gx_i2s hX 10 dw_M_addPart_9 rfl ?_
  refine gf_sast (u := md_u ob cI cB cS cZ) hX 11 12 2 11 (show 11 < 52 by decide) rfl rfl (fun _ _ _ => rfl) dw_M_addPart_10 rfl (fun σ1 => ?_)
  refine gx_aload_n hX 0 12 dw_M_addPart_11 rfl rfl rfl ?_
  refine mg_0 hX 15 15 (by decide) tw_923 rfl dw_M_addPart_12 rfl ?_
  refine gx_aload_n hX 0 16 dw_M_addPart_15 rfl rfl rfl ?_
  refine mg_0 hX 13 19 (by decide) tw_921 rfl dw_M_addPart_16 rfl ?_
  refine gx_iload_n hX 2 20 dw_M_addPart_19 rfl rfl rfl ?_
  refine gx_i2s hX 21 dw_M_addPart_20 rfl ?_
  refine gf_sast (u := md_u ob cI cB cS cZ) hX 12 13 2 22 (show 12 < 52 by decide) rfl rfl (fun _ _ _ => rfl) dw_M_addPart_21 rfl (fun σ2 => ?_)
  refine gx_aload_n hX 0 23 dw_M_addPart_22 rfl rfl rfl ?_
  refine gx_dup hX 24 dw_M_addPart_23 rfl rfl ?_
  refine mg_0 hX 13 27 (by decide) tw_921 rfl dw_M_addPart_24 rfl ?_
  refine gx_iconst hX 1 28 dw_M_addPart_27 (by decide) rfl ?_
  refine gx_iadd hX 29 dw_M_addPart_28 rfl ?_
  refine mp_2 hX 32 tw_921 dw_M_addPart_29 rfl (fun σ3 => ?_)
  refine gx_aload_n hX 0 33 dw_M_addPart_32 rfl rfl rfl ?_
  refine mg_0 hX 7 36 (by decide) tw_915 rfl dw_M_addPart_33 rfl ?_
  refine gx_iload_n hX 1 37 dw_M_addPart_36 rfl rfl rfl ?_
  refine gx_dup2 hX 38 dw_M_addPart_37 rfl rfl rfl ?_
  refine gf_sald (u := md_u ob cI cB cS cZ) hX 5 6 2 39 (show 5 < 52 by decide) rfl rfl dw_M_addPart_38 rfl (fun r4 => ?_)
  refine gx_iconst hX 1 40 dw_M_addPart_39 (by decide) rfl ?_
  refine gx_iadd hX 41 dw_M_addPart_40 rfl ?_
  refine gx_i2s hX 42 dw_M_addPart_41 rfl ?_
  refine gf_sast (u := md_u ob cI cB cS cZ) hX 5 6 2 43 (show 5 < 52 by decide) rfl rfl (fun _ _ _ => rfl) dw_M_addPart_42 rfl (fun σ5 => ?_)
  exact gx_retv hX dw_M_addPart_43
def my_M_addPart : MethodName := ⟨"TypeLoomModel", "addPart", "(III)V"⟩
theorem hy_M_addPart : (my_M_addPart.cls ≠ "java/lang/invoke/MethodHandle" ∧ my_M_addPart.cls ≠ "java/lang/invoke/VarHandle") ∧ (parseMethodDescriptor my_M_addPart.desc).map (fun d => d.parameters.length) = some 3 := by decide +kernel
theorem tm_M_addPart {D : va_G} {ob : Nat → Nat} {cI cB cS cZ : ClassId} (l : Launch) (σ : gx_S) (L1 : Int32) (L2 : Int32) (L3 : Int32) : gx_C l (md_V D ob cI cB cS cZ) my_M_addPart prog_11_method_5_code 4 none 0 0 [.ref (ob 0), .int L1, .int L2, .int L3] σ (km_M_addPart σ L1 L2 L3) := gx_met (by decide) rfl (Nat.le_of_ble_eq_true rfl) rfl (fun X _ hX => tl_M_addPart hX σ L1 L2 L3)
theorem tr_M_addPart {D : va_G} {ob : Nat → Nat} {cI cB cS cZ : ClassId} {X : gx_X} {cc : ByteArray} {own : String} {nL fr lo : Nat} {rt : Option FieldType} {σ : gx_S} {pc : Nat} {lv : List (Nat × Value)} {st : List Value} (hX : gx_K (md_V D ob cI cB cS cZ) X cc own nL fr lo rt) {idx : Nat} {L1 : Int32} {L2 : Int32} {L3 : Int32} {k : gx_S → Int32 → gx_R} (n : Nat) (hlink : Cond.methodLink own idx ({ cls := "TypeLoomModel", name := "addPart", desc := "(III)V" } : Jvm.MethodName) ∈ gx_T) (hroom : 0 + 1 ≤ fr ∧ 8 + (4 + 11) + 0 ≤ lo) (hst : (st.map fun v => v.category).sum ≤ 8) (hd : decode cc pc = .ok (.invokevirtual idx, 3)) (hn : pc + 3 = n) (kk : ∀ σ' r, gx_G (md_V D ob cI cB cS cZ) X (k σ' r) σ' n lv (st)) : gx_G (md_V D ob cI cB cS cZ) X (gx_bd (km_M_addPart σ L1 L2 L3) k) σ pc lv (.int L3 :: .int L2 :: .int L1 :: .ref (ob 0) :: st) :=
  gx_callW hX [.int L1, .int L2, .int L3] n (tm_M_addPart _ σ L1 L2 L3) hy_M_addPart tw_1159 hlink tw_1158 tw_31 tw_79 (gf_recv 0 (show 0 < 1 by decide) rfl rfl) hroom hst hd hn rfl (fun σ' r _ => kk σ' r)
def km_M_areAll (σ : gx_S) (L1 : Int32) : gx_R :=
  gx_lp (α := gx_S → Int32 → Int32 → Int32 → gx_R) (fun _ _ _ _ => none) (fun again4 (σ1 : gx_S) (L1 : Int32) (L2 : Int32) (L3 : Int32) =>
    if (σ1.1 6) ≤ L3 then
    gx_rz σ1 L2
  else
    gx_jn (fun (σ2 : gx_S) (L1 : Int32) (L3 : Int32) (S0 : Int32) =>
      gx_bv (L3 + 1) (fun x3 =>
      again4 σ2 L1 S0 x3)) (fun j39 =>
    gx_jn (fun (σ4 : gx_S) (L1 : Int32) (L3 : Int32) =>
      j39 σ4 L1 L3 0) (fun j38 =>
    if L2 = 0 then
      j38 σ1 L1 L3
    else
      gx_ld σ1 20 128 L3 (fun r5 =>
      gx_jn (fun (σ6 : gx_S) (L1 : Int32) (L3 : Int32) (S0 : Int32) =>
        if S0 = L1 then
          j39 σ6 L1 L3 1
        else
          j38 σ6 L1 L3) (fun j30 =>
      if r5 < 0 then
        j30 σ1 L1 L3 0
      else
        j30 σ1 L1 L3 1))))) gx_F σ L1 1 0
set_option maxRecDepth 100000 in
set_option maxHeartbeats 4000000 in
theorem tl_M_areAll {D : va_G} {ob : Nat → Nat} {cI cB cS cZ : ClassId} {X : gx_X} (hX : gx_K (md_V D ob cI cB cS cZ) X prog_11_method_7_code "TypeLoomModel" 4 0 0 (some .boolean)) (σ : gx_S) (L1 : Int32) : gx_G (md_V D ob cI cB cS cZ) X (km_M_areAll σ L1) σ 0 [(0, .ref (ob 0)), (1, .int L1)] [] := by
  unfold km_M_areAll
  refine gx_iconst hX 1 1 dw_M_areAll_0 (by decide) rfl ?_
  refine gx_istore_n hX [(2, .int 1), (0, .ref (ob 0)), (1, .int L1)] 2 dw_M_areAll_1 rfl (by decide) rfl rfl ?_
  refine gx_iconst hX 0 3 dw_M_areAll_2 (by decide) rfl ?_
  refine gx_istore_n hX [(3, .int 0), (2, .int 1), (0, .ref (ob 0)), (1, .int L1)] 4 dw_M_areAll_3 rfl (by decide) rfl rfl ?_
  refine gx_pick (lv' := [(0, .ref (ob 0)), (1, .int L1), (2, .int 1), (3, .int 0)]) hX [2, 3, 1, 0] rfl (gx_lpI (fun (f : gx_S → Int32 → Int32 → Int32 → gx_R) => ∀ (σ1 : gx_S) (L1 : Int32) (L2 : Int32) (L3 : Int32), gx_G (md_V D ob cI cB cS cZ) X (f σ1 L1 L2 L3) σ1 4 [(0, .ref (ob 0)), (1, .int L1), (2, .int L2), (3, .int L3)] []) (fun _ _ _ _ => gx_none) (fun again4 ih4 σ1 L1 L2 L3 => ?_) _ σ L1 1 0)
  refine gx_iload_n hX 3 5 dw_M_areAll_4 rfl rfl rfl ?_
  refine gx_aload_n hX 0 6 dw_M_areAll_5 rfl rfl rfl ?_
  refine mg_0 hX 26 9 (by decide) tw_934 rfl dw_M_areAll_6 rfl ?_
  refine gx_icmp_ge hX 46 12 dw_M_areAll_9 (by decide) rfl (fun _ => ?_) (fun _ => ?_)
  · refine gx_iload_n hX 2 47 dw_M_areAll_46 rfl rfl rfl ?_
    exact gx_retz hX dw_M_areAll_47
  · refine gx_iload_n hX 2 13 dw_M_areAll_12 rfl rfl rfl ?_
    refine gx_jnI (fun (j : gx_S → Int32 → Int32 → Int32 → gx_R) => ∀ (σ2 : gx_S) (L1 : Int32) (L3 : Int32) (S0 : Int32), gx_G (md_V D ob cI cB cS cZ) X (j σ2 L1 L3 S0) σ2 39 [(0, .ref (ob 0)), (1, .int L1), (3, .int L3)] [.int S0]) (fun σ2 L1 L3 S0 => ?_) (fun j39 h39 => ?_)
    · refine gx_istore_n hX [(2, .int S0), (0, .ref (ob 0)), (1, .int L1), (3, .int L3)] 40 dw_M_areAll_39 rfl (by decide) rfl rfl ?_
      refine gx_iincN hX (q := 3) (fun x3 => [(3, .int x3), (2, .int S0), (0, .ref (ob 0)), (1, .int L1)]) 43 dw_M_areAll_40 rfl rfl (by decide) (fun _ => rfl) rfl (fun x3 => ?_)
      refine gx_goto hX 4 dw_M_areAll_43 (by decide) ?_
      exact gx_pick (lv' := [(0, .ref (ob 0)), (1, .int L1), (2, .int S0), (3, .int x3)]) hX [2, 3, 1, 0] rfl (ih4 σ2 L1 S0 x3)
    refine gx_jnI (fun (j : gx_S → Int32 → Int32 → gx_R) => ∀ (σ4 : gx_S) (L1 : Int32) (L3 : Int32), gx_G (md_V D ob cI cB cS cZ) X (j σ4 L1 L3) σ4 38 [(0, .ref (ob 0)), (1, .int L1), (3, .int L3)] []) (fun σ4 L1 L3 => ?_) (fun j38 h38 => ?_)
    · refine gx_iconst hX 0 39 dw_M_areAll_38 (by decide) rfl ?_
      exact gx_pick (lv' := [(0, .ref (ob 0)), (1, .int L1), (3, .int L3)]) hX [0, 1, 2] rfl (h39 σ4 L1 L3 0)
    refine gx_if_eq hX 38 16 dw_M_areAll_13 (by decide) rfl (fun _ => ?_) (fun _ => ?_)
    · exact gx_pick (lv' := [(0, .ref (ob 0)), (1, .int L1), (3, .int L3)]) hX [0, 1, 3] rfl (h38 σ1 L1 L3)
    · refine gx_aload_n hX 0 17 dw_M_areAll_16 rfl rfl rfl ?_
      refine mg_0 hX 27 20 (by decide) tw_935 rfl dw_M_areAll_17 rfl ?_
      refine gx_iload_n hX 3 21 dw_M_areAll_20 rfl rfl rfl ?_
      refine gf_iald (u := md_u ob cI cB cS cZ) hX 20 21 0 22 (show 20 < 52 by decide) rfl rfl dw_M_areAll_21 rfl (fun r5 => ?_)
      refine gx_jnI (fun (j : gx_S → Int32 → Int32 → Int32 → gx_R) => ∀ (σ6 : gx_S) (L1 : Int32) (L3 : Int32) (S0 : Int32), gx_G (md_V D ob cI cB cS cZ) X (j σ6 L1 L3 S0) σ6 30 [(0, .ref (ob 0)), (1, .int L1), (3, .int L3)] [.int S0]) (fun σ6 L1 L3 S0 => ?_) (fun j30 h30 => ?_)
      · refine gx_iload_n hX 1 31 dw_M_areAll_30 rfl rfl rfl ?_
        refine gx_icmp_ne hX 38 34 dw_M_areAll_31 (by decide) rfl (fun _ => ?_) (fun _ => ?_)
        · exact gx_pick (lv' := [(0, .ref (ob 0)), (1, .int L1), (3, .int L3)]) hX [0, 1, 2] rfl (h38 σ6 L1 L3)
        · refine gx_iconst hX 1 35 dw_M_areAll_34 (by decide) rfl ?_
          refine gx_goto hX 39 dw_M_areAll_35 (by decide) ?_
          exact gx_pick (lv' := [(0, .ref (ob 0)), (1, .int L1), (3, .int L3)]) hX [0, 1, 2] rfl (h39 σ6 L1 L3 1)
      refine gx_if_lt hX 29 25 dw_M_areAll_22 (by decide) rfl (fun _ => ?_) (fun _ => ?_)
      · refine gx_iconst hX 0 30 dw_M_areAll_29 (by decide) rfl ?_
        exact gx_pick (lv' := [(0, .ref (ob 0)), (1, .int L1), (3, .int L3)]) hX [0, 1, 3] rfl (h30 σ1 L1 L3 0)
      · refine gx_iconst hX 1 26 dw_M_areAll_25 (by decide) rfl ?_
        refine gx_goto hX 30 dw_M_areAll_26 (by decide) ?_
        exact gx_pick (lv' := [(0, .ref (ob 0)), (1, .int L1), (3, .int L3)]) hX [0, 1, 3] rfl (h30 σ1 L1 L3 1)
def my_M_areAll : MethodName := ⟨"TypeLoomModel", "areAll", "(Z)Z"⟩
theorem hy_M_areAll : (my_M_areAll.cls ≠ "java/lang/invoke/MethodHandle" ∧ my_M_areAll.cls ≠ "java/lang/invoke/VarHandle") ∧ (parseMethodDescriptor my_M_areAll.desc).map (fun d => d.parameters.length) = some 1 := by decide +kernel
theorem tm_M_areAll {D : va_G} {ob : Nat → Nat} {cI cB cS cZ : ClassId} (l : Launch) (σ : gx_S) (L1 : Int32) : gx_C l (md_V D ob cI cB cS cZ) my_M_areAll prog_11_method_7_code 4 (some .boolean) 0 0 [.ref (ob 0), .int L1] σ (km_M_areAll σ L1) := gx_met (by decide) rfl (Nat.le_of_ble_eq_true rfl) rfl (fun X _ hX => tl_M_areAll hX σ L1)
theorem tr_M_areAll {D : va_G} {ob : Nat → Nat} {cI cB cS cZ : ClassId} {X : gx_X} {cc : ByteArray} {own : String} {nL fr lo : Nat} {rt : Option FieldType} {σ : gx_S} {pc : Nat} {lv : List (Nat × Value)} {st : List Value} (hX : gx_K (md_V D ob cI cB cS cZ) X cc own nL fr lo rt) {idx : Nat} {L1 : Int32} {k : gx_S → Int32 → gx_R} (n : Nat) (hlink : Cond.methodLink own idx ({ cls := "TypeLoomModel", name := "areAll", desc := "(Z)Z" } : Jvm.MethodName) ∈ gx_T) (hroom : 0 + 1 ≤ fr ∧ 8 + (4 + 11) + 0 ≤ lo) (hst : (st.map fun v => v.category).sum ≤ 8) (hd : decode cc pc = .ok (.invokevirtual idx, 3)) (hn : pc + 3 = n) (kk : ∀ σ' r, gx_G (md_V D ob cI cB cS cZ) X (k σ' r) σ' n lv (.int r :: st)) : gx_G (md_V D ob cI cB cS cZ) X (gx_bd (km_M_areAll σ L1) k) σ pc lv (.int L1 :: .ref (ob 0) :: st) :=
  gx_callI hX [.int L1] n rfl (tm_M_areAll _ σ L1) hy_M_areAll tw_1151 hlink tw_1150 tw_29 tw_79 (gf_recv 0 (show 0 < 1 by decide) rfl rfl) hroom hst hd hn rfl (fun σ' r _ => kk σ' r)
def km_M_makeRow (σ : gx_S) (L1 : Int32) (L2 : Int32) : gx_R :=
  gx_st σ 13 1100 ((σ.1 4)) (vp_nar .byte (((Int32.toInt8 L1).toInt32))) (fun σ1 =>
  gx_st σ1 14 1100 ((σ1.1 4)) (vp_nar .boolean L2) (fun σ2 =>
  gx_st σ2 16 1100 ((σ2.1 4)) (-1) (fun σ3 =>
  gx_st σ3 17 1100 ((σ3.1 4)) (-1) (fun σ4 =>
  gx_sb (gx_si σ4 4 ((((σ4.1 4)) + 1))) (fun σ5 =>
  some (σ5, (((σ5.1 4)) - 1)))))))
set_option maxRecDepth 100000 in
set_option maxHeartbeats 4000000 in
theorem tl_M_makeRow {D : va_G} {ob : Nat → Nat} {cI cB cS cZ : ClassId} {X : gx_X} (hX : gx_K (md_V D ob cI cB cS cZ) X prog_11_method_9_code "TypeLoomModel" 3 0 0 (some .int)) (σ : gx_S) (L1 : Int32) (L2 : Int32) : gx_G (md_V D ob cI cB cS cZ) X (km_M_makeRow σ L1 L2) σ 0 [(0, .ref (ob 0)), (1, .int L1), (2, .int L2)] [] := by
  unfold km_M_makeRow
  refine gx_aload_n hX 0 1 dw_M_makeRow_0 rfl rfl rfl ?_
  refine mg_0 hX 18 4 (by decide) tw_926 rfl dw_M_makeRow_1 rfl ?_
  refine gx_aload_n hX 0 5 dw_M_makeRow_4 rfl rfl rfl ?_
  refine mg_0 hX 17 8 (by decide) tw_925 rfl dw_M_makeRow_5 rfl ?_
  refine gx_iload_n hX 1 9 dw_M_makeRow_8 rfl rfl rfl ?_
  refine gx_i2b hX 10 dw_M_makeRow_9 rfl ?_
  refine gf_bast (u := md_u ob cI cB cS cZ) hX 13 14 1 11 (show 13 < 52 by decide) rfl rfl (fun _ _ _ => rfl) dw_M_makeRow_10 rfl (fun σ1 => ?_)
  refine gx_aload_n hX 0 12 dw_M_makeRow_11 rfl rfl rfl ?_
  refine mg_0 hX 19 15 (by decide) tw_927 rfl dw_M_makeRow_12 rfl ?_
  refine gx_aload_n hX 0 16 dw_M_makeRow_15 rfl rfl rfl ?_
  refine mg_0 hX 17 19 (by decide) tw_925 rfl dw_M_makeRow_16 rfl ?_
  refine gx_iload_n hX 2 20 dw_M_makeRow_19 rfl rfl rfl ?_
  refine gf_zast (u := md_u ob cI cB cS cZ) hX 14 15 3 21 (show 14 < 52 by decide) rfl rfl (fun _ _ _ => rfl) dw_M_makeRow_20 rfl (fun σ2 => ?_)
  refine gx_aload_n hX 0 22 dw_M_makeRow_21 rfl rfl rfl ?_
  refine mg_0 hX 21 25 (by decide) tw_929 rfl dw_M_makeRow_22 rfl ?_
  refine gx_aload_n hX 0 26 dw_M_makeRow_25 rfl rfl rfl ?_
  refine mg_0 hX 17 29 (by decide) tw_925 rfl dw_M_makeRow_26 rfl ?_
  refine gx_iconst hX (-1) 30 dw_M_makeRow_29 (by decide) rfl ?_
  refine gf_iast (u := md_u ob cI cB cS cZ) hX 16 17 0 31 (show 16 < 52 by decide) rfl rfl (fun _ _ _ => rfl) dw_M_makeRow_30 rfl (fun σ3 => ?_)
  refine gx_aload_n hX 0 32 dw_M_makeRow_31 rfl rfl rfl ?_
  refine mg_0 hX 22 35 (by decide) tw_930 rfl dw_M_makeRow_32 rfl ?_
  refine gx_aload_n hX 0 36 dw_M_makeRow_35 rfl rfl rfl ?_
  refine mg_0 hX 17 39 (by decide) tw_925 rfl dw_M_makeRow_36 rfl ?_
  refine gx_iconst hX (-1) 40 dw_M_makeRow_39 (by decide) rfl ?_
  refine gf_iast (u := md_u ob cI cB cS cZ) hX 17 18 0 41 (show 17 < 52 by decide) rfl rfl (fun _ _ _ => rfl) dw_M_makeRow_40 rfl (fun σ4 => ?_)
  refine gx_aload_n hX 0 42 dw_M_makeRow_41 rfl rfl rfl ?_
  refine gx_dup hX 43 dw_M_makeRow_42 rfl rfl ?_
  refine mg_0 hX 17 46 (by decide) tw_925 rfl dw_M_makeRow_43 rfl ?_
  refine gx_iconst hX 1 47 dw_M_makeRow_46 (by decide) rfl ?_
  refine gx_iadd hX 48 dw_M_makeRow_47 rfl ?_
  refine mp_4 hX 51 tw_925 dw_M_makeRow_48 rfl (fun σ5 => ?_)
  refine gx_aload_n hX 0 52 dw_M_makeRow_51 rfl rfl rfl ?_
  refine mg_0 hX 17 55 (by decide) tw_925 rfl dw_M_makeRow_52 rfl ?_
  refine gx_iconst hX 1 56 dw_M_makeRow_55 (by decide) rfl ?_
  refine gx_isub hX 57 dw_M_makeRow_56 rfl ?_
  exact gx_ret hX dw_M_makeRow_57
def my_M_makeRow : MethodName := ⟨"TypeLoomModel", "makeRow", "(IZ)I"⟩
theorem hy_M_makeRow : (my_M_makeRow.cls ≠ "java/lang/invoke/MethodHandle" ∧ my_M_makeRow.cls ≠ "java/lang/invoke/VarHandle") ∧ (parseMethodDescriptor my_M_makeRow.desc).map (fun d => d.parameters.length) = some 2 := by decide +kernel
theorem tm_M_makeRow {D : va_G} {ob : Nat → Nat} {cI cB cS cZ : ClassId} (l : Launch) (σ : gx_S) (L1 : Int32) (L2 : Int32) : gx_C l (md_V D ob cI cB cS cZ) my_M_makeRow prog_11_method_9_code 3 (some .int) 0 0 [.ref (ob 0), .int L1, .int L2] σ (km_M_makeRow σ L1 L2) := gx_met (by decide) rfl (Nat.le_of_ble_eq_true rfl) rfl (fun X _ hX => tl_M_makeRow hX σ L1 L2)
theorem tr_M_makeRow {D : va_G} {ob : Nat → Nat} {cI cB cS cZ : ClassId} {X : gx_X} {cc : ByteArray} {own : String} {nL fr lo : Nat} {rt : Option FieldType} {σ : gx_S} {pc : Nat} {lv : List (Nat × Value)} {st : List Value} (hX : gx_K (md_V D ob cI cB cS cZ) X cc own nL fr lo rt) {idx : Nat} {L1 : Int32} {L2 : Int32} {k : gx_S → Int32 → gx_R} (n : Nat) (hlink : Cond.methodLink own idx ({ cls := "TypeLoomModel", name := "makeRow", desc := "(IZ)I" } : Jvm.MethodName) ∈ gx_T) (hroom : 0 + 1 ≤ fr ∧ 8 + (3 + 11) + 0 ≤ lo) (hst : (st.map fun v => v.category).sum ≤ 8) (hd : decode cc pc = .ok (.invokevirtual idx, 3)) (hn : pc + 3 = n) (kk : ∀ σ' r, gx_G (md_V D ob cI cB cS cZ) X (k σ' r) σ' n lv (.int r :: st)) : gx_G (md_V D ob cI cB cS cZ) X (gx_bd (km_M_makeRow σ L1 L2) k) σ pc lv (.int L2 :: .int L1 :: .ref (ob 0) :: st) :=
  gx_callI hX [.int L1, .int L2] n rfl (tm_M_makeRow _ σ L1 L2) hy_M_makeRow tw_1167 hlink tw_1166 tw_32 tw_79 (gf_recv 0 (show 0 < 1 by decide) rfl rfl) hroom hst hd hn rfl (fun σ' r _ => kk σ' r)
def km_M_equalOnes (σ : gx_S) (L1 : Int32) : gx_R :=
  gx_lp (α := gx_S → Int32 → Int32 → gx_R) (fun _ _ _ => none) (fun again4 (σ1 : gx_S) (L2 : Int32) (L3 : Int32) =>
    if 31 ≤ L3 then
    some (σ1, L2)
  else
    if (σ1.1 0) ≤ L3 then
      some (σ1, L2)
    else
      gx_ld σ1 1 2048 L3 (fun r2 =>
      gx_jn (fun (σ3 : gx_S) (L3 : Int32) (S0 : Int32) =>
        gx_bv (L3 + 1) (fun x4 =>
        again4 σ3 S0 x4)) (fun j38 =>
      if r2 = 0 then
        j38 σ1 L3 ((L2 &&& ((((1 <<< (L3 &&& 31))) ^^^ (-1)))))
      else
        j38 σ1 L3 L2))) gx_F σ L1 0
set_option maxRecDepth 100000 in
set_option maxHeartbeats 4000000 in
theorem tl_M_equalOnes {D : va_G} {ob : Nat → Nat} {cI cB cS cZ : ClassId} {X : gx_X} (hX : gx_K (md_V D ob cI cB cS cZ) X prog_11_method_12_code "TypeLoomModel" 4 0 0 (some .int)) (σ : gx_S) (L1 : Int32) : gx_G (md_V D ob cI cB cS cZ) X (km_M_equalOnes σ L1) σ 0 [(0, .ref (ob 0)), (1, .int L1)] [] := by
  unfold km_M_equalOnes
  refine gx_iload_n hX 1 1 dw_M_equalOnes_0 rfl rfl rfl ?_
  refine gx_istore_n hX [(2, .int L1), (0, .ref (ob 0)), (1, .int L1)] 2 dw_M_equalOnes_1 rfl (by decide) rfl rfl ?_
  refine gx_iconst hX 0 3 dw_M_equalOnes_2 (by decide) rfl ?_
  refine gx_istore_n hX [(3, .int 0), (2, .int L1), (0, .ref (ob 0)), (1, .int L1)] 4 dw_M_equalOnes_3 rfl (by decide) rfl rfl ?_
  refine gx_pick (lv' := [(0, .ref (ob 0)), (2, .int L1), (3, .int 0)]) hX [2, 1, 0] rfl (gx_lpI (fun (f : gx_S → Int32 → Int32 → gx_R) => ∀ (σ1 : gx_S) (L2 : Int32) (L3 : Int32), gx_G (md_V D ob cI cB cS cZ) X (f σ1 L2 L3) σ1 4 [(0, .ref (ob 0)), (2, .int L2), (3, .int L3)] []) (fun _ _ _ => gx_none) (fun again4 ih4 σ1 L2 L3 => ?_) _ σ L1 0)
  refine gx_iload_n hX 2 5 dw_M_equalOnes_4 rfl rfl rfl ?_
  refine gx_bipush hX 31 7 dw_M_equalOnes_5 (by decide) rfl ?_
  refine gx_icmp_ge hX 45 10 dw_M_equalOnes_7 (by decide) rfl (fun _ => ?_) (fun _ => ?_)
  · refine gx_iload_n hX 1 46 dw_M_equalOnes_45 rfl rfl rfl ?_
    exact gx_ret hX dw_M_equalOnes_46
  · refine gx_iload_n hX 2 11 dw_M_equalOnes_10 rfl rfl rfl ?_
    refine gx_aload_n hX 0 12 dw_M_equalOnes_11 rfl rfl rfl ?_
    refine mg_0 hX 0 15 (by decide) tw_908 rfl dw_M_equalOnes_12 rfl ?_
    refine gx_icmp_ge hX 45 18 dw_M_equalOnes_15 (by decide) rfl (fun _ => ?_) (fun _ => ?_)
    · refine gx_iload_n hX 1 46 dw_M_equalOnes_45 rfl rfl rfl ?_
      exact gx_ret hX dw_M_equalOnes_46
    · refine gx_aload_n hX 0 19 dw_M_equalOnes_18 rfl rfl rfl ?_
      refine mg_0 hX 2 22 (by decide) tw_910 rfl dw_M_equalOnes_19 rfl ?_
      refine gx_iload_n hX 2 23 dw_M_equalOnes_22 rfl rfl rfl ?_
      refine gf_bald (u := md_u ob cI cB cS cZ) hX 1 2 1 24 (show 1 < 52 by decide) rfl rfl dw_M_equalOnes_23 rfl (fun r2 => ?_)
      refine gx_jnI (fun (j : gx_S → Int32 → Int32 → gx_R) => ∀ (σ3 : gx_S) (L3 : Int32) (S0 : Int32), gx_G (md_V D ob cI cB cS cZ) X (j σ3 L3 S0) σ3 38 [(0, .ref (ob 0)), (3, .int L3)] [.int S0]) (fun σ3 L3 S0 => ?_) (fun j38 h38 => ?_)
      · refine gx_istore_n hX [(2, .int S0), (0, .ref (ob 0)), (3, .int L3)] 39 dw_M_equalOnes_38 rfl (by decide) rfl rfl ?_
        refine gx_iincN hX (q := 2) (fun x4 => [(3, .int x4), (2, .int S0), (0, .ref (ob 0))]) 42 dw_M_equalOnes_39 rfl rfl (by decide) (fun _ => rfl) rfl (fun x4 => ?_)
        refine gx_goto hX 4 dw_M_equalOnes_42 (by decide) ?_
        exact gx_pick (lv' := [(0, .ref (ob 0)), (2, .int S0), (3, .int x4)]) hX [2, 1, 0] rfl (ih4 σ3 S0 x4)
      refine gx_if_ne hX 37 27 dw_M_equalOnes_24 (by decide) rfl (fun _ => ?_) (fun _ => ?_)
      · refine gx_iload_n hX 1 38 dw_M_equalOnes_37 rfl rfl rfl ?_
        exact gx_pick (lv' := [(0, .ref (ob 0)), (3, .int L3)]) hX [0, 2] rfl (h38 σ1 L3 L2)
      · refine gx_iload_n hX 1 28 dw_M_equalOnes_27 rfl rfl rfl ?_
        refine gx_iconst hX 1 29 dw_M_equalOnes_28 (by decide) rfl ?_
        refine gx_iload_n hX 2 30 dw_M_equalOnes_29 rfl rfl rfl ?_
        refine gx_ishl hX 31 dw_M_equalOnes_30 rfl ?_
        refine gx_iconst hX (-1) 32 dw_M_equalOnes_31 (by decide) rfl ?_
        refine gx_ixor hX 33 dw_M_equalOnes_32 rfl ?_
        refine gx_iand hX 34 dw_M_equalOnes_33 rfl ?_
        refine gx_goto hX 38 dw_M_equalOnes_34 (by decide) ?_
        exact gx_pick (lv' := [(0, .ref (ob 0)), (3, .int L3)]) hX [0, 2] rfl (h38 σ1 L3 ((L2 &&& ((((1 <<< (L3 &&& 31))) ^^^ (-1))))))
def my_M_equalOnes : MethodName := ⟨"TypeLoomModel", "equalOnes", "(I)I"⟩
theorem hy_M_equalOnes : (my_M_equalOnes.cls ≠ "java/lang/invoke/MethodHandle" ∧ my_M_equalOnes.cls ≠ "java/lang/invoke/VarHandle") ∧ (parseMethodDescriptor my_M_equalOnes.desc).map (fun d => d.parameters.length) = some 1 := by decide +kernel
theorem tm_M_equalOnes {D : va_G} {ob : Nat → Nat} {cI cB cS cZ : ClassId} (l : Launch) (σ : gx_S) (L1 : Int32) : gx_C l (md_V D ob cI cB cS cZ) my_M_equalOnes prog_11_method_12_code 4 (some .int) 0 0 [.ref (ob 0), .int L1] σ (km_M_equalOnes σ L1) := gx_met (by decide) rfl (Nat.le_of_ble_eq_true rfl) rfl (fun X _ hX => tl_M_equalOnes hX σ L1)
theorem tr_M_equalOnes {D : va_G} {ob : Nat → Nat} {cI cB cS cZ : ClassId} {X : gx_X} {cc : ByteArray} {own : String} {nL fr lo : Nat} {rt : Option FieldType} {σ : gx_S} {pc : Nat} {lv : List (Nat × Value)} {st : List Value} (hX : gx_K (md_V D ob cI cB cS cZ) X cc own nL fr lo rt) {idx : Nat} {L1 : Int32} {k : gx_S → Int32 → gx_R} (n : Nat) (hlink : Cond.methodLink own idx ({ cls := "TypeLoomModel", name := "equalOnes", desc := "(I)I" } : Jvm.MethodName) ∈ gx_T) (hroom : 0 + 1 ≤ fr ∧ 8 + (4 + 11) + 0 ≤ lo) (hst : (st.map fun v => v.category).sum ≤ 8) (hd : decode cc pc = .ok (.invokevirtual idx, 3)) (hn : pc + 3 = n) (kk : ∀ σ' r, gx_G (md_V D ob cI cB cS cZ) X (k σ' r) σ' n lv (.int r :: st)) : gx_G (md_V D ob cI cB cS cZ) X (gx_bd (km_M_equalOnes σ L1) k) σ pc lv (.int L1 :: .ref (ob 0) :: st) :=
  gx_callI hX [.int L1] n rfl (tm_M_equalOnes _ σ L1) hy_M_equalOnes tw_1179 hlink tw_1178 tw_33 tw_79 (gf_recv 0 (show 0 < 1 by decide) rfl rfl) hroom hst hd hn rfl (fun σ' r _ => kk σ' r)
def km_M_follow (σ : gx_S) (L1 : Int32) (L2 : Int64) : gx_R :=
  gx_bd (km_M_isType σ L1) (fun σ1 r2 =>
  if r2 = 0 then
    some (σ1, (-1))
  else
    none)
set_option maxRecDepth 100000 in
set_option maxHeartbeats 4000000 in
theorem tl_M_follow {D : va_G} {ob : Nat → Nat} {cI cB cS cZ : ClassId} {X : gx_X} (hX : gx_K (md_V D ob cI cB cS cZ) X prog_11_method_21_code "TypeLoomModel" 7 1 21 (some .int)) (σ : gx_S) (L1 : Int32) (L2 : Int64) : gx_G (md_V D ob cI cB cS cZ) X (km_M_follow σ L1 L2) σ 0 [(0, .ref (ob 0)), (1, .int L1), (2, .long L2)] [] := by
  unfold km_M_follow
  refine gx_aload_n hX 0 1 dw_M_follow_0 rfl rfl rfl ?_
  refine gx_iload_n hX 1 2 dw_M_follow_1 rfl rfl rfl ?_
  refine tr_M_isType hX 5 tw_1140 ⟨Nat.le_of_ble_eq_true rfl, Nat.le_of_ble_eq_true rfl⟩ (Nat.le_of_ble_eq_true rfl) dw_M_follow_2 rfl (fun σ1 r2 => ?_)
  refine gx_if_ne hX 10 8 dw_M_follow_5 (by decide) rfl (fun _ => ?_) (fun _ => ?_)
  · refine gx_aload_n hX 0 11 dw_M_follow_10 rfl rfl rfl ?_
    refine gx_iload_n hX 1 12 dw_M_follow_11 rfl rfl rfl ?_
    exact gx_none
  · refine gx_iconst hX (-1) 9 dw_M_follow_8 (by decide) rfl ?_
    exact gx_ret hX dw_M_follow_9
def my_M_follow : MethodName := ⟨"TypeLoomModel", "follow", "(IJ)I"⟩
theorem hy_M_follow : (my_M_follow.cls ≠ "java/lang/invoke/MethodHandle" ∧ my_M_follow.cls ≠ "java/lang/invoke/VarHandle") ∧ (parseMethodDescriptor my_M_follow.desc).map (fun d => d.parameters.length) = some 2 := by decide +kernel
theorem tm_M_follow {D : va_G} {ob : Nat → Nat} {cI cB cS cZ : ClassId} (l : Launch) (σ : gx_S) (L1 : Int32) (L2 : Int64) : gx_C l (md_V D ob cI cB cS cZ) my_M_follow prog_11_method_21_code 7 (some .int) 1 21 [.ref (ob 0), .int L1, .long L2] σ (km_M_follow σ L1 L2) := gx_met (by decide) rfl (Nat.le_of_ble_eq_true rfl) rfl (fun X _ hX => tl_M_follow hX σ L1 L2)
theorem tr_M_follow {D : va_G} {ob : Nat → Nat} {cI cB cS cZ : ClassId} {X : gx_X} {cc : ByteArray} {own : String} {nL fr lo : Nat} {rt : Option FieldType} {σ : gx_S} {pc : Nat} {lv : List (Nat × Value)} {st : List Value} (hX : gx_K (md_V D ob cI cB cS cZ) X cc own nL fr lo rt) {idx : Nat} {L1 : Int32} {L2 : Int64} {k : gx_S → Int32 → gx_R} (n : Nat) (hlink : Cond.methodLink own idx ({ cls := "TypeLoomModel", name := "follow", desc := "(IJ)I" } : Jvm.MethodName) ∈ gx_T) (hroom : 1 + 1 ≤ fr ∧ 8 + (7 + 11) + 21 ≤ lo) (hst : (st.map fun v => v.category).sum ≤ 8) (hd : decode cc pc = .ok (.invokevirtual idx, 3)) (hn : pc + 3 = n) (kk : ∀ σ' r, gx_G (md_V D ob cI cB cS cZ) X (k σ' r) σ' n lv (.int r :: st)) : gx_G (md_V D ob cI cB cS cZ) X (gx_bd (km_M_follow σ L1 L2) k) σ pc lv (.long L2 :: .int L1 :: .ref (ob 0) :: st) :=
  gx_callI hX [.int L1, .long L2] n rfl (tm_M_follow _ σ L1 L2) hy_M_follow tw_1291 hlink tw_1290 tw_57 tw_79 (gf_recv 0 (show 0 < 1 by decide) rfl rfl) hroom hst hd hn rfl (fun σ' r _ => kk σ' r)
def km_M_isScheme (σ : gx_S) (L1 : Int32) : gx_R :=
  if L1 < 0 then
    gx_rz σ 0
  else
    if (σ.1 8) ≤ L1 then
      gx_rz σ 0
    else
      gx_rz σ 1
set_option maxRecDepth 100000 in
set_option maxHeartbeats 4000000 in
theorem tl_M_isScheme {D : va_G} {ob : Nat → Nat} {cI cB cS cZ : ClassId} {X : gx_X} (hX : gx_K (md_V D ob cI cB cS cZ) X prog_11_method_54_code "TypeLoomModel" 2 0 0 (some .boolean)) (σ : gx_S) (L1 : Int32) : gx_G (md_V D ob cI cB cS cZ) X (km_M_isScheme σ L1) σ 0 [(0, .ref (ob 0)), (1, .int L1)] [] := by
  unfold km_M_isScheme
  refine gx_iload_n hX 1 1 dw_M_isScheme_0 rfl rfl rfl ?_
  refine gx_if_lt hX 16 4 dw_M_isScheme_1 (by decide) rfl (fun _ => ?_) (fun _ => ?_)
  · refine gx_iconst hX 0 17 dw_M_isScheme_16 (by decide) rfl ?_
    exact gx_retz hX dw_M_isScheme_17
  · refine gx_iload_n hX 1 5 dw_M_isScheme_4 rfl rfl rfl ?_
    refine gx_aload_n hX 0 6 dw_M_isScheme_5 rfl rfl rfl ?_
    refine mg_0 hX 30 9 (by decide) tw_938 rfl dw_M_isScheme_6 rfl ?_
    refine gx_icmp_ge hX 16 12 dw_M_isScheme_9 (by decide) rfl (fun _ => ?_) (fun _ => ?_)
    · refine gx_iconst hX 0 17 dw_M_isScheme_16 (by decide) rfl ?_
      exact gx_retz hX dw_M_isScheme_17
    · refine gx_iconst hX 1 13 dw_M_isScheme_12 (by decide) rfl ?_
      refine gx_goto hX 17 dw_M_isScheme_13 (by decide) ?_
      exact gx_retz hX dw_M_isScheme_17
def my_M_isScheme : MethodName := ⟨"TypeLoomModel", "isScheme", "(I)Z"⟩
theorem hy_M_isScheme : (my_M_isScheme.cls ≠ "java/lang/invoke/MethodHandle" ∧ my_M_isScheme.cls ≠ "java/lang/invoke/VarHandle") ∧ (parseMethodDescriptor my_M_isScheme.desc).map (fun d => d.parameters.length) = some 1 := by decide +kernel
theorem tm_M_isScheme {D : va_G} {ob : Nat → Nat} {cI cB cS cZ : ClassId} (l : Launch) (σ : gx_S) (L1 : Int32) : gx_C l (md_V D ob cI cB cS cZ) my_M_isScheme prog_11_method_54_code 2 (some .boolean) 0 0 [.ref (ob 0), .int L1] σ (km_M_isScheme σ L1) := gx_met (by decide) rfl (Nat.le_of_ble_eq_true rfl) rfl (fun X _ hX => tl_M_isScheme hX σ L1)
theorem tr_M_isScheme {D : va_G} {ob : Nat → Nat} {cI cB cS cZ : ClassId} {X : gx_X} {cc : ByteArray} {own : String} {nL fr lo : Nat} {rt : Option FieldType} {σ : gx_S} {pc : Nat} {lv : List (Nat × Value)} {st : List Value} (hX : gx_K (md_V D ob cI cB cS cZ) X cc own nL fr lo rt) {idx : Nat} {L1 : Int32} {k : gx_S → Int32 → gx_R} (n : Nat) (hlink : Cond.methodLink own idx ({ cls := "TypeLoomModel", name := "isScheme", desc := "(I)Z" } : Jvm.MethodName) ∈ gx_T) (hroom : 0 + 1 ≤ fr ∧ 8 + (2 + 11) + 0 ≤ lo) (hst : (st.map fun v => v.category).sum ≤ 8) (hd : decode cc pc = .ok (.invokevirtual idx, 3)) (hn : pc + 3 = n) (kk : ∀ σ' r, gx_G (md_V D ob cI cB cS cZ) X (k σ' r) σ' n lv (.int r :: st)) : gx_G (md_V D ob cI cB cS cZ) X (gx_bd (km_M_isScheme σ L1) k) σ pc lv (.int L1 :: .ref (ob 0) :: st) :=
  gx_callI hX [.int L1] n rfl (tm_M_isScheme _ σ L1) hy_M_isScheme tw_1348 hlink tw_1347 tw_67 tw_79 (gf_recv 0 (show 0 < 1 by decide) rfl rfl) hroom hst hd hn rfl (fun σ' r _ => kk σ' r)
def km_M_constructor (σ : gx_S) (L1 : Int32) (L2 : Int32) : gx_R :=
  if L1 < 0 then
    some (σ, (-1))
  else
    if 8 < L1 then
      some (σ, (-1))
    else
      if L2 < 0 then
        some (σ, (-1))
      else
        if L2 ≤ 2 then
          if (σ.1 0) = 2048 then
            some (σ, (-2))
          else
            gx_st σ 0 2048 ((σ.1 0)) (vp_nar .byte (((Int32.toInt8 L1).toInt32))) (fun σ1 =>
            gx_st σ1 1 2048 ((σ1.1 0)) (vp_nar .byte (((Int32.toInt8 L2).toInt32))) (fun σ2 =>
            gx_sb (gx_si σ2 0 ((((σ2.1 0)) + 1))) (fun σ3 =>
            some (σ3, (((σ3.1 0)) - 1)))))
        else
          some (σ, (-1))
set_option maxRecDepth 100000 in
set_option maxHeartbeats 4000000 in
theorem tl_M_constructor {D : va_G} {ob : Nat → Nat} {cI cB cS cZ : ClassId} {X : gx_X} (hX : gx_K (md_V D ob cI cB cS cZ) X prog_11_method_2_code "TypeLoomModel" 3 0 0 (some .int)) (σ : gx_S) (L1 : Int32) (L2 : Int32) : gx_G (md_V D ob cI cB cS cZ) X (km_M_constructor σ L1 L2) σ 0 [(0, .ref (ob 0)), (1, .int L1), (2, .int L2)] [] := by
  unfold km_M_constructor
  refine gx_iload_n hX 1 1 dw_M_constructor_0 rfl rfl rfl ?_
  refine gx_if_lt hX 19 4 dw_M_constructor_1 (by decide) rfl (fun _ => ?_) (fun _ => ?_)
  · refine gx_iconst hX (-1) 20 dw_M_constructor_19 (by decide) rfl ?_
    exact gx_ret hX dw_M_constructor_20
  · refine gx_iload_n hX 1 5 dw_M_constructor_4 rfl rfl rfl ?_
    refine gx_bipush hX 8 7 dw_M_constructor_5 (by decide) rfl ?_
    refine gx_icmp_gt hX 19 10 dw_M_constructor_7 (by decide) rfl (fun _ => ?_) (fun _ => ?_)
    · refine gx_iconst hX (-1) 20 dw_M_constructor_19 (by decide) rfl ?_
      exact gx_ret hX dw_M_constructor_20
    · refine gx_iload_n hX 2 11 dw_M_constructor_10 rfl rfl rfl ?_
      refine gx_if_lt hX 19 14 dw_M_constructor_11 (by decide) rfl (fun _ => ?_) (fun _ => ?_)
      · refine gx_iconst hX (-1) 20 dw_M_constructor_19 (by decide) rfl ?_
        exact gx_ret hX dw_M_constructor_20
      · refine gx_iload_n hX 2 15 dw_M_constructor_14 rfl rfl rfl ?_
        refine gx_iconst hX 2 16 dw_M_constructor_15 (by decide) rfl ?_
        refine gx_icmp_le hX 21 19 dw_M_constructor_16 (by decide) rfl (fun _ => ?_) (fun _ => ?_)
        · refine gx_aload_n hX 0 22 dw_M_constructor_21 rfl rfl rfl ?_
          refine mg_0 hX 0 25 (by decide) tw_908 rfl dw_M_constructor_22 rfl ?_
          refine gx_sipush hX 2048 28 dw_M_constructor_25 (by decide) rfl ?_
          refine gx_icmp_ne hX 34 31 dw_M_constructor_28 (by decide) rfl (fun _ => ?_) (fun _ => ?_)
          · refine gx_aload_n hX 0 35 dw_M_constructor_34 rfl rfl rfl ?_
            refine mg_0 hX 1 38 (by decide) tw_909 rfl dw_M_constructor_35 rfl ?_
            refine gx_aload_n hX 0 39 dw_M_constructor_38 rfl rfl rfl ?_
            refine mg_0 hX 0 42 (by decide) tw_908 rfl dw_M_constructor_39 rfl ?_
            refine gx_iload_n hX 1 43 dw_M_constructor_42 rfl rfl rfl ?_
            refine gx_i2b hX 44 dw_M_constructor_43 rfl ?_
            refine gf_bast (u := md_u ob cI cB cS cZ) hX 0 1 1 45 (show 0 < 52 by decide) rfl rfl (fun _ _ _ => rfl) dw_M_constructor_44 rfl (fun σ1 => ?_)
            refine gx_aload_n hX 0 46 dw_M_constructor_45 rfl rfl rfl ?_
            refine mg_0 hX 2 49 (by decide) tw_910 rfl dw_M_constructor_46 rfl ?_
            refine gx_aload_n hX 0 50 dw_M_constructor_49 rfl rfl rfl ?_
            refine mg_0 hX 0 53 (by decide) tw_908 rfl dw_M_constructor_50 rfl ?_
            refine gx_iload_n hX 2 54 dw_M_constructor_53 rfl rfl rfl ?_
            refine gx_i2b hX 55 dw_M_constructor_54 rfl ?_
            refine gf_bast (u := md_u ob cI cB cS cZ) hX 1 2 1 56 (show 1 < 52 by decide) rfl rfl (fun _ _ _ => rfl) dw_M_constructor_55 rfl (fun σ2 => ?_)
            refine gx_aload_n hX 0 57 dw_M_constructor_56 rfl rfl rfl ?_
            refine gx_dup hX 58 dw_M_constructor_57 rfl rfl ?_
            refine mg_0 hX 0 61 (by decide) tw_908 rfl dw_M_constructor_58 rfl ?_
            refine gx_iconst hX 1 62 dw_M_constructor_61 (by decide) rfl ?_
            refine gx_iadd hX 63 dw_M_constructor_62 rfl ?_
            refine mp_0 hX 66 tw_908 dw_M_constructor_63 rfl (fun σ3 => ?_)
            refine gx_aload_n hX 0 67 dw_M_constructor_66 rfl rfl rfl ?_
            refine mg_0 hX 0 70 (by decide) tw_908 rfl dw_M_constructor_67 rfl ?_
            refine gx_iconst hX 1 71 dw_M_constructor_70 (by decide) rfl ?_
            refine gx_isub hX 72 dw_M_constructor_71 rfl ?_
            exact gx_ret hX dw_M_constructor_72
          · refine gx_bipush hX (-2) 33 dw_M_constructor_31 (by decide) rfl ?_
            exact gx_ret hX dw_M_constructor_33
        · refine gx_iconst hX (-1) 20 dw_M_constructor_19 (by decide) rfl ?_
          exact gx_ret hX dw_M_constructor_20
def my_M_constructor : MethodName := ⟨"TypeLoomModel", "constructor", "(II)I"⟩
theorem hy_M_constructor : (my_M_constructor.cls ≠ "java/lang/invoke/MethodHandle" ∧ my_M_constructor.cls ≠ "java/lang/invoke/VarHandle") ∧ (parseMethodDescriptor my_M_constructor.desc).map (fun d => d.parameters.length) = some 2 := by decide +kernel
theorem tm_M_constructor {D : va_G} {ob : Nat → Nat} {cI cB cS cZ : ClassId} (l : Launch) (σ : gx_S) (L1 : Int32) (L2 : Int32) : gx_C l (md_V D ob cI cB cS cZ) my_M_constructor prog_11_method_2_code 3 (some .int) 0 0 [.ref (ob 0), .int L1, .int L2] σ (km_M_constructor σ L1 L2) := gx_met (by decide) rfl (Nat.le_of_ble_eq_true rfl) rfl (fun X _ hX => tl_M_constructor hX σ L1 L2)
theorem tr_M_constructor {D : va_G} {ob : Nat → Nat} {cI cB cS cZ : ClassId} {X : gx_X} {cc : ByteArray} {own : String} {nL fr lo : Nat} {rt : Option FieldType} {σ : gx_S} {pc : Nat} {lv : List (Nat × Value)} {st : List Value} (hX : gx_K (md_V D ob cI cB cS cZ) X cc own nL fr lo rt) {idx : Nat} {L1 : Int32} {L2 : Int32} {k : gx_S → Int32 → gx_R} (n : Nat) (hlink : Cond.methodLink own idx ({ cls := "TypeLoomModel", name := "constructor", desc := "(II)I" } : Jvm.MethodName) ∈ gx_T) (hroom : 0 + 1 ≤ fr ∧ 8 + (3 + 11) + 0 ≤ lo) (hst : (st.map fun v => v.category).sum ≤ 8) (hd : decode cc pc = .ok (.invokevirtual idx, 3)) (hn : pc + 3 = n) (kk : ∀ σ' r, gx_G (md_V D ob cI cB cS cZ) X (k σ' r) σ' n lv (.int r :: st)) : gx_G (md_V D ob cI cB cS cZ) X (gx_bd (km_M_constructor σ L1 L2) k) σ pc lv (.int L2 :: .int L1 :: .ref (ob 0) :: st) :=
  gx_callI hX [.int L1, .int L2] n rfl (tm_M_constructor _ σ L1 L2) hy_M_constructor tw_1134 hlink tw_1132 tw_1133 tw_79 (gf_recv 0 (show 0 < 1 by decide) rfl rfl) hroom hst hd hn rfl (fun σ' r _ => kk σ' r)
def km_M_push (σ : gx_S) (L1 : Int32) (L2 : Int32) : gx_R :=
  gx_jn (fun (σ1 : gx_S) (L1 : Int32) (L2 : Int32) (S0 : Int32) =>
    gx_jn (fun (σ2 : gx_S) (L1 : Int32) (L2 : Int32) (L3 : Int32) =>
      if L3 = 0 then
        some (σ2, (-1))
      else
        if (σ2.1 6) = 128 then
          some (σ2, (-2))
        else
          gx_st σ2 20 128 ((σ2.1 6)) L1 (fun σ3 =>
          gx_st σ3 21 128 ((σ3.1 6)) L2 (fun σ4 =>
          gx_sb (gx_si σ4 6 ((((σ4.1 6)) + 1))) (fun σ5 =>
          some (σ5, (σ5.1 6)))))) (fun j68 =>
    gx_lp (α := gx_S → Int32 → Int32 → Int32 → Int32 → gx_R) (fun _ _ _ _ _ => none) (fun again28 (σ6 : gx_S) (L1 : Int32) (L2 : Int32) (L3 : Int32) (L4 : Int32) =>
      if (σ6.1 6) ≤ L4 then
      j68 σ6 L1 L2 L3
    else
      gx_jn (fun (σ7 : gx_S) (L1 : Int32) (L2 : Int32) (L4 : Int32) (S0 : Int32) =>
        gx_bv (L4 + 1) (fun x8 =>
        again28 σ7 L1 L2 S0 x8)) (fun j61 =>
      gx_jn (fun (σ9 : gx_S) (L1 : Int32) (L2 : Int32) (L4 : Int32) =>
        j61 σ9 L1 L2 L4 0) (fun j60 =>
      if L3 = 0 then
        j60 σ6 L1 L2 L4
      else
        gx_jn (fun (σ10 : gx_S) (L1 : Int32) (L2 : Int32) (L4 : Int32) =>
          j61 σ10 L1 L2 L4 1) (fun j56 =>
        if L1 < 0 then
          j56 σ6 L1 L2 L4
        else
          gx_ld σ6 20 128 L4 (fun r11 =>
          if r11 = L1 then
            j60 σ6 L1 L2 L4
          else
            j56 σ6 L1 L2 L4))))) gx_F σ1 L1 L2 S0 0)) (fun j24 =>
  gx_jn (fun (σ12 : gx_S) (L1 : Int32) (L2 : Int32) =>
    j24 σ12 L1 L2 0) (fun j23 =>
  if L1 < (-1) then
    j23 σ L1 L2
  else
    if 32768 ≤ L1 then
      j23 σ L1 L2
    else
      gx_bd (km_M_isType σ L2) (fun σ13 r14 =>
      if r14 = 0 then
        j23 σ13 L1 L2
      else
        j24 σ13 L1 L2 1)))
set_option maxRecDepth 100000 in
set_option maxHeartbeats 4000000 in
theorem tl_M_push {D : va_G} {ob : Nat → Nat} {cI cB cS cZ : ClassId} {X : gx_X} (hX : gx_K (md_V D ob cI cB cS cZ) X prog_11_method_6_code "TypeLoomModel" 5 1 21 (some .int)) (σ : gx_S) (L1 : Int32) (L2 : Int32) : gx_G (md_V D ob cI cB cS cZ) X (km_M_push σ L1 L2) σ 0 [(0, .ref (ob 0)), (1, .int L1), (2, .int L2)] [] := by
  unfold km_M_push
  refine gx_iload_n hX 1 1 dw_M_push_0 rfl rfl rfl ?_
  refine gx_iconst hX (-1) 2 dw_M_push_1 (by decide) rfl ?_
  refine gx_jnI (fun (j : gx_S → Int32 → Int32 → Int32 → gx_R) => ∀ (σ1 : gx_S) (L1 : Int32) (L2 : Int32) (S0 : Int32), gx_G (md_V D ob cI cB cS cZ) X (j σ1 L1 L2 S0) σ1 24 [(0, .ref (ob 0)), (1, .int L1), (2, .int L2)] [.int S0]) (fun σ1 L1 L2 S0 => ?_) (fun j24 h24 => ?_)
  · refine gx_istore_n hX [(3, .int S0), (0, .ref (ob 0)), (1, .int L1), (2, .int L2)] 25 dw_M_push_24 rfl (by decide) rfl rfl ?_
    refine gx_iconst hX 0 26 dw_M_push_25 (by decide) rfl ?_
    refine gx_istore hX [(4, .int 0), (3, .int S0), (0, .ref (ob 0)), (1, .int L1), (2, .int L2)] 28 dw_M_push_26 (by decide) rfl rfl ?_
    refine gx_jnI (fun (j : gx_S → Int32 → Int32 → Int32 → gx_R) => ∀ (σ2 : gx_S) (L1 : Int32) (L2 : Int32) (L3 : Int32), gx_G (md_V D ob cI cB cS cZ) X (j σ2 L1 L2 L3) σ2 68 [(0, .ref (ob 0)), (1, .int L1), (2, .int L2), (3, .int L3)] []) (fun σ2 L1 L2 L3 => ?_) (fun j68 h68 => ?_)
    · refine gx_iload_n hX 3 69 dw_M_push_68 rfl rfl rfl ?_
      refine gx_if_ne hX 74 72 dw_M_push_69 (by decide) rfl (fun _ => ?_) (fun _ => ?_)
      · refine gx_aload_n hX 0 75 dw_M_push_74 rfl rfl rfl ?_
        refine mg_0 hX 26 78 (by decide) tw_934 rfl dw_M_push_75 rfl ?_
        refine gx_sipush hX 128 81 dw_M_push_78 (by decide) rfl ?_
        refine gx_icmp_ne hX 87 84 dw_M_push_81 (by decide) rfl (fun _ => ?_) (fun _ => ?_)
        · refine gx_aload_n hX 0 88 dw_M_push_87 rfl rfl rfl ?_
          refine mg_0 hX 27 91 (by decide) tw_935 rfl dw_M_push_88 rfl ?_
          refine gx_aload_n hX 0 92 dw_M_push_91 rfl rfl rfl ?_
          refine mg_0 hX 26 95 (by decide) tw_934 rfl dw_M_push_92 rfl ?_
          refine gx_iload_n hX 1 96 dw_M_push_95 rfl rfl rfl ?_
          refine gf_iast (u := md_u ob cI cB cS cZ) hX 20 21 0 97 (show 20 < 52 by decide) rfl rfl (fun _ _ _ => rfl) dw_M_push_96 rfl (fun σ3 => ?_)
          refine gx_aload_n hX 0 98 dw_M_push_97 rfl rfl rfl ?_
          refine mg_0 hX 28 101 (by decide) tw_936 rfl dw_M_push_98 rfl ?_
          refine gx_aload_n hX 0 102 dw_M_push_101 rfl rfl rfl ?_
          refine mg_0 hX 26 105 (by decide) tw_934 rfl dw_M_push_102 rfl ?_
          refine gx_iload_n hX 2 106 dw_M_push_105 rfl rfl rfl ?_
          refine gf_iast (u := md_u ob cI cB cS cZ) hX 21 22 0 107 (show 21 < 52 by decide) rfl rfl (fun _ _ _ => rfl) dw_M_push_106 rfl (fun σ4 => ?_)
          refine gx_aload_n hX 0 108 dw_M_push_107 rfl rfl rfl ?_
          refine gx_dup hX 109 dw_M_push_108 rfl rfl ?_
          refine mg_0 hX 26 112 (by decide) tw_934 rfl dw_M_push_109 rfl ?_
          refine gx_iconst hX 1 113 dw_M_push_112 (by decide) rfl ?_
          refine gx_iadd hX 114 dw_M_push_113 rfl ?_
          refine mp_6 hX 117 tw_934 dw_M_push_114 rfl (fun σ5 => ?_)
          refine gx_aload_n hX 0 118 dw_M_push_117 rfl rfl rfl ?_
          refine mg_0 hX 26 121 (by decide) tw_934 rfl dw_M_push_118 rfl ?_
          exact gx_ret hX dw_M_push_121
        · refine gx_bipush hX (-2) 86 dw_M_push_84 (by decide) rfl ?_
          exact gx_ret hX dw_M_push_86
      · refine gx_iconst hX (-1) 73 dw_M_push_72 (by decide) rfl ?_
        exact gx_ret hX dw_M_push_73
    refine gx_pick (lv' := [(0, .ref (ob 0)), (1, .int L1), (2, .int L2), (3, .int S0), (4, .int 0)]) hX [2, 3, 4, 1, 0] rfl (gx_lpI (fun (f : gx_S → Int32 → Int32 → Int32 → Int32 → gx_R) => ∀ (σ6 : gx_S) (L1 : Int32) (L2 : Int32) (L3 : Int32) (L4 : Int32), gx_G (md_V D ob cI cB cS cZ) X (f σ6 L1 L2 L3 L4) σ6 28 [(0, .ref (ob 0)), (1, .int L1), (2, .int L2), (3, .int L3), (4, .int L4)] []) (fun _ _ _ _ _ => gx_none) (fun again28 ih28 σ6 L1 L2 L3 L4 => ?_) _ σ1 L1 L2 S0 0)
    refine gx_iload hX 4 30 dw_M_push_28 rfl rfl ?_
    refine gx_aload_n hX 0 31 dw_M_push_30 rfl rfl rfl ?_
    refine mg_0 hX 26 34 (by decide) tw_934 rfl dw_M_push_31 rfl ?_
    refine gx_icmp_ge hX 68 37 dw_M_push_34 (by decide) rfl (fun _ => ?_) (fun _ => ?_)
    · exact gx_pick (lv' := [(0, .ref (ob 0)), (1, .int L1), (2, .int L2), (3, .int L3)]) hX [0, 1, 2, 3] rfl (h68 σ6 L1 L2 L3)
    · refine gx_iload_n hX 3 38 dw_M_push_37 rfl rfl rfl ?_
      refine gx_jnI (fun (j : gx_S → Int32 → Int32 → Int32 → Int32 → gx_R) => ∀ (σ7 : gx_S) (L1 : Int32) (L2 : Int32) (L4 : Int32) (S0 : Int32), gx_G (md_V D ob cI cB cS cZ) X (j σ7 L1 L2 L4 S0) σ7 61 [(0, .ref (ob 0)), (1, .int L1), (2, .int L2), (4, .int L4)] [.int S0]) (fun σ7 L1 L2 L4 S0 => ?_) (fun j61 h61 => ?_)
      · refine gx_istore_n hX [(3, .int S0), (0, .ref (ob 0)), (1, .int L1), (2, .int L2), (4, .int L4)] 62 dw_M_push_61 rfl (by decide) rfl rfl ?_
        refine gx_iincN hX (q := 4) (fun x8 => [(4, .int x8), (3, .int S0), (0, .ref (ob 0)), (1, .int L1), (2, .int L2)]) 65 dw_M_push_62 rfl rfl (by decide) (fun _ => rfl) rfl (fun x8 => ?_)
        refine gx_goto hX 28 dw_M_push_65 (by decide) ?_
        exact gx_pick (lv' := [(0, .ref (ob 0)), (1, .int L1), (2, .int L2), (3, .int S0), (4, .int x8)]) hX [2, 3, 4, 1, 0] rfl (ih28 σ7 L1 L2 S0 x8)
      refine gx_jnI (fun (j : gx_S → Int32 → Int32 → Int32 → gx_R) => ∀ (σ9 : gx_S) (L1 : Int32) (L2 : Int32) (L4 : Int32), gx_G (md_V D ob cI cB cS cZ) X (j σ9 L1 L2 L4) σ9 60 [(0, .ref (ob 0)), (1, .int L1), (2, .int L2), (4, .int L4)] []) (fun σ9 L1 L2 L4 => ?_) (fun j60 h60 => ?_)
      · refine gx_iconst hX 0 61 dw_M_push_60 (by decide) rfl ?_
        exact gx_pick (lv' := [(0, .ref (ob 0)), (1, .int L1), (2, .int L2), (4, .int L4)]) hX [0, 1, 2, 3] rfl (h61 σ9 L1 L2 L4 0)
      refine gx_if_eq hX 60 41 dw_M_push_38 (by decide) rfl (fun _ => ?_) (fun _ => ?_)
      · exact gx_pick (lv' := [(0, .ref (ob 0)), (1, .int L1), (2, .int L2), (4, .int L4)]) hX [0, 1, 2, 4] rfl (h60 σ6 L1 L2 L4)
      · refine gx_iload_n hX 1 42 dw_M_push_41 rfl rfl rfl ?_
        refine gx_jnI (fun (j : gx_S → Int32 → Int32 → Int32 → gx_R) => ∀ (σ10 : gx_S) (L1 : Int32) (L2 : Int32) (L4 : Int32), gx_G (md_V D ob cI cB cS cZ) X (j σ10 L1 L2 L4) σ10 56 [(0, .ref (ob 0)), (1, .int L1), (2, .int L2), (4, .int L4)] []) (fun σ10 L1 L2 L4 => ?_) (fun j56 h56 => ?_)
        · refine gx_iconst hX 1 57 dw_M_push_56 (by decide) rfl ?_
          refine gx_goto hX 61 dw_M_push_57 (by decide) ?_
          exact gx_pick (lv' := [(0, .ref (ob 0)), (1, .int L1), (2, .int L2), (4, .int L4)]) hX [0, 1, 2, 3] rfl (h61 σ10 L1 L2 L4 1)
        refine gx_if_lt hX 56 45 dw_M_push_42 (by decide) rfl (fun _ => ?_) (fun _ => ?_)
        · exact gx_pick (lv' := [(0, .ref (ob 0)), (1, .int L1), (2, .int L2), (4, .int L4)]) hX [0, 1, 2, 4] rfl (h56 σ6 L1 L2 L4)
        · refine gx_aload_n hX 0 46 dw_M_push_45 rfl rfl rfl ?_
          refine mg_0 hX 27 49 (by decide) tw_935 rfl dw_M_push_46 rfl ?_
          refine gx_iload hX 4 51 dw_M_push_49 rfl rfl ?_
          refine gf_iald (u := md_u ob cI cB cS cZ) hX 20 21 0 52 (show 20 < 52 by decide) rfl rfl dw_M_push_51 rfl (fun r11 => ?_)
          refine gx_iload_n hX 1 53 dw_M_push_52 rfl rfl rfl ?_
          refine gx_icmp_eq hX 60 56 dw_M_push_53 (by decide) rfl (fun _ => ?_) (fun _ => ?_)
          · exact gx_pick (lv' := [(0, .ref (ob 0)), (1, .int L1), (2, .int L2), (4, .int L4)]) hX [0, 1, 2, 4] rfl (h60 σ6 L1 L2 L4)
          · exact gx_pick (lv' := [(0, .ref (ob 0)), (1, .int L1), (2, .int L2), (4, .int L4)]) hX [0, 1, 2, 4] rfl (h56 σ6 L1 L2 L4)
  refine gx_jnI (fun (j : gx_S → Int32 → Int32 → gx_R) => ∀ (σ12 : gx_S) (L1 : Int32) (L2 : Int32), gx_G (md_V D ob cI cB cS cZ) X (j σ12 L1 L2) σ12 23 [(0, .ref (ob 0)), (1, .int L1), (2, .int L2)] []) (fun σ12 L1 L2 => ?_) (fun j23 h23 => ?_)
  · refine gx_iconst hX 0 24 dw_M_push_23 (by decide) rfl ?_
    exact gx_pick (lv' := [(0, .ref (ob 0)), (1, .int L1), (2, .int L2)]) hX [0, 1, 2] rfl (h24 σ12 L1 L2 0)
  refine gx_icmp_lt hX 23 5 dw_M_push_2 (by decide) rfl (fun _ => ?_) (fun _ => ?_)
  · exact gx_pick (lv' := [(0, .ref (ob 0)), (1, .int L1), (2, .int L2)]) hX [0, 1, 2] rfl (h23 σ L1 L2)
  · refine gx_iload_n hX 1 6 dw_M_push_5 rfl rfl rfl ?_
    refine gx_ldc hX 32768 8 dw_M_push_6 tw_1139 rfl ?_
    refine gx_icmp_ge hX 23 11 dw_M_push_8 (by decide) rfl (fun _ => ?_) (fun _ => ?_)
    · exact gx_pick (lv' := [(0, .ref (ob 0)), (1, .int L1), (2, .int L2)]) hX [0, 1, 2] rfl (h23 σ L1 L2)
    · refine gx_aload_n hX 0 12 dw_M_push_11 rfl rfl rfl ?_
      refine gx_iload_n hX 2 13 dw_M_push_12 rfl rfl rfl ?_
      refine tr_M_isType hX 16 tw_1140 ⟨Nat.le_of_ble_eq_true rfl, Nat.le_of_ble_eq_true rfl⟩ (Nat.le_of_ble_eq_true rfl) dw_M_push_13 rfl (fun σ13 r14 => ?_)
      refine gx_if_eq hX 23 19 dw_M_push_16 (by decide) rfl (fun _ => ?_) (fun _ => ?_)
      · exact gx_pick (lv' := [(0, .ref (ob 0)), (1, .int L1), (2, .int L2)]) hX [0, 1, 2] rfl (h23 σ13 L1 L2)
      · refine gx_iconst hX 1 20 dw_M_push_19 (by decide) rfl ?_
        refine gx_goto hX 24 dw_M_push_20 (by decide) ?_
        exact gx_pick (lv' := [(0, .ref (ob 0)), (1, .int L1), (2, .int L2)]) hX [0, 1, 2] rfl (h24 σ13 L1 L2 1)
def my_M_push : MethodName := ⟨"TypeLoomModel", "push", "(II)I"⟩
theorem hy_M_push : (my_M_push.cls ≠ "java/lang/invoke/MethodHandle" ∧ my_M_push.cls ≠ "java/lang/invoke/VarHandle") ∧ (parseMethodDescriptor my_M_push.desc).map (fun d => d.parameters.length) = some 2 := by decide +kernel
theorem tm_M_push {D : va_G} {ob : Nat → Nat} {cI cB cS cZ : ClassId} (l : Launch) (σ : gx_S) (L1 : Int32) (L2 : Int32) : gx_C l (md_V D ob cI cB cS cZ) my_M_push prog_11_method_6_code 5 (some .int) 1 21 [.ref (ob 0), .int L1, .int L2] σ (km_M_push σ L1 L2) := gx_met (by decide) rfl (Nat.le_of_ble_eq_true rfl) rfl (fun X _ hX => tl_M_push hX σ L1 L2)
theorem tr_M_push {D : va_G} {ob : Nat → Nat} {cI cB cS cZ : ClassId} {X : gx_X} {cc : ByteArray} {own : String} {nL fr lo : Nat} {rt : Option FieldType} {σ : gx_S} {pc : Nat} {lv : List (Nat × Value)} {st : List Value} (hX : gx_K (md_V D ob cI cB cS cZ) X cc own nL fr lo rt) {idx : Nat} {L1 : Int32} {L2 : Int32} {k : gx_S → Int32 → gx_R} (n : Nat) (hlink : Cond.methodLink own idx ({ cls := "TypeLoomModel", name := "push", desc := "(II)I" } : Jvm.MethodName) ∈ gx_T) (hroom : 1 + 1 ≤ fr ∧ 8 + (5 + 11) + 21 ≤ lo) (hst : (st.map fun v => v.category).sum ≤ 8) (hd : decode cc pc = .ok (.invokevirtual idx, 3)) (hn : pc + 3 = n) (kk : ∀ σ' r, gx_G (md_V D ob cI cB cS cZ) X (k σ' r) σ' n lv (.int r :: st)) : gx_G (md_V D ob cI cB cS cZ) X (gx_bd (km_M_push σ L1 L2) k) σ pc lv (.int L2 :: .int L1 :: .ref (ob 0) :: st) :=
  gx_callI hX [.int L1, .int L2] n rfl (tm_M_push _ σ L1 L2) hy_M_push tw_1138 hlink tw_1136 tw_1137 tw_79 (gf_recv 0 (show 0 < 1 by decide) rfl rfl) hroom hst hd hn rfl (fun σ' r _ => kk σ' r)
def km_M_built (σ : gx_S) (L1 : Int32) : gx_R :=
  if L1 < 0 then
    some (σ, (-1))
  else
    if (σ.1 0) ≤ L1 then
      some (σ, (-1))
    else
      gx_bd (km_M_areAll σ 0) (fun σ1 r2 =>
      if r2 = 0 then
        some (σ1, (-1))
      else
        gx_ld σ1 0 2048 L1 (fun r3 =>
        if (σ1.1 6) = r3 then
          if (σ1.1 1) = 24576 then
            some (σ1, (-2))
          else
            if (((σ1.1 2)) + ((σ1.1 6))) ≤ 65536 then
              gx_bd (km_M_make σ1 2 L1) (fun σ4 r5 =>
              gx_jn (fun (σ6 : gx_S) (L2 : Int32) =>
                gx_sb (gx_si σ6 6 0) (fun σ7 =>
                some (σ7, L2))) (fun j97 =>
              gx_lp (α := gx_S → Int32 → Int32 → gx_R) (fun _ _ _ => none) (fun again71 (σ8 : gx_S) (L2 : Int32) (L3 : Int32) =>
                if (σ8.1 6) ≤ L3 then
                j97 σ8 L2
              else
                gx_ld σ8 21 128 L3 (fun r9 =>
                gx_bd (km_M_addPart σ8 L2 0 r9) (fun σ10 _ =>
                gx_bv (L3 + 1) (fun x12 =>
                again71 σ10 L2 x12)))) gx_F σ4 r5 0))
            else
              some (σ1, (-2))
        else
          some (σ1, (-1))))
set_option maxRecDepth 100000 in
set_option maxHeartbeats 4000000 in
theorem tl_M_built {D : va_G} {ob : Nat → Nat} {cI cB cS cZ : ClassId} {X : gx_X} (hX : gx_K (md_V D ob cI cB cS cZ) X prog_11_method_8_code "TypeLoomModel" 4 1 23 (some .int)) (σ : gx_S) (L1 : Int32) : gx_G (md_V D ob cI cB cS cZ) X (km_M_built σ L1) σ 0 [(0, .ref (ob 0)), (1, .int L1)] [] := by
  unfold km_M_built
  refine gx_iload_n hX 1 1 dw_M_built_0 rfl rfl rfl ?_
  refine gx_if_lt hX 33 4 dw_M_built_1 (by decide) rfl (fun _ => ?_) (fun _ => ?_)
  · refine gx_iconst hX (-1) 34 dw_M_built_33 (by decide) rfl ?_
    exact gx_ret hX dw_M_built_34
  · refine gx_iload_n hX 1 5 dw_M_built_4 rfl rfl rfl ?_
    refine gx_aload_n hX 0 6 dw_M_built_5 rfl rfl rfl ?_
    refine mg_0 hX 0 9 (by decide) tw_908 rfl dw_M_built_6 rfl ?_
    refine gx_icmp_ge hX 33 12 dw_M_built_9 (by decide) rfl (fun _ => ?_) (fun _ => ?_)
    · refine gx_iconst hX (-1) 34 dw_M_built_33 (by decide) rfl ?_
      exact gx_ret hX dw_M_built_34
    · refine gx_aload_n hX 0 13 dw_M_built_12 rfl rfl rfl ?_
      refine gx_iconst hX 0 14 dw_M_built_13 (by decide) rfl ?_
      refine tr_M_areAll hX 17 tw_1148 ⟨Nat.le_of_ble_eq_true rfl, Nat.le_of_ble_eq_true rfl⟩ (Nat.le_of_ble_eq_true rfl) dw_M_built_14 rfl (fun σ1 r2 => ?_)
      refine gx_if_eq hX 33 20 dw_M_built_17 (by decide) rfl (fun _ => ?_) (fun _ => ?_)
      · refine gx_iconst hX (-1) 34 dw_M_built_33 (by decide) rfl ?_
        exact gx_ret hX dw_M_built_34
      · refine gx_aload_n hX 0 21 dw_M_built_20 rfl rfl rfl ?_
        refine mg_0 hX 26 24 (by decide) tw_934 rfl dw_M_built_21 rfl ?_
        refine gx_aload_n hX 0 25 dw_M_built_24 rfl rfl rfl ?_
        refine mg_0 hX 1 28 (by decide) tw_909 rfl dw_M_built_25 rfl ?_
        refine gx_iload_n hX 1 29 dw_M_built_28 rfl rfl rfl ?_
        refine gf_bald (u := md_u ob cI cB cS cZ) hX 0 1 1 30 (show 0 < 52 by decide) rfl rfl dw_M_built_29 rfl (fun r3 => ?_)
        refine gx_icmp_eq hX 35 33 dw_M_built_30 (by decide) rfl (fun _ => ?_) (fun _ => ?_)
        · refine gx_aload_n hX 0 36 dw_M_built_35 rfl rfl rfl ?_
          refine mg_0 hX 3 39 (by decide) tw_911 rfl dw_M_built_36 rfl ?_
          refine gx_sipush hX 24576 42 dw_M_built_39 (by decide) rfl ?_
          refine gx_icmp_eq hX 59 45 dw_M_built_42 (by decide) rfl (fun _ => ?_) (fun _ => ?_)
          · refine gx_bipush hX (-2) 61 dw_M_built_59 (by decide) rfl ?_
            exact gx_ret hX dw_M_built_61
          · refine gx_aload_n hX 0 46 dw_M_built_45 rfl rfl rfl ?_
            refine mg_0 hX 13 49 (by decide) tw_921 rfl dw_M_built_46 rfl ?_
            refine gx_aload_n hX 0 50 dw_M_built_49 rfl rfl rfl ?_
            refine mg_0 hX 26 53 (by decide) tw_934 rfl dw_M_built_50 rfl ?_
            refine gx_iadd hX 54 dw_M_built_53 rfl ?_
            refine gx_ldc hX 65536 56 dw_M_built_54 tw_904 rfl ?_
            refine gx_icmp_le hX 62 59 dw_M_built_56 (by decide) rfl (fun _ => ?_) (fun _ => ?_)
            · refine gx_aload_n hX 0 63 dw_M_built_62 rfl rfl rfl ?_
              refine gx_iconst hX 2 64 dw_M_built_63 (by decide) rfl ?_
              refine gx_iload_n hX 1 65 dw_M_built_64 rfl rfl rfl ?_
              refine tr_M_make hX 68 tw_1152 ⟨Nat.le_of_ble_eq_true rfl, Nat.le_of_ble_eq_true rfl⟩ (Nat.le_of_ble_eq_true rfl) dw_M_built_65 rfl (fun σ4 r5 => ?_)
              refine gx_istore_n hX [(2, .int r5), (0, .ref (ob 0)), (1, .int L1)] 69 dw_M_built_68 rfl (by decide) rfl rfl ?_
              refine gx_iconst hX 0 70 dw_M_built_69 (by decide) rfl ?_
              refine gx_istore_n hX [(3, .int 0), (2, .int r5), (0, .ref (ob 0)), (1, .int L1)] 71 dw_M_built_70 rfl (by decide) rfl rfl ?_
              refine gx_jnI (fun (j : gx_S → Int32 → gx_R) => ∀ (σ6 : gx_S) (L2 : Int32), gx_G (md_V D ob cI cB cS cZ) X (j σ6 L2) σ6 97 [(0, .ref (ob 0)), (2, .int L2)] []) (fun σ6 L2 => ?_) (fun j97 h97 => ?_)
              · refine gx_aload_n hX 0 98 dw_M_built_97 rfl rfl rfl ?_
                refine gx_iconst hX 0 99 dw_M_built_98 (by decide) rfl ?_
                refine mp_6 hX 102 tw_934 dw_M_built_99 rfl (fun σ7 => ?_)
                refine gx_iload_n hX 1 103 dw_M_built_102 rfl rfl rfl ?_
                exact gx_ret hX dw_M_built_103
              refine gx_pick (lv' := [(0, .ref (ob 0)), (2, .int r5), (3, .int 0)]) hX [2, 1, 0] rfl (gx_lpI (fun (f : gx_S → Int32 → Int32 → gx_R) => ∀ (σ8 : gx_S) (L2 : Int32) (L3 : Int32), gx_G (md_V D ob cI cB cS cZ) X (f σ8 L2 L3) σ8 71 [(0, .ref (ob 0)), (2, .int L2), (3, .int L3)] []) (fun _ _ _ => gx_none) (fun again71 ih71 σ8 L2 L3 => ?_) _ σ4 r5 0)
              refine gx_iload_n hX 2 72 dw_M_built_71 rfl rfl rfl ?_
              refine gx_aload_n hX 0 73 dw_M_built_72 rfl rfl rfl ?_
              refine mg_0 hX 26 76 (by decide) tw_934 rfl dw_M_built_73 rfl ?_
              refine gx_icmp_ge hX 97 79 dw_M_built_76 (by decide) rfl (fun _ => ?_) (fun _ => ?_)
              · exact gx_pick (lv' := [(0, .ref (ob 0)), (2, .int L2)]) hX [0, 1] rfl (h97 σ8 L2)
              · refine gx_aload_n hX 0 80 dw_M_built_79 rfl rfl rfl ?_
                refine gx_iload_n hX 1 81 dw_M_built_80 rfl rfl rfl ?_
                refine gx_iconst hX 0 82 dw_M_built_81 (by decide) rfl ?_
                refine gx_aload_n hX 0 83 dw_M_built_82 rfl rfl rfl ?_
                refine mg_0 hX 28 86 (by decide) tw_936 rfl dw_M_built_83 rfl ?_
                refine gx_iload_n hX 2 87 dw_M_built_86 rfl rfl rfl ?_
                refine gf_iald (u := md_u ob cI cB cS cZ) hX 21 22 0 88 (show 21 < 52 by decide) rfl rfl dw_M_built_87 rfl (fun r9 => ?_)
                refine tr_M_addPart hX 91 tw_1156 ⟨Nat.le_of_ble_eq_true rfl, Nat.le_of_ble_eq_true rfl⟩ (Nat.le_of_ble_eq_true rfl) dw_M_built_88 rfl (fun σ10 _ => ?_)
                refine gx_iincN hX (q := 2) (fun x12 => [(3, .int x12), (0, .ref (ob 0)), (2, .int L2)]) 94 dw_M_built_91 rfl rfl (by decide) (fun _ => rfl) rfl (fun x12 => ?_)
                refine gx_goto hX 71 dw_M_built_94 (by decide) ?_
                exact gx_pick (lv' := [(0, .ref (ob 0)), (2, .int L2), (3, .int x12)]) hX [1, 2, 0] rfl (ih71 σ10 L2 x12)
            · refine gx_bipush hX (-2) 61 dw_M_built_59 (by decide) rfl ?_
              exact gx_ret hX dw_M_built_61
        · refine gx_iconst hX (-1) 34 dw_M_built_33 (by decide) rfl ?_
          exact gx_ret hX dw_M_built_34
def my_M_built : MethodName := ⟨"TypeLoomModel", "built", "(I)I"⟩
theorem hy_M_built : (my_M_built.cls ≠ "java/lang/invoke/MethodHandle" ∧ my_M_built.cls ≠ "java/lang/invoke/VarHandle") ∧ (parseMethodDescriptor my_M_built.desc).map (fun d => d.parameters.length) = some 1 := by decide +kernel
theorem tm_M_built {D : va_G} {ob : Nat → Nat} {cI cB cS cZ : ClassId} (l : Launch) (σ : gx_S) (L1 : Int32) : gx_C l (md_V D ob cI cB cS cZ) my_M_built prog_11_method_8_code 4 (some .int) 1 23 [.ref (ob 0), .int L1] σ (km_M_built σ L1) := gx_met (by decide) rfl (Nat.le_of_ble_eq_true rfl) rfl (fun X _ hX => tl_M_built hX σ L1)
theorem tr_M_built {D : va_G} {ob : Nat → Nat} {cI cB cS cZ : ClassId} {X : gx_X} {cc : ByteArray} {own : String} {nL fr lo : Nat} {rt : Option FieldType} {σ : gx_S} {pc : Nat} {lv : List (Nat × Value)} {st : List Value} (hX : gx_K (md_V D ob cI cB cS cZ) X cc own nL fr lo rt) {idx : Nat} {L1 : Int32} {k : gx_S → Int32 → gx_R} (n : Nat) (hlink : Cond.methodLink own idx ({ cls := "TypeLoomModel", name := "built", desc := "(I)I" } : Jvm.MethodName) ∈ gx_T) (hroom : 1 + 1 ≤ fr ∧ 8 + (4 + 11) + 23 ≤ lo) (hst : (st.map fun v => v.category).sum ≤ 8) (hd : decode cc pc = .ok (.invokevirtual idx, 3)) (hn : pc + 3 = n) (kk : ∀ σ' r, gx_G (md_V D ob cI cB cS cZ) X (k σ' r) σ' n lv (.int r :: st)) : gx_G (md_V D ob cI cB cS cZ) X (gx_bd (km_M_built σ L1) k) σ pc lv (.int L1 :: .ref (ob 0) :: st) :=
  gx_callI hX [.int L1] n rfl (tm_M_built _ σ L1) hy_M_built tw_1147 hlink tw_1145 tw_1146 tw_79 (gf_recv 0 (show 0 < 1 by decide) rfl rfl) hroom hst hd hn rfl (fun σ' r _ => kk σ' r)
def km_M_record (σ : gx_S) (L1 : Int32) : gx_R :=
  gx_bd (km_M_areAll σ 1) (fun σ1 r2 =>
  if r2 = 0 then
    some (σ1, (-1))
  else
    if (σ1.1 1) = 24576 then
      some (σ1, (-2))
    else
      if 65536 < (((σ1.1 2)) + ((σ1.1 6))) then
        some (σ1, (-2))
      else
        gx_jn (fun (σ3 : gx_S) (L1 : Int32) =>
          gx_bd (km_M_make σ3 4 0) (fun σ4 r5 =>
          gx_jn (fun (σ6 : gx_S) (L1 : Int32) (L2 : Int32) =>
            gx_jn (fun (σ7 : gx_S) (L2 : Int32) =>
              gx_sb (gx_si σ7 6 0) (fun σ8 =>
              some (σ8, L2))) (fun j120 =>
            if L1 = 0 then
              j120 σ6 L2
            else
              gx_bd (km_M_makeRow σ6 ((σ6.1 7)) 0) (fun σ9 r10 =>
              gx_st σ9 6 24576 L2 r10 (fun σ11 =>
              gx_sb (gx_si σ11 3 ((((σ11.1 3)) + 1))) (fun σ12 =>
              j120 σ12 L2))))) (fun j91 =>
          gx_lp (α := gx_S → Int32 → Int32 → Int32 → gx_R) (fun _ _ _ _ => none) (fun again60 (σ13 : gx_S) (L1 : Int32) (L2 : Int32) (L3 : Int32) =>
            if (σ13.1 6) ≤ L3 then
            j91 σ13 L1 L2
          else
            gx_ld σ13 20 128 L3 (fun r14 =>
            gx_ld σ13 21 128 L3 (fun r15 =>
            gx_bd (km_M_addPart σ13 L2 r14 r15) (fun σ16 _ =>
            gx_bv (L3 + 1) (fun x18 =>
            again60 σ16 L1 L2 x18))))) gx_F σ4 L1 r5 0))) (fun j51 =>
        if L1 = 0 then
          j51 σ1 L1
        else
          if (σ1.1 3) = 512 then
            some (σ1, (-2))
          else
            j51 σ1 L1))
set_option maxRecDepth 100000 in
set_option maxHeartbeats 4000000 in
theorem tl_M_record {D : va_G} {ob : Nat → Nat} {cI cB cS cZ : ClassId} {X : gx_X} (hX : gx_K (md_V D ob cI cB cS cZ) X prog_11_method_10_code "TypeLoomModel" 4 1 23 (some .int)) (σ : gx_S) (L1 : Int32) : gx_G (md_V D ob cI cB cS cZ) X (km_M_record σ L1) σ 0 [(0, .ref (ob 0)), (1, .int L1)] [] := by
  unfold km_M_record
  refine gx_aload_n hX 0 1 dw_M_record_0 rfl rfl rfl ?_
  refine gx_iconst hX 1 2 dw_M_record_1 (by decide) rfl ?_
  refine tr_M_areAll hX 5 tw_1148 ⟨Nat.le_of_ble_eq_true rfl, Nat.le_of_ble_eq_true rfl⟩ (Nat.le_of_ble_eq_true rfl) dw_M_record_2 rfl (fun σ1 r2 => ?_)
  refine gx_if_ne hX 10 8 dw_M_record_5 (by decide) rfl (fun _ => ?_) (fun _ => ?_)
  · refine gx_aload_n hX 0 11 dw_M_record_10 rfl rfl rfl ?_
    refine mg_0 hX 3 14 (by decide) tw_911 rfl dw_M_record_11 rfl ?_
    refine gx_sipush hX 24576 17 dw_M_record_14 (by decide) rfl ?_
    refine gx_icmp_eq hX 48 20 dw_M_record_17 (by decide) rfl (fun _ => ?_) (fun _ => ?_)
    · refine gx_bipush hX (-2) 50 dw_M_record_48 (by decide) rfl ?_
      exact gx_ret hX dw_M_record_50
    · refine gx_aload_n hX 0 21 dw_M_record_20 rfl rfl rfl ?_
      refine mg_0 hX 13 24 (by decide) tw_921 rfl dw_M_record_21 rfl ?_
      refine gx_aload_n hX 0 25 dw_M_record_24 rfl rfl rfl ?_
      refine mg_0 hX 26 28 (by decide) tw_934 rfl dw_M_record_25 rfl ?_
      refine gx_iadd hX 29 dw_M_record_28 rfl ?_
      refine gx_ldc hX 65536 31 dw_M_record_29 tw_904 rfl ?_
      refine gx_icmp_gt hX 48 34 dw_M_record_31 (by decide) rfl (fun _ => ?_) (fun _ => ?_)
      · refine gx_bipush hX (-2) 50 dw_M_record_48 (by decide) rfl ?_
        exact gx_ret hX dw_M_record_50
      · refine gx_iload_n hX 1 35 dw_M_record_34 rfl rfl rfl ?_
        refine gx_jnI (fun (j : gx_S → Int32 → gx_R) => ∀ (σ3 : gx_S) (L1 : Int32), gx_G (md_V D ob cI cB cS cZ) X (j σ3 L1) σ3 51 [(0, .ref (ob 0)), (1, .int L1)] []) (fun σ3 L1 => ?_) (fun j51 h51 => ?_)
        · refine gx_aload_n hX 0 52 dw_M_record_51 rfl rfl rfl ?_
          refine gx_iconst hX 4 53 dw_M_record_52 (by decide) rfl ?_
          refine gx_iconst hX 0 54 dw_M_record_53 (by decide) rfl ?_
          refine tr_M_make hX 57 tw_1152 ⟨Nat.le_of_ble_eq_true rfl, Nat.le_of_ble_eq_true rfl⟩ (Nat.le_of_ble_eq_true rfl) dw_M_record_54 rfl (fun σ4 r5 => ?_)
          refine gx_istore_n hX [(2, .int r5), (0, .ref (ob 0)), (1, .int L1)] 58 dw_M_record_57 rfl (by decide) rfl rfl ?_
          refine gx_iconst hX 0 59 dw_M_record_58 (by decide) rfl ?_
          refine gx_istore_n hX [(3, .int 0), (2, .int r5), (0, .ref (ob 0)), (1, .int L1)] 60 dw_M_record_59 rfl (by decide) rfl rfl ?_
          refine gx_jnI (fun (j : gx_S → Int32 → Int32 → gx_R) => ∀ (σ6 : gx_S) (L1 : Int32) (L2 : Int32), gx_G (md_V D ob cI cB cS cZ) X (j σ6 L1 L2) σ6 91 [(0, .ref (ob 0)), (1, .int L1), (2, .int L2)] []) (fun σ6 L1 L2 => ?_) (fun j91 h91 => ?_)
          · refine gx_iload_n hX 1 92 dw_M_record_91 rfl rfl rfl ?_
            refine gx_jnI (fun (j : gx_S → Int32 → gx_R) => ∀ (σ7 : gx_S) (L2 : Int32), gx_G (md_V D ob cI cB cS cZ) X (j σ7 L2) σ7 120 [(0, .ref (ob 0)), (2, .int L2)] []) (fun σ7 L2 => ?_) (fun j120 h120 => ?_)
            · refine gx_aload_n hX 0 121 dw_M_record_120 rfl rfl rfl ?_
              refine gx_iconst hX 0 122 dw_M_record_121 (by decide) rfl ?_
              refine mp_6 hX 125 tw_934 dw_M_record_122 rfl (fun σ8 => ?_)
              refine gx_iload_n hX 1 126 dw_M_record_125 rfl rfl rfl ?_
              exact gx_ret hX dw_M_record_126
            refine gx_if_eq hX 120 95 dw_M_record_92 (by decide) rfl (fun _ => ?_) (fun _ => ?_)
            · exact gx_pick (lv' := [(0, .ref (ob 0)), (2, .int L2)]) hX [0, 2] rfl (h120 σ6 L2)
            · refine gx_aload_n hX 0 96 dw_M_record_95 rfl rfl rfl ?_
              refine mg_0 hX 8 99 (by decide) tw_916 rfl dw_M_record_96 rfl ?_
              refine gx_iload_n hX 2 100 dw_M_record_99 rfl rfl rfl ?_
              refine gx_aload_n hX 0 101 dw_M_record_100 rfl rfl rfl ?_
              refine gx_aload_n hX 0 102 dw_M_record_101 rfl rfl rfl ?_
              refine mg_0 hX 29 105 (by decide) tw_937 rfl dw_M_record_102 rfl ?_
              refine gx_iconst hX 0 106 dw_M_record_105 (by decide) rfl ?_
              refine tr_M_makeRow hX 109 tw_1164 ⟨Nat.le_of_ble_eq_true rfl, Nat.le_of_ble_eq_true rfl⟩ (Nat.le_of_ble_eq_true rfl) dw_M_record_106 rfl (fun σ9 r10 => ?_)
              refine gf_iast (u := md_u ob cI cB cS cZ) hX 6 7 0 110 (show 6 < 52 by decide) rfl rfl (fun _ _ _ => rfl) dw_M_record_109 rfl (fun σ11 => ?_)
              refine gx_aload_n hX 0 111 dw_M_record_110 rfl rfl rfl ?_
              refine gx_dup hX 112 dw_M_record_111 rfl rfl ?_
              refine mg_0 hX 16 115 (by decide) tw_924 rfl dw_M_record_112 rfl ?_
              refine gx_iconst hX 1 116 dw_M_record_115 (by decide) rfl ?_
              refine gx_iadd hX 117 dw_M_record_116 rfl ?_
              refine mp_3 hX 120 tw_924 dw_M_record_117 rfl (fun σ12 => ?_)
              exact gx_pick (lv' := [(0, .ref (ob 0)), (2, .int L2)]) hX [0, 2] rfl (h120 σ12 L2)
          refine gx_pick (lv' := [(0, .ref (ob 0)), (1, .int L1), (2, .int r5), (3, .int 0)]) hX [2, 3, 1, 0] rfl (gx_lpI (fun (f : gx_S → Int32 → Int32 → Int32 → gx_R) => ∀ (σ13 : gx_S) (L1 : Int32) (L2 : Int32) (L3 : Int32), gx_G (md_V D ob cI cB cS cZ) X (f σ13 L1 L2 L3) σ13 60 [(0, .ref (ob 0)), (1, .int L1), (2, .int L2), (3, .int L3)] []) (fun _ _ _ _ => gx_none) (fun again60 ih60 σ13 L1 L2 L3 => ?_) _ σ4 L1 r5 0)
          refine gx_iload_n hX 3 61 dw_M_record_60 rfl rfl rfl ?_
          refine gx_aload_n hX 0 62 dw_M_record_61 rfl rfl rfl ?_
          refine mg_0 hX 26 65 (by decide) tw_934 rfl dw_M_record_62 rfl ?_
          refine gx_icmp_ge hX 91 68 dw_M_record_65 (by decide) rfl (fun _ => ?_) (fun _ => ?_)
          · exact gx_pick (lv' := [(0, .ref (ob 0)), (1, .int L1), (2, .int L2)]) hX [0, 1, 2] rfl (h91 σ13 L1 L2)
          · refine gx_aload_n hX 0 69 dw_M_record_68 rfl rfl rfl ?_
            refine gx_iload_n hX 2 70 dw_M_record_69 rfl rfl rfl ?_
            refine gx_aload_n hX 0 71 dw_M_record_70 rfl rfl rfl ?_
            refine mg_0 hX 27 74 (by decide) tw_935 rfl dw_M_record_71 rfl ?_
            refine gx_iload_n hX 3 75 dw_M_record_74 rfl rfl rfl ?_
            refine gf_iald (u := md_u ob cI cB cS cZ) hX 20 21 0 76 (show 20 < 52 by decide) rfl rfl dw_M_record_75 rfl (fun r14 => ?_)
            refine gx_aload_n hX 0 77 dw_M_record_76 rfl rfl rfl ?_
            refine mg_0 hX 28 80 (by decide) tw_936 rfl dw_M_record_77 rfl ?_
            refine gx_iload_n hX 3 81 dw_M_record_80 rfl rfl rfl ?_
            refine gf_iald (u := md_u ob cI cB cS cZ) hX 21 22 0 82 (show 21 < 52 by decide) rfl rfl dw_M_record_81 rfl (fun r15 => ?_)
            refine tr_M_addPart hX 85 tw_1156 ⟨Nat.le_of_ble_eq_true rfl, Nat.le_of_ble_eq_true rfl⟩ (Nat.le_of_ble_eq_true rfl) dw_M_record_82 rfl (fun σ16 _ => ?_)
            refine gx_iincN hX (q := 3) (fun x18 => [(3, .int x18), (0, .ref (ob 0)), (1, .int L1), (2, .int L2)]) 88 dw_M_record_85 rfl rfl (by decide) (fun _ => rfl) rfl (fun x18 => ?_)
            refine gx_goto hX 60 dw_M_record_88 (by decide) ?_
            exact gx_pick (lv' := [(0, .ref (ob 0)), (1, .int L1), (2, .int L2), (3, .int x18)]) hX [1, 2, 3, 0] rfl (ih60 σ16 L1 L2 x18)
        refine gx_if_eq hX 51 38 dw_M_record_35 (by decide) rfl (fun _ => ?_) (fun _ => ?_)
        · exact gx_pick (lv' := [(0, .ref (ob 0)), (1, .int L1)]) hX [0, 1] rfl (h51 σ1 L1)
        · refine gx_aload_n hX 0 39 dw_M_record_38 rfl rfl rfl ?_
          refine mg_0 hX 16 42 (by decide) tw_924 rfl dw_M_record_39 rfl ?_
          refine gx_sipush hX 512 45 dw_M_record_42 (by decide) rfl ?_
          refine gx_icmp_ne hX 51 48 dw_M_record_45 (by decide) rfl (fun _ => ?_) (fun _ => ?_)
          · exact gx_pick (lv' := [(0, .ref (ob 0)), (1, .int L1)]) hX [0, 1] rfl (h51 σ1 L1)
          · refine gx_bipush hX (-2) 50 dw_M_record_48 (by decide) rfl ?_
            exact gx_ret hX dw_M_record_50
  · refine gx_iconst hX (-1) 9 dw_M_record_8 (by decide) rfl ?_
    exact gx_ret hX dw_M_record_9
def my_M_record : MethodName := ⟨"TypeLoomModel", "record", "(Z)I"⟩
theorem hy_M_record : (my_M_record.cls ≠ "java/lang/invoke/MethodHandle" ∧ my_M_record.cls ≠ "java/lang/invoke/VarHandle") ∧ (parseMethodDescriptor my_M_record.desc).map (fun d => d.parameters.length) = some 1 := by decide +kernel
theorem tm_M_record {D : va_G} {ob : Nat → Nat} {cI cB cS cZ : ClassId} (l : Launch) (σ : gx_S) (L1 : Int32) : gx_C l (md_V D ob cI cB cS cZ) my_M_record prog_11_method_10_code 4 (some .int) 1 23 [.ref (ob 0), .int L1] σ (km_M_record σ L1) := gx_met (by decide) rfl (Nat.le_of_ble_eq_true rfl) rfl (fun X _ hX => tl_M_record hX σ L1)
theorem tr_M_record {D : va_G} {ob : Nat → Nat} {cI cB cS cZ : ClassId} {X : gx_X} {cc : ByteArray} {own : String} {nL fr lo : Nat} {rt : Option FieldType} {σ : gx_S} {pc : Nat} {lv : List (Nat × Value)} {st : List Value} (hX : gx_K (md_V D ob cI cB cS cZ) X cc own nL fr lo rt) {idx : Nat} {L1 : Int32} {k : gx_S → Int32 → gx_R} (n : Nat) (hlink : Cond.methodLink own idx ({ cls := "TypeLoomModel", name := "record", desc := "(Z)I" } : Jvm.MethodName) ∈ gx_T) (hroom : 1 + 1 ≤ fr ∧ 8 + (4 + 11) + 23 ≤ lo) (hst : (st.map fun v => v.category).sum ≤ 8) (hd : decode cc pc = .ok (.invokevirtual idx, 3)) (hn : pc + 3 = n) (kk : ∀ σ' r, gx_G (md_V D ob cI cB cS cZ) X (k σ' r) σ' n lv (.int r :: st)) : gx_G (md_V D ob cI cB cS cZ) X (gx_bd (km_M_record σ L1) k) σ pc lv (.int L1 :: .ref (ob 0) :: st) :=
  gx_callI hX [.int L1] n rfl (tm_M_record _ σ L1) hy_M_record tw_1163 hlink tw_1161 tw_1162 tw_79 (gf_recv 0 (show 0 < 1 by decide) rfl rfl) hroom hst hd hn rfl (fun σ' r _ => kk σ' r)
def km_M_function (σ : gx_S) (L1 : Int32) (L2 : Int32) : gx_R :=
  gx_bd (km_M_isType σ L1) (fun σ1 r2 =>
  if r2 = 0 then
    some (σ1, (-1))
  else
    gx_bd (km_M_isType σ1 L2) (fun σ3 r4 =>
    if r4 = 0 then
      some (σ3, (-1))
    else
      if (σ3.1 1) = 24576 then
        some (σ3, (-2))
      else
        if (((σ3.1 2)) + 2) ≤ 65536 then
          gx_bd (km_M_make σ3 3 0) (fun σ5 r6 =>
          gx_bd (km_M_addPart σ5 r6 0 L1) (fun σ7 _ =>
          gx_bd (km_M_addPart σ7 r6 0 L2) (fun σ9 _ =>
          some (σ9, r6))))
        else
          some (σ3, (-2))))
set_option maxRecDepth 100000 in
set_option maxHeartbeats 4000000 in
theorem tl_M_function {D : va_G} {ob : Nat → Nat} {cI cB cS cZ : ClassId} {X : gx_X} (hX : gx_K (md_V D ob cI cB cS cZ) X prog_11_method_11_code "TypeLoomModel" 4 1 23 (some .int)) (σ : gx_S) (L1 : Int32) (L2 : Int32) : gx_G (md_V D ob cI cB cS cZ) X (km_M_function σ L1 L2) σ 0 [(0, .ref (ob 0)), (1, .int L1), (2, .int L2)] [] := by
  unfold km_M_function
  refine gx_aload_n hX 0 1 dw_M_function_0 rfl rfl rfl ?_
  refine gx_iload_n hX 1 2 dw_M_function_1 rfl rfl rfl ?_
  refine tr_M_isType hX 5 tw_1140 ⟨Nat.le_of_ble_eq_true rfl, Nat.le_of_ble_eq_true rfl⟩ (Nat.le_of_ble_eq_true rfl) dw_M_function_2 rfl (fun σ1 r2 => ?_)
  refine gx_if_eq hX 16 8 dw_M_function_5 (by decide) rfl (fun _ => ?_) (fun _ => ?_)
  · refine gx_iconst hX (-1) 17 dw_M_function_16 (by decide) rfl ?_
    exact gx_ret hX dw_M_function_17
  · refine gx_aload_n hX 0 9 dw_M_function_8 rfl rfl rfl ?_
    refine gx_iload_n hX 2 10 dw_M_function_9 rfl rfl rfl ?_
    refine tr_M_isType hX 13 tw_1140 ⟨Nat.le_of_ble_eq_true rfl, Nat.le_of_ble_eq_true rfl⟩ (Nat.le_of_ble_eq_true rfl) dw_M_function_10 rfl (fun σ3 r4 => ?_)
    refine gx_if_ne hX 18 16 dw_M_function_13 (by decide) rfl (fun _ => ?_) (fun _ => ?_)
    · refine gx_aload_n hX 0 19 dw_M_function_18 rfl rfl rfl ?_
      refine mg_0 hX 3 22 (by decide) tw_911 rfl dw_M_function_19 rfl ?_
      refine gx_sipush hX 24576 25 dw_M_function_22 (by decide) rfl ?_
      refine gx_icmp_eq hX 39 28 dw_M_function_25 (by decide) rfl (fun _ => ?_) (fun _ => ?_)
      · refine gx_bipush hX (-2) 41 dw_M_function_39 (by decide) rfl ?_
        exact gx_ret hX dw_M_function_41
      · refine gx_aload_n hX 0 29 dw_M_function_28 rfl rfl rfl ?_
        refine mg_0 hX 13 32 (by decide) tw_921 rfl dw_M_function_29 rfl ?_
        refine gx_iconst hX 2 33 dw_M_function_32 (by decide) rfl ?_
        refine gx_iadd hX 34 dw_M_function_33 rfl ?_
        refine gx_ldc hX 65536 36 dw_M_function_34 tw_904 rfl ?_
        refine gx_icmp_le hX 42 39 dw_M_function_36 (by decide) rfl (fun _ => ?_) (fun _ => ?_)
        · refine gx_aload_n hX 0 43 dw_M_function_42 rfl rfl rfl ?_
          refine gx_iconst hX 3 44 dw_M_function_43 (by decide) rfl ?_
          refine gx_iconst hX 0 45 dw_M_function_44 (by decide) rfl ?_
          refine tr_M_make hX 48 tw_1152 ⟨Nat.le_of_ble_eq_true rfl, Nat.le_of_ble_eq_true rfl⟩ (Nat.le_of_ble_eq_true rfl) dw_M_function_45 rfl (fun σ5 r6 => ?_)
          refine gx_istore_n hX [(3, .int r6), (0, .ref (ob 0)), (1, .int L1), (2, .int L2)] 49 dw_M_function_48 rfl (by decide) rfl rfl ?_
          refine gx_aload_n hX 1 50 dw_M_function_49 rfl rfl rfl ?_
          refine gx_iload_n hX 0 51 dw_M_function_50 rfl rfl rfl ?_
          refine gx_iconst hX 0 52 dw_M_function_51 (by decide) rfl ?_
          refine gx_iload_n hX 2 53 dw_M_function_52 rfl rfl rfl ?_
          refine tr_M_addPart hX 56 tw_1156 ⟨Nat.le_of_ble_eq_true rfl, Nat.le_of_ble_eq_true rfl⟩ (Nat.le_of_ble_eq_true rfl) dw_M_function_53 rfl (fun σ7 _ => ?_)
          refine gx_aload_n hX 1 57 dw_M_function_56 rfl rfl rfl ?_
          refine gx_iload_n hX 0 58 dw_M_function_57 rfl rfl rfl ?_
          refine gx_iconst hX 0 59 dw_M_function_58 (by decide) rfl ?_
          refine gx_iload_n hX 3 60 dw_M_function_59 rfl rfl rfl ?_
          refine tr_M_addPart hX 63 tw_1156 ⟨Nat.le_of_ble_eq_true rfl, Nat.le_of_ble_eq_true rfl⟩ (Nat.le_of_ble_eq_true rfl) dw_M_function_60 rfl (fun σ9 _ => ?_)
          refine gx_iload_n hX 0 64 dw_M_function_63 rfl rfl rfl ?_
          exact gx_ret hX dw_M_function_64
        · refine gx_bipush hX (-2) 41 dw_M_function_39 (by decide) rfl ?_
          exact gx_ret hX dw_M_function_41
    · refine gx_iconst hX (-1) 17 dw_M_function_16 (by decide) rfl ?_
      exact gx_ret hX dw_M_function_17
def my_M_function : MethodName := ⟨"TypeLoomModel", "function", "(II)I"⟩
theorem hy_M_function : (my_M_function.cls ≠ "java/lang/invoke/MethodHandle" ∧ my_M_function.cls ≠ "java/lang/invoke/VarHandle") ∧ (parseMethodDescriptor my_M_function.desc).map (fun d => d.parameters.length) = some 2 := by decide +kernel
theorem tm_M_function {D : va_G} {ob : Nat → Nat} {cI cB cS cZ : ClassId} (l : Launch) (σ : gx_S) (L1 : Int32) (L2 : Int32) : gx_C l (md_V D ob cI cB cS cZ) my_M_function prog_11_method_11_code 4 (some .int) 1 23 [.ref (ob 0), .int L1, .int L2] σ (km_M_function σ L1 L2) := gx_met (by decide) rfl (Nat.le_of_ble_eq_true rfl) rfl (fun X _ hX => tl_M_function hX σ L1 L2)
theorem tr_M_function {D : va_G} {ob : Nat → Nat} {cI cB cS cZ : ClassId} {X : gx_X} {cc : ByteArray} {own : String} {nL fr lo : Nat} {rt : Option FieldType} {σ : gx_S} {pc : Nat} {lv : List (Nat × Value)} {st : List Value} (hX : gx_K (md_V D ob cI cB cS cZ) X cc own nL fr lo rt) {idx : Nat} {L1 : Int32} {L2 : Int32} {k : gx_S → Int32 → gx_R} (n : Nat) (hlink : Cond.methodLink own idx ({ cls := "TypeLoomModel", name := "function", desc := "(II)I" } : Jvm.MethodName) ∈ gx_T) (hroom : 1 + 1 ≤ fr ∧ 8 + (4 + 11) + 23 ≤ lo) (hst : (st.map fun v => v.category).sum ≤ 8) (hd : decode cc pc = .ok (.invokevirtual idx, 3)) (hn : pc + 3 = n) (kk : ∀ σ' r, gx_G (md_V D ob cI cB cS cZ) X (k σ' r) σ' n lv (.int r :: st)) : gx_G (md_V D ob cI cB cS cZ) X (gx_bd (km_M_function σ L1 L2) k) σ pc lv (.int L2 :: .int L1 :: .ref (ob 0) :: st) :=
  gx_callI hX [.int L1, .int L2] n rfl (tm_M_function _ σ L1 L2) hy_M_function tw_1171 hlink tw_1169 tw_1170 tw_79 (gf_recv 0 (show 0 < 1 by decide) rfl rfl) hroom hst hd hn rfl (fun σ' r _ => kk σ' r)
def km_M_variable (σ : gx_S) (L1 : Int32) (L2 : Int32) : gx_R :=
  gx_jn (fun (σ1 : gx_S) (L1 : Int32) (L2 : Int32) (S0 : Int32) =>
    gx_jn (fun (σ2 : gx_S) (L1 : Int32) (L2 : Int32) (L3 : Int32) =>
      if L3 = 0 then
        some (σ2, (-1))
      else
        if (σ2.1 1) = 24576 then
          some (σ2, (-2))
        else
          gx_bd (km_M_make σ2 0 0) (fun σ3 r4 =>
          gx_st σ3 8 24576 r4 (vp_nar .boolean L1) (fun σ5 =>
          gx_st σ5 9 24576 r4 L2 (fun σ6 =>
          some (σ6, r4))))) (fun j77 =>
    gx_lp (α := gx_S → Int32 → Int32 → Int32 → Int32 → gx_R) (fun _ _ _ _ _ => none) (fun again26 (σ7 : gx_S) (L1 : Int32) (L2 : Int32) (L3 : Int32) (L4 : Int32) =>
      if 31 ≤ L4 then
      j77 σ7 L1 L2 L3
    else
      gx_jn (fun (σ8 : gx_S) (L1 : Int32) (L2 : Int32) (L4 : Int32) (S0 : Int32) =>
        gx_bv (L4 + 1) (fun x9 =>
        again26 σ8 L1 L2 S0 x9)) (fun j70 =>
      gx_jn (fun (σ10 : gx_S) (L1 : Int32) (L2 : Int32) (L4 : Int32) =>
        j70 σ10 L1 L2 L4 0) (fun j69 =>
      if L3 = 0 then
        j69 σ7 L1 L2 L4
      else
        gx_jn (fun (σ11 : gx_S) (L1 : Int32) (L2 : Int32) (L4 : Int32) =>
          j70 σ11 L1 L2 L4 1) (fun j65 =>
        if (((L2 >>> (L4 &&& 31))) &&& 1) = 0 then
          j65 σ7 L1 L2 L4
        else
          if (σ7.1 0) ≤ L4 then
            j69 σ7 L1 L2 L4
          else
            gx_ld σ7 0 2048 L4 (fun r12 =>
            if r12 = 0 then
              j65 σ7 L1 L2 L4
            else
              j69 σ7 L1 L2 L4))))) gx_F σ1 L1 L2 S0 0)) (fun j22 =>
  gx_jn (fun (σ13 : gx_S) (L1 : Int32) (L2 : Int32) =>
    j22 σ13 L1 L2 0) (fun j21 =>
  if L2 < 0 then
    j21 σ L1 L2
  else
    gx_jn (fun (σ14 : gx_S) (L1 : Int32) (L2 : Int32) =>
      j22 σ14 L1 L2 1) (fun j17 =>
    if L1 = 0 then
      j17 σ L1 L2
    else
      gx_bd (km_M_equalOnes σ L2) (fun σ15 r16 =>
      if r16 = L2 then
        j17 σ15 L1 L2
      else
        j21 σ15 L1 L2))))
set_option maxRecDepth 100000 in
set_option maxHeartbeats 4000000 in
theorem tl_M_variable {D : va_G} {ob : Nat → Nat} {cI cB cS cZ : ClassId} {X : gx_X} (hX : gx_K (md_V D ob cI cB cS cZ) X prog_11_method_13_code "TypeLoomModel" 5 1 23 (some .int)) (σ : gx_S) (L1 : Int32) (L2 : Int32) : gx_G (md_V D ob cI cB cS cZ) X (km_M_variable σ L1 L2) σ 0 [(0, .ref (ob 0)), (1, .int L1), (2, .int L2)] [] := by
  unfold km_M_variable
  refine gx_iload_n hX 2 1 dw_M_variable_0 rfl rfl rfl ?_
  refine gx_jnI (fun (j : gx_S → Int32 → Int32 → Int32 → gx_R) => ∀ (σ1 : gx_S) (L1 : Int32) (L2 : Int32) (S0 : Int32), gx_G (md_V D ob cI cB cS cZ) X (j σ1 L1 L2 S0) σ1 22 [(0, .ref (ob 0)), (1, .int L1), (2, .int L2)] [.int S0]) (fun σ1 L1 L2 S0 => ?_) (fun j22 h22 => ?_)
  · refine gx_istore_n hX [(3, .int S0), (0, .ref (ob 0)), (1, .int L1), (2, .int L2)] 23 dw_M_variable_22 rfl (by decide) rfl rfl ?_
    refine gx_iconst hX 0 24 dw_M_variable_23 (by decide) rfl ?_
    refine gx_istore hX [(4, .int 0), (3, .int S0), (0, .ref (ob 0)), (1, .int L1), (2, .int L2)] 26 dw_M_variable_24 (by decide) rfl rfl ?_
    refine gx_jnI (fun (j : gx_S → Int32 → Int32 → Int32 → gx_R) => ∀ (σ2 : gx_S) (L1 : Int32) (L2 : Int32) (L3 : Int32), gx_G (md_V D ob cI cB cS cZ) X (j σ2 L1 L2 L3) σ2 77 [(0, .ref (ob 0)), (1, .int L1), (2, .int L2), (3, .int L3)] []) (fun σ2 L1 L2 L3 => ?_) (fun j77 h77 => ?_)
    · refine gx_iload_n hX 3 78 dw_M_variable_77 rfl rfl rfl ?_
      refine gx_if_ne hX 83 81 dw_M_variable_78 (by decide) rfl (fun _ => ?_) (fun _ => ?_)
      · refine gx_aload_n hX 0 84 dw_M_variable_83 rfl rfl rfl ?_
        refine mg_0 hX 3 87 (by decide) tw_911 rfl dw_M_variable_84 rfl ?_
        refine gx_sipush hX 24576 90 dw_M_variable_87 (by decide) rfl ?_
        refine gx_icmp_ne hX 96 93 dw_M_variable_90 (by decide) rfl (fun _ => ?_) (fun _ => ?_)
        · refine gx_aload_n hX 0 97 dw_M_variable_96 rfl rfl rfl ?_
          refine gx_iconst hX 0 98 dw_M_variable_97 (by decide) rfl ?_
          refine gx_iconst hX 0 99 dw_M_variable_98 (by decide) rfl ?_
          refine tr_M_make hX 102 tw_1152 ⟨Nat.le_of_ble_eq_true rfl, Nat.le_of_ble_eq_true rfl⟩ (Nat.le_of_ble_eq_true rfl) dw_M_variable_99 rfl (fun σ3 r4 => ?_)
          refine gx_istore hX [(4, .int r4), (0, .ref (ob 0)), (1, .int L1), (2, .int L2), (3, .int L3)] 104 dw_M_variable_102 (by decide) rfl rfl ?_
          refine gx_aload_n hX 1 105 dw_M_variable_104 rfl rfl rfl ?_
          refine mg_0 hX 10 108 (by decide) tw_918 rfl dw_M_variable_105 rfl ?_
          refine gx_iload hX 0 110 dw_M_variable_108 rfl rfl ?_
          refine gx_iload_n hX 2 111 dw_M_variable_110 rfl rfl rfl ?_
          refine gf_zast (u := md_u ob cI cB cS cZ) hX 8 9 3 112 (show 8 < 52 by decide) rfl rfl (fun _ _ _ => rfl) dw_M_variable_111 rfl (fun σ5 => ?_)
          refine gx_aload_n hX 1 113 dw_M_variable_112 rfl rfl rfl ?_
          refine mg_0 hX 11 116 (by decide) tw_919 rfl dw_M_variable_113 rfl ?_
          refine gx_iload hX 0 118 dw_M_variable_116 rfl rfl ?_
          refine gx_iload_n hX 3 119 dw_M_variable_118 rfl rfl rfl ?_
          refine gf_iast (u := md_u ob cI cB cS cZ) hX 9 10 0 120 (show 9 < 52 by decide) rfl rfl (fun _ _ _ => rfl) dw_M_variable_119 rfl (fun σ6 => ?_)
          refine gx_iload hX 0 122 dw_M_variable_120 rfl rfl ?_
          exact gx_ret hX dw_M_variable_122
        · refine gx_bipush hX (-2) 95 dw_M_variable_93 (by decide) rfl ?_
          exact gx_ret hX dw_M_variable_95
      · refine gx_iconst hX (-1) 82 dw_M_variable_81 (by decide) rfl ?_
        exact gx_ret hX dw_M_variable_82
    refine gx_pick (lv' := [(0, .ref (ob 0)), (1, .int L1), (2, .int L2), (3, .int S0), (4, .int 0)]) hX [2, 3, 4, 1, 0] rfl (gx_lpI (fun (f : gx_S → Int32 → Int32 → Int32 → Int32 → gx_R) => ∀ (σ7 : gx_S) (L1 : Int32) (L2 : Int32) (L3 : Int32) (L4 : Int32), gx_G (md_V D ob cI cB cS cZ) X (f σ7 L1 L2 L3 L4) σ7 26 [(0, .ref (ob 0)), (1, .int L1), (2, .int L2), (3, .int L3), (4, .int L4)] []) (fun _ _ _ _ _ => gx_none) (fun again26 ih26 σ7 L1 L2 L3 L4 => ?_) _ σ1 L1 L2 S0 0)
    refine gx_iload hX 4 28 dw_M_variable_26 rfl rfl ?_
    refine gx_bipush hX 31 30 dw_M_variable_28 (by decide) rfl ?_
    refine gx_icmp_ge hX 77 33 dw_M_variable_30 (by decide) rfl (fun _ => ?_) (fun _ => ?_)
    · exact gx_pick (lv' := [(0, .ref (ob 0)), (1, .int L1), (2, .int L2), (3, .int L3)]) hX [0, 1, 2, 3] rfl (h77 σ7 L1 L2 L3)
    · refine gx_iload_n hX 3 34 dw_M_variable_33 rfl rfl rfl ?_
      refine gx_jnI (fun (j : gx_S → Int32 → Int32 → Int32 → Int32 → gx_R) => ∀ (σ8 : gx_S) (L1 : Int32) (L2 : Int32) (L4 : Int32) (S0 : Int32), gx_G (md_V D ob cI cB cS cZ) X (j σ8 L1 L2 L4 S0) σ8 70 [(0, .ref (ob 0)), (1, .int L1), (2, .int L2), (4, .int L4)] [.int S0]) (fun σ8 L1 L2 L4 S0 => ?_) (fun j70 h70 => ?_)
      · refine gx_istore_n hX [(3, .int S0), (0, .ref (ob 0)), (1, .int L1), (2, .int L2), (4, .int L4)] 71 dw_M_variable_70 rfl (by decide) rfl rfl ?_
        refine gx_iincN hX (q := 4) (fun x9 => [(4, .int x9), (3, .int S0), (0, .ref (ob 0)), (1, .int L1), (2, .int L2)]) 74 dw_M_variable_71 rfl rfl (by decide) (fun _ => rfl) rfl (fun x9 => ?_)
        refine gx_goto hX 26 dw_M_variable_74 (by decide) ?_
        exact gx_pick (lv' := [(0, .ref (ob 0)), (1, .int L1), (2, .int L2), (3, .int S0), (4, .int x9)]) hX [2, 3, 4, 1, 0] rfl (ih26 σ8 L1 L2 S0 x9)
      refine gx_jnI (fun (j : gx_S → Int32 → Int32 → Int32 → gx_R) => ∀ (σ10 : gx_S) (L1 : Int32) (L2 : Int32) (L4 : Int32), gx_G (md_V D ob cI cB cS cZ) X (j σ10 L1 L2 L4) σ10 69 [(0, .ref (ob 0)), (1, .int L1), (2, .int L2), (4, .int L4)] []) (fun σ10 L1 L2 L4 => ?_) (fun j69 h69 => ?_)
      · refine gx_iconst hX 0 70 dw_M_variable_69 (by decide) rfl ?_
        exact gx_pick (lv' := [(0, .ref (ob 0)), (1, .int L1), (2, .int L2), (4, .int L4)]) hX [0, 1, 2, 3] rfl (h70 σ10 L1 L2 L4 0)
      refine gx_if_eq hX 69 37 dw_M_variable_34 (by decide) rfl (fun _ => ?_) (fun _ => ?_)
      · exact gx_pick (lv' := [(0, .ref (ob 0)), (1, .int L1), (2, .int L2), (4, .int L4)]) hX [0, 1, 2, 4] rfl (h69 σ7 L1 L2 L4)
      · refine gx_iload_n hX 2 38 dw_M_variable_37 rfl rfl rfl ?_
        refine gx_iload hX 4 40 dw_M_variable_38 rfl rfl ?_
        refine gx_ishr hX 41 dw_M_variable_40 rfl ?_
        refine gx_iconst hX 1 42 dw_M_variable_41 (by decide) rfl ?_
        refine gx_iand hX 43 dw_M_variable_42 rfl ?_
        refine gx_jnI (fun (j : gx_S → Int32 → Int32 → Int32 → gx_R) => ∀ (σ11 : gx_S) (L1 : Int32) (L2 : Int32) (L4 : Int32), gx_G (md_V D ob cI cB cS cZ) X (j σ11 L1 L2 L4) σ11 65 [(0, .ref (ob 0)), (1, .int L1), (2, .int L2), (4, .int L4)] []) (fun σ11 L1 L2 L4 => ?_) (fun j65 h65 => ?_)
        · refine gx_iconst hX 1 66 dw_M_variable_65 (by decide) rfl ?_
          refine gx_goto hX 70 dw_M_variable_66 (by decide) ?_
          exact gx_pick (lv' := [(0, .ref (ob 0)), (1, .int L1), (2, .int L2), (4, .int L4)]) hX [0, 1, 2, 3] rfl (h70 σ11 L1 L2 L4 1)
        refine gx_if_eq hX 65 46 dw_M_variable_43 (by decide) rfl (fun _ => ?_) (fun _ => ?_)
        · exact gx_pick (lv' := [(0, .ref (ob 0)), (1, .int L1), (2, .int L2), (4, .int L4)]) hX [0, 1, 2, 4] rfl (h65 σ7 L1 L2 L4)
        · refine gx_iload hX 4 48 dw_M_variable_46 rfl rfl ?_
          refine gx_aload_n hX 0 49 dw_M_variable_48 rfl rfl rfl ?_
          refine mg_0 hX 0 52 (by decide) tw_908 rfl dw_M_variable_49 rfl ?_
          refine gx_icmp_ge hX 69 55 dw_M_variable_52 (by decide) rfl (fun _ => ?_) (fun _ => ?_)
          · exact gx_pick (lv' := [(0, .ref (ob 0)), (1, .int L1), (2, .int L2), (4, .int L4)]) hX [0, 1, 2, 4] rfl (h69 σ7 L1 L2 L4)
          · refine gx_aload_n hX 0 56 dw_M_variable_55 rfl rfl rfl ?_
            refine mg_0 hX 1 59 (by decide) tw_909 rfl dw_M_variable_56 rfl ?_
            refine gx_iload hX 4 61 dw_M_variable_59 rfl rfl ?_
            refine gf_bald (u := md_u ob cI cB cS cZ) hX 0 1 1 62 (show 0 < 52 by decide) rfl rfl dw_M_variable_61 rfl (fun r12 => ?_)
            refine gx_if_ne hX 69 65 dw_M_variable_62 (by decide) rfl (fun _ => ?_) (fun _ => ?_)
            · exact gx_pick (lv' := [(0, .ref (ob 0)), (1, .int L1), (2, .int L2), (4, .int L4)]) hX [0, 1, 2, 4] rfl (h69 σ7 L1 L2 L4)
            · exact gx_pick (lv' := [(0, .ref (ob 0)), (1, .int L1), (2, .int L2), (4, .int L4)]) hX [0, 1, 2, 4] rfl (h65 σ7 L1 L2 L4)
  refine gx_jnI (fun (j : gx_S → Int32 → Int32 → gx_R) => ∀ (σ13 : gx_S) (L1 : Int32) (L2 : Int32), gx_G (md_V D ob cI cB cS cZ) X (j σ13 L1 L2) σ13 21 [(0, .ref (ob 0)), (1, .int L1), (2, .int L2)] []) (fun σ13 L1 L2 => ?_) (fun j21 h21 => ?_)
  · refine gx_iconst hX 0 22 dw_M_variable_21 (by decide) rfl ?_
    exact gx_pick (lv' := [(0, .ref (ob 0)), (1, .int L1), (2, .int L2)]) hX [0, 1, 2] rfl (h22 σ13 L1 L2 0)
  refine gx_if_lt hX 21 4 dw_M_variable_1 (by decide) rfl (fun _ => ?_) (fun _ => ?_)
  · exact gx_pick (lv' := [(0, .ref (ob 0)), (1, .int L1), (2, .int L2)]) hX [0, 1, 2] rfl (h21 σ L1 L2)
  · refine gx_iload_n hX 1 5 dw_M_variable_4 rfl rfl rfl ?_
    refine gx_jnI (fun (j : gx_S → Int32 → Int32 → gx_R) => ∀ (σ14 : gx_S) (L1 : Int32) (L2 : Int32), gx_G (md_V D ob cI cB cS cZ) X (j σ14 L1 L2) σ14 17 [(0, .ref (ob 0)), (1, .int L1), (2, .int L2)] []) (fun σ14 L1 L2 => ?_) (fun j17 h17 => ?_)
    · refine gx_iconst hX 1 18 dw_M_variable_17 (by decide) rfl ?_
      refine gx_goto hX 22 dw_M_variable_18 (by decide) ?_
      exact gx_pick (lv' := [(0, .ref (ob 0)), (1, .int L1), (2, .int L2)]) hX [0, 1, 2] rfl (h22 σ14 L1 L2 1)
    refine gx_if_eq hX 17 8 dw_M_variable_5 (by decide) rfl (fun _ => ?_) (fun _ => ?_)
    · exact gx_pick (lv' := [(0, .ref (ob 0)), (1, .int L1), (2, .int L2)]) hX [0, 1, 2] rfl (h17 σ L1 L2)
    · refine gx_aload_n hX 0 9 dw_M_variable_8 rfl rfl rfl ?_
      refine gx_iload_n hX 2 10 dw_M_variable_9 rfl rfl rfl ?_
      refine tr_M_equalOnes hX 13 tw_1176 ⟨Nat.le_of_ble_eq_true rfl, Nat.le_of_ble_eq_true rfl⟩ (Nat.le_of_ble_eq_true rfl) dw_M_variable_10 rfl (fun σ15 r16 => ?_)
      refine gx_iload_n hX 2 14 dw_M_variable_13 rfl rfl rfl ?_
      refine gx_icmp_ne hX 21 17 dw_M_variable_14 (by decide) rfl (fun _ => ?_) (fun _ => ?_)
      · exact gx_pick (lv' := [(0, .ref (ob 0)), (1, .int L1), (2, .int L2)]) hX [0, 1, 2] rfl (h21 σ15 L1 L2)
      · exact gx_pick (lv' := [(0, .ref (ob 0)), (1, .int L1), (2, .int L2)]) hX [0, 1, 2] rfl (h17 σ15 L1 L2)
def my_M_variable : MethodName := ⟨"TypeLoomModel", "variable", "(ZI)I"⟩
theorem hy_M_variable : (my_M_variable.cls ≠ "java/lang/invoke/MethodHandle" ∧ my_M_variable.cls ≠ "java/lang/invoke/VarHandle") ∧ (parseMethodDescriptor my_M_variable.desc).map (fun d => d.parameters.length) = some 2 := by decide +kernel
theorem tm_M_variable {D : va_G} {ob : Nat → Nat} {cI cB cS cZ : ClassId} (l : Launch) (σ : gx_S) (L1 : Int32) (L2 : Int32) : gx_C l (md_V D ob cI cB cS cZ) my_M_variable prog_11_method_13_code 5 (some .int) 1 23 [.ref (ob 0), .int L1, .int L2] σ (km_M_variable σ L1 L2) := gx_met (by decide) rfl (Nat.le_of_ble_eq_true rfl) rfl (fun X _ hX => tl_M_variable hX σ L1 L2)
theorem tr_M_variable {D : va_G} {ob : Nat → Nat} {cI cB cS cZ : ClassId} {X : gx_X} {cc : ByteArray} {own : String} {nL fr lo : Nat} {rt : Option FieldType} {σ : gx_S} {pc : Nat} {lv : List (Nat × Value)} {st : List Value} (hX : gx_K (md_V D ob cI cB cS cZ) X cc own nL fr lo rt) {idx : Nat} {L1 : Int32} {L2 : Int32} {k : gx_S → Int32 → gx_R} (n : Nat) (hlink : Cond.methodLink own idx ({ cls := "TypeLoomModel", name := "variable", desc := "(ZI)I" } : Jvm.MethodName) ∈ gx_T) (hroom : 1 + 1 ≤ fr ∧ 8 + (5 + 11) + 23 ≤ lo) (hst : (st.map fun v => v.category).sum ≤ 8) (hd : decode cc pc = .ok (.invokevirtual idx, 3)) (hn : pc + 3 = n) (kk : ∀ σ' r, gx_G (md_V D ob cI cB cS cZ) X (k σ' r) σ' n lv (.int r :: st)) : gx_G (md_V D ob cI cB cS cZ) X (gx_bd (km_M_variable σ L1 L2) k) σ pc lv (.int L2 :: .int L1 :: .ref (ob 0) :: st) :=
  gx_callI hX [.int L1, .int L2] n rfl (tm_M_variable _ σ L1 L2) hy_M_variable tw_1175 hlink tw_1173 tw_1174 tw_79 (gf_recv 0 (show 0 < 1 by decide) rfl rfl) hroom hst hd hn rfl (fun σ' r _ => kk σ' r)
def km_M_rigid (σ : gx_S) (L1 : Int32) : gx_R :=
  if (σ.1 1) = 24576 then
    some (σ, (-2))
  else
    gx_bd (km_M_make σ 1 0) (fun σ1 r2 =>
    gx_st σ1 8 24576 r2 (vp_nar .boolean L1) (fun σ3 =>
    some (σ3, r2)))
set_option maxRecDepth 100000 in
set_option maxHeartbeats 4000000 in
theorem tl_M_rigid {D : va_G} {ob : Nat → Nat} {cI cB cS cZ : ClassId} {X : gx_X} (hX : gx_K (md_V D ob cI cB cS cZ) X prog_11_method_14_code "TypeLoomModel" 3 1 23 (some .int)) (σ : gx_S) (L1 : Int32) : gx_G (md_V D ob cI cB cS cZ) X (km_M_rigid σ L1) σ 0 [(0, .ref (ob 0)), (1, .int L1)] [] := by
  unfold km_M_rigid
  refine gx_aload_n hX 0 1 dw_M_rigid_0 rfl rfl rfl ?_
  refine mg_0 hX 3 4 (by decide) tw_911 rfl dw_M_rigid_1 rfl ?_
  refine gx_sipush hX 24576 7 dw_M_rigid_4 (by decide) rfl ?_
  refine gx_icmp_ne hX 13 10 dw_M_rigid_7 (by decide) rfl (fun _ => ?_) (fun _ => ?_)
  · refine gx_aload_n hX 0 14 dw_M_rigid_13 rfl rfl rfl ?_
    refine gx_iconst hX 1 15 dw_M_rigid_14 (by decide) rfl ?_
    refine gx_iconst hX 0 16 dw_M_rigid_15 (by decide) rfl ?_
    refine tr_M_make hX 19 tw_1152 ⟨Nat.le_of_ble_eq_true rfl, Nat.le_of_ble_eq_true rfl⟩ (Nat.le_of_ble_eq_true rfl) dw_M_rigid_16 rfl (fun σ1 r2 => ?_)
    refine gx_istore_n hX [(2, .int r2), (0, .ref (ob 0)), (1, .int L1)] 20 dw_M_rigid_19 rfl (by decide) rfl rfl ?_
    refine gx_aload_n hX 1 21 dw_M_rigid_20 rfl rfl rfl ?_
    refine mg_0 hX 10 24 (by decide) tw_918 rfl dw_M_rigid_21 rfl ?_
    refine gx_iload_n hX 0 25 dw_M_rigid_24 rfl rfl rfl ?_
    refine gx_iload_n hX 2 26 dw_M_rigid_25 rfl rfl rfl ?_
    refine gf_zast (u := md_u ob cI cB cS cZ) hX 8 9 3 27 (show 8 < 52 by decide) rfl rfl (fun _ _ _ => rfl) dw_M_rigid_26 rfl (fun σ3 => ?_)
    refine gx_iload_n hX 0 28 dw_M_rigid_27 rfl rfl rfl ?_
    exact gx_ret hX dw_M_rigid_28
  · refine gx_bipush hX (-2) 12 dw_M_rigid_10 (by decide) rfl ?_
    exact gx_ret hX dw_M_rigid_12
def my_M_rigid : MethodName := ⟨"TypeLoomModel", "rigid", "(Z)I"⟩
theorem hy_M_rigid : (my_M_rigid.cls ≠ "java/lang/invoke/MethodHandle" ∧ my_M_rigid.cls ≠ "java/lang/invoke/VarHandle") ∧ (parseMethodDescriptor my_M_rigid.desc).map (fun d => d.parameters.length) = some 1 := by decide +kernel
theorem tm_M_rigid {D : va_G} {ob : Nat → Nat} {cI cB cS cZ : ClassId} (l : Launch) (σ : gx_S) (L1 : Int32) : gx_C l (md_V D ob cI cB cS cZ) my_M_rigid prog_11_method_14_code 3 (some .int) 1 23 [.ref (ob 0), .int L1] σ (km_M_rigid σ L1) := gx_met (by decide) rfl (Nat.le_of_ble_eq_true rfl) rfl (fun X _ hX => tl_M_rigid hX σ L1)
theorem tr_M_rigid {D : va_G} {ob : Nat → Nat} {cI cB cS cZ : ClassId} {X : gx_X} {cc : ByteArray} {own : String} {nL fr lo : Nat} {rt : Option FieldType} {σ : gx_S} {pc : Nat} {lv : List (Nat × Value)} {st : List Value} (hX : gx_K (md_V D ob cI cB cS cZ) X cc own nL fr lo rt) {idx : Nat} {L1 : Int32} {k : gx_S → Int32 → gx_R} (n : Nat) (hlink : Cond.methodLink own idx ({ cls := "TypeLoomModel", name := "rigid", desc := "(Z)I" } : Jvm.MethodName) ∈ gx_T) (hroom : 1 + 1 ≤ fr ∧ 8 + (3 + 11) + 23 ≤ lo) (hst : (st.map fun v => v.category).sum ≤ 8) (hd : decode cc pc = .ok (.invokevirtual idx, 3)) (hn : pc + 3 = n) (kk : ∀ σ' r, gx_G (md_V D ob cI cB cS cZ) X (k σ' r) σ' n lv (.int r :: st)) : gx_G (md_V D ob cI cB cS cZ) X (gx_bd (km_M_rigid σ L1) k) σ pc lv (.int L1 :: .ref (ob 0) :: st) :=
  gx_callI hX [.int L1] n rfl (tm_M_rigid _ σ L1) hy_M_rigid tw_1183 hlink tw_1181 tw_1182 tw_79 (gf_recv 0 (show 0 < 1 by decide) rfl rfl) hroom hst hd hn rfl (fun σ' r _ => kk σ' r)
def km_M_level (σ : gx_S) (L1 : Int32) : gx_R :=
  if L1 < 0 then
    some (σ, (-1))
  else
    if L1 ≤ 100 then
      gx_bv ((σ.1 7)) (fun x1 =>
      gx_sb (gx_si σ 7 L1) (fun σ2 =>
      some (σ2, x1)))
    else
      some (σ, (-1))
set_option maxRecDepth 100000 in
set_option maxHeartbeats 4000000 in
theorem tl_M_level {D : va_G} {ob : Nat → Nat} {cI cB cS cZ : ClassId} {X : gx_X} (hX : gx_K (md_V D ob cI cB cS cZ) X prog_11_method_15_code "TypeLoomModel" 3 0 0 (some .int)) (σ : gx_S) (L1 : Int32) : gx_G (md_V D ob cI cB cS cZ) X (km_M_level σ L1) σ 0 [(0, .ref (ob 0)), (1, .int L1)] [] := by
  unfold km_M_level
  refine gx_iload_n hX 1 1 dw_M_level_0 rfl rfl rfl ?_
  refine gx_if_lt hX 10 4 dw_M_level_1 (by decide) rfl (fun _ => ?_) (fun _ => ?_)
  · refine gx_iconst hX (-1) 11 dw_M_level_10 (by decide) rfl ?_
    exact gx_ret hX dw_M_level_11
  · refine gx_iload_n hX 1 5 dw_M_level_4 rfl rfl rfl ?_
    refine gx_bipush hX 100 7 dw_M_level_5 (by decide) rfl ?_
    refine gx_icmp_le hX 12 10 dw_M_level_7 (by decide) rfl (fun _ => ?_) (fun _ => ?_)
    · refine gx_aload_n hX 0 13 dw_M_level_12 rfl rfl rfl ?_
      refine mg_0 hX 29 16 (by decide) tw_937 rfl dw_M_level_13 rfl ?_
      refine gx_bvN (fun x1 => ?_)
      refine gx_istore_n hX [(2, .int x1), (0, .ref (ob 0)), (1, .int L1)] 17 dw_M_level_16 rfl (by decide) rfl rfl ?_
      refine gx_aload_n hX 1 18 dw_M_level_17 rfl rfl rfl ?_
      refine gx_iload_n hX 2 19 dw_M_level_18 rfl rfl rfl ?_
      refine mp_7 hX 22 tw_937 dw_M_level_19 rfl (fun σ2 => ?_)
      refine gx_iload_n hX 0 23 dw_M_level_22 rfl rfl rfl ?_
      exact gx_ret hX dw_M_level_23
    · refine gx_iconst hX (-1) 11 dw_M_level_10 (by decide) rfl ?_
      exact gx_ret hX dw_M_level_11
def my_M_level : MethodName := ⟨"TypeLoomModel", "level", "(I)I"⟩
theorem hy_M_level : (my_M_level.cls ≠ "java/lang/invoke/MethodHandle" ∧ my_M_level.cls ≠ "java/lang/invoke/VarHandle") ∧ (parseMethodDescriptor my_M_level.desc).map (fun d => d.parameters.length) = some 1 := by decide +kernel
theorem tm_M_level {D : va_G} {ob : Nat → Nat} {cI cB cS cZ : ClassId} (l : Launch) (σ : gx_S) (L1 : Int32) : gx_C l (md_V D ob cI cB cS cZ) my_M_level prog_11_method_15_code 3 (some .int) 0 0 [.ref (ob 0), .int L1] σ (km_M_level σ L1) := gx_met (by decide) rfl (Nat.le_of_ble_eq_true rfl) rfl (fun X _ hX => tl_M_level hX σ L1)
theorem tr_M_level {D : va_G} {ob : Nat → Nat} {cI cB cS cZ : ClassId} {X : gx_X} {cc : ByteArray} {own : String} {nL fr lo : Nat} {rt : Option FieldType} {σ : gx_S} {pc : Nat} {lv : List (Nat × Value)} {st : List Value} (hX : gx_K (md_V D ob cI cB cS cZ) X cc own nL fr lo rt) {idx : Nat} {L1 : Int32} {k : gx_S → Int32 → gx_R} (n : Nat) (hlink : Cond.methodLink own idx ({ cls := "TypeLoomModel", name := "level", desc := "(I)I" } : Jvm.MethodName) ∈ gx_T) (hroom : 0 + 1 ≤ fr ∧ 8 + (3 + 11) + 0 ≤ lo) (hst : (st.map fun v => v.category).sum ≤ 8) (hd : decode cc pc = .ok (.invokevirtual idx, 3)) (hn : pc + 3 = n) (kk : ∀ σ' r, gx_G (md_V D ob cI cB cS cZ) X (k σ' r) σ' n lv (.int r :: st)) : gx_G (md_V D ob cI cB cS cZ) X (gx_bd (km_M_level σ L1) k) σ pc lv (.int L1 :: .ref (ob 0) :: st) :=
  gx_callI hX [.int L1] n rfl (tm_M_level _ σ L1) hy_M_level tw_1187 hlink tw_1185 tw_1186 tw_79 (gf_recv 0 (show 0 < 1 by decide) rfl rfl) hroom hst hd hn rfl (fun σ' r _ => kk σ' r)
def km_M_unify (σ : gx_S) (L1 : Int32) (L2 : Int32) : gx_R :=
  gx_bd (km_M_isType σ L1) (fun σ1 r2 =>
  if r2 = 0 then
    gx_rz σ1 0
  else
    gx_bd (km_M_isType σ1 L2) (fun σ3 r4 =>
    if r4 = 0 then
      gx_rz σ3 0
    else
      gx_bv ((σ3.1 4)) (fun x5 =>
      gx_bv ((σ3.1 5)) (fun x6 =>
      none))))
set_option maxRecDepth 100000 in
set_option maxHeartbeats 4000000 in
theorem tl_M_unify {D : va_G} {ob : Nat → Nat} {cI cB cS cZ : ClassId} {X : gx_X} (hX : gx_K (md_V D ob cI cB cS cZ) X prog_11_method_43_code "TypeLoomModel" 6 1 21 (some .boolean)) (σ : gx_S) (L1 : Int32) (L2 : Int32) : gx_G (md_V D ob cI cB cS cZ) X (km_M_unify σ L1 L2) σ 0 [(0, .ref (ob 0)), (1, .int L1), (2, .int L2)] [] := by
  unfold km_M_unify
  refine gx_aload_n hX 0 1 dw_M_unify_0 rfl rfl rfl ?_
  refine gx_iload_n hX 1 2 dw_M_unify_1 rfl rfl rfl ?_
  refine tr_M_isType hX 5 tw_1140 ⟨Nat.le_of_ble_eq_true rfl, Nat.le_of_ble_eq_true rfl⟩ (Nat.le_of_ble_eq_true rfl) dw_M_unify_2 rfl (fun σ1 r2 => ?_)
  refine gx_if_eq hX 16 8 dw_M_unify_5 (by decide) rfl (fun _ => ?_) (fun _ => ?_)
  · refine gx_iconst hX 0 17 dw_M_unify_16 (by decide) rfl ?_
    exact gx_retz hX dw_M_unify_17
  · refine gx_aload_n hX 0 9 dw_M_unify_8 rfl rfl rfl ?_
    refine gx_iload_n hX 2 10 dw_M_unify_9 rfl rfl rfl ?_
    refine tr_M_isType hX 13 tw_1140 ⟨Nat.le_of_ble_eq_true rfl, Nat.le_of_ble_eq_true rfl⟩ (Nat.le_of_ble_eq_true rfl) dw_M_unify_10 rfl (fun σ3 r4 => ?_)
    refine gx_if_ne hX 18 16 dw_M_unify_13 (by decide) rfl (fun _ => ?_) (fun _ => ?_)
    · refine gx_aload_n hX 0 19 dw_M_unify_18 rfl rfl rfl ?_
      refine mg_0 hX 17 22 (by decide) tw_925 rfl dw_M_unify_19 rfl ?_
      refine gx_bvN (fun x5 => ?_)
      refine gx_istore_n hX [(3, .int x5), (0, .ref (ob 0)), (1, .int L1), (2, .int L2)] 23 dw_M_unify_22 rfl (by decide) rfl rfl ?_
      refine gx_aload_n hX 1 24 dw_M_unify_23 rfl rfl rfl ?_
      refine mg_0 hX 23 27 (by decide) tw_931 rfl dw_M_unify_24 rfl ?_
      refine gx_bvN (fun x6 => ?_)
      refine gx_istore hX [(4, .int x6), (3, .int x5), (0, .ref (ob 0)), (1, .int L1), (2, .int L2)] 29 dw_M_unify_27 (by decide) rfl rfl ?_
      refine gx_aload_n hX 2 30 dw_M_unify_29 rfl rfl rfl ?_
      exact gx_none
    · refine gx_iconst hX 0 17 dw_M_unify_16 (by decide) rfl ?_
      exact gx_retz hX dw_M_unify_17
def my_M_unify : MethodName := ⟨"TypeLoomModel", "unify", "(II)Z"⟩
theorem hy_M_unify : (my_M_unify.cls ≠ "java/lang/invoke/MethodHandle" ∧ my_M_unify.cls ≠ "java/lang/invoke/VarHandle") ∧ (parseMethodDescriptor my_M_unify.desc).map (fun d => d.parameters.length) = some 2 := by decide +kernel
theorem tm_M_unify {D : va_G} {ob : Nat → Nat} {cI cB cS cZ : ClassId} (l : Launch) (σ : gx_S) (L1 : Int32) (L2 : Int32) : gx_C l (md_V D ob cI cB cS cZ) my_M_unify prog_11_method_43_code 6 (some .boolean) 1 21 [.ref (ob 0), .int L1, .int L2] σ (km_M_unify σ L1 L2) := gx_met (by decide) rfl (Nat.le_of_ble_eq_true rfl) rfl (fun X _ hX => tl_M_unify hX σ L1 L2)
theorem tr_M_unify {D : va_G} {ob : Nat → Nat} {cI cB cS cZ : ClassId} {X : gx_X} {cc : ByteArray} {own : String} {nL fr lo : Nat} {rt : Option FieldType} {σ : gx_S} {pc : Nat} {lv : List (Nat × Value)} {st : List Value} (hX : gx_K (md_V D ob cI cB cS cZ) X cc own nL fr lo rt) {idx : Nat} {L1 : Int32} {L2 : Int32} {k : gx_S → Int32 → gx_R} (n : Nat) (hlink : Cond.methodLink own idx ({ cls := "TypeLoomModel", name := "unify", desc := "(II)Z" } : Jvm.MethodName) ∈ gx_T) (hroom : 1 + 1 ≤ fr ∧ 8 + (6 + 11) + 21 ≤ lo) (hst : (st.map fun v => v.category).sum ≤ 8) (hd : decode cc pc = .ok (.invokevirtual idx, 3)) (hn : pc + 3 = n) (kk : ∀ σ' r, gx_G (md_V D ob cI cB cS cZ) X (k σ' r) σ' n lv (.int r :: st)) : gx_G (md_V D ob cI cB cS cZ) X (gx_bd (km_M_unify σ L1 L2) k) σ pc lv (.int L2 :: .int L1 :: .ref (ob 0) :: st) :=
  gx_callI hX [.int L1, .int L2] n rfl (tm_M_unify _ σ L1 L2) hy_M_unify tw_1191 hlink tw_1189 tw_1190 tw_79 (gf_recv 0 (show 0 < 1 by decide) rfl rfl) hroom hst hd hn rfl (fun σ' r _ => kk σ' r)
def km_M_same (σ : gx_S) (L1 : Int32) (L2 : Int64) (L4 : Int32) (L5 : Int64) : gx_R :=
  gx_bd (km_M_follow σ L1 L2) (fun σ1 r2 =>
  gx_bd (km_M_follow σ1 L4 L5) (fun σ3 r4 =>
  if r2 < 0 then
    gx_rz σ3 0
  else
    if r4 < 0 then
      gx_rz σ3 0
    else
      none))
set_option maxRecDepth 100000 in
set_option maxHeartbeats 4000000 in
theorem tl_M_same {D : va_G} {ob : Nat → Nat} {cI cB cS cZ : ClassId} {X : gx_X} (hX : gx_K (md_V D ob cI cB cS cZ) X prog_11_method_46_code "TypeLoomModel" 9 2 47 (some .boolean)) (σ : gx_S) (L1 : Int32) (L2 : Int64) (L4 : Int32) (L5 : Int64) : gx_G (md_V D ob cI cB cS cZ) X (km_M_same σ L1 L2 L4 L5) σ 0 [(0, .ref (ob 0)), (1, .int L1), (2, .long L2), (4, .int L4), (5, .long L5)] [] := by
  unfold km_M_same
  refine gx_aload_n hX 0 1 dw_M_same_0 rfl rfl rfl ?_
  refine gx_iload_n hX 1 2 dw_M_same_1 rfl rfl rfl ?_
  refine gx_lload_n hX 2 3 dw_M_same_2 rfl rfl rfl ?_
  refine tr_M_follow hX 6 tw_1288 ⟨Nat.le_of_ble_eq_true rfl, Nat.le_of_ble_eq_true rfl⟩ (Nat.le_of_ble_eq_true rfl) dw_M_same_3 rfl (fun σ1 r2 => ?_)
  refine gx_istore hX [(7, .int r2), (0, .ref (ob 0)), (1, .int L1), (2, .long L2), (4, .int L4), (5, .long L5)] 8 dw_M_same_6 (by decide) rfl rfl ?_
  refine gx_aload_n hX 1 9 dw_M_same_8 rfl rfl rfl ?_
  refine gx_iload hX 4 11 dw_M_same_9 rfl rfl ?_
  refine gx_lload hX 5 13 dw_M_same_11 rfl rfl ?_
  refine tr_M_follow hX 16 tw_1288 ⟨Nat.le_of_ble_eq_true rfl, Nat.le_of_ble_eq_true rfl⟩ (Nat.le_of_ble_eq_true rfl) dw_M_same_13 rfl (fun σ3 r4 => ?_)
  refine gx_istore hX [(8, .int r4), (7, .int r2), (0, .ref (ob 0)), (1, .int L1), (2, .long L2), (4, .int L4), (5, .long L5)] 18 dw_M_same_16 (by decide) rfl rfl ?_
  refine gx_iload hX 1 20 dw_M_same_18 rfl rfl ?_
  refine gx_if_lt hX 43 23 dw_M_same_20 (by decide) rfl (fun _ => ?_) (fun _ => ?_)
  · refine gx_iconst hX 0 44 dw_M_same_43 (by decide) rfl ?_
    exact gx_retz hX dw_M_same_44
  · refine gx_iload hX 0 25 dw_M_same_23 rfl rfl ?_
    refine gx_if_lt hX 43 28 dw_M_same_25 (by decide) rfl (fun _ => ?_) (fun _ => ?_)
    · refine gx_iconst hX 0 44 dw_M_same_43 (by decide) rfl ?_
      exact gx_retz hX dw_M_same_44
    · refine gx_aload_n hX 2 29 dw_M_same_28 rfl rfl rfl ?_
      refine gx_iload hX 1 31 dw_M_same_29 rfl rfl ?_
      refine gx_iload hX 0 33 dw_M_same_31 rfl rfl ?_
      exact gx_none
def my_M_same : MethodName := ⟨"TypeLoomModel", "same", "(IJIJ)Z"⟩
theorem hy_M_same : (my_M_same.cls ≠ "java/lang/invoke/MethodHandle" ∧ my_M_same.cls ≠ "java/lang/invoke/VarHandle") ∧ (parseMethodDescriptor my_M_same.desc).map (fun d => d.parameters.length) = some 4 := by decide +kernel
theorem tm_M_same {D : va_G} {ob : Nat → Nat} {cI cB cS cZ : ClassId} (l : Launch) (σ : gx_S) (L1 : Int32) (L2 : Int64) (L4 : Int32) (L5 : Int64) : gx_C l (md_V D ob cI cB cS cZ) my_M_same prog_11_method_46_code 9 (some .boolean) 2 47 [.ref (ob 0), .int L1, .long L2, .int L4, .long L5] σ (km_M_same σ L1 L2 L4 L5) := gx_met (by decide) rfl (Nat.le_of_ble_eq_true rfl) rfl (fun X _ hX => tl_M_same hX σ L1 L2 L4 L5)
theorem tr_M_same {D : va_G} {ob : Nat → Nat} {cI cB cS cZ : ClassId} {X : gx_X} {cc : ByteArray} {own : String} {nL fr lo : Nat} {rt : Option FieldType} {σ : gx_S} {pc : Nat} {lv : List (Nat × Value)} {st : List Value} (hX : gx_K (md_V D ob cI cB cS cZ) X cc own nL fr lo rt) {idx : Nat} {L1 : Int32} {L2 : Int64} {L4 : Int32} {L5 : Int64} {k : gx_S → Int32 → gx_R} (n : Nat) (hlink : Cond.methodLink own idx ({ cls := "TypeLoomModel", name := "same", desc := "(IJIJ)Z" } : Jvm.MethodName) ∈ gx_T) (hroom : 2 + 1 ≤ fr ∧ 8 + (9 + 11) + 47 ≤ lo) (hst : (st.map fun v => v.category).sum ≤ 8) (hd : decode cc pc = .ok (.invokevirtual idx, 3)) (hn : pc + 3 = n) (kk : ∀ σ' r, gx_G (md_V D ob cI cB cS cZ) X (k σ' r) σ' n lv (.int r :: st)) : gx_G (md_V D ob cI cB cS cZ) X (gx_bd (km_M_same σ L1 L2 L4 L5) k) σ pc lv (.long L5 :: .int L4 :: .long L2 :: .int L1 :: .ref (ob 0) :: st) :=
  gx_callI hX [.int L1, .long L2, .int L4, .long L5] n rfl (tm_M_same _ σ L1 L2 L4 L5) hy_M_same tw_1287 hlink tw_1285 tw_1286 tw_79 (gf_recv 0 (show 0 < 1 by decide) rfl rfl) hroom hst hd hn rfl (fun σ' r _ => kk σ' r)
def km_M_look (σ : gx_S) (L1 : Int32) (L2 : Int64) (L4 : Int32) : gx_R :=
  gx_bd (km_M_follow σ L1 L2) (fun σ1 r2 =>
  if 0 ≤ r2 then
    gx_ld σ1 2 24576 r2 (fun r3 =>
    gx_jn (fun (σ4 : gx_S) (L4 : Int32) (L5 : Int32) (S0 : Int32) =>
      if L4 = 0 then
        gx_ld σ4 2 24576 L5 (fun r5 =>
        some (σ4, r5))
      else if L4 = 1 then
        gx_ld σ4 2 24576 L5 (fun r6 =>
        if r6 = 2 then
          gx_ld σ4 3 24576 L5 (fun r7 =>
          some (σ4, r7))
        else
          some (σ4, (-1)))
      else if L4 = 2 then
        none
      else if L4 = 3 then
        none
      else if L4 = 4 then
        gx_ld σ4 2 24576 L5 (fun r8 =>
        if 2 ≤ r8 then
          if S0 < 0 then
            some (σ4, (-1))
          else
            gx_ld σ4 13 1100 S0 (fun r9 =>
            some (σ4, r9))
        else
          gx_ld σ4 7 24576 L5 (fun r10 =>
          some (σ4, r10)))
      else if L4 = 5 then
        gx_ld σ4 2 24576 L5 (fun r11 =>
        if r11 = 0 then
          gx_ld σ4 9 24576 L5 (fun r12 =>
          some (σ4, r12))
        else
          some (σ4, (-1)))
      else if L4 = 6 then
        gx_ld σ4 2 24576 L5 (fun r13 =>
        if r13 = 4 then
          if S0 < 0 then
            some (σ4, 0)
          else
            some (σ4, 1)
        else
          some (σ4, (-1)))
      else some (σ4, (-1))) (fun j37 =>
    if r3 = 4 then
      none
    else
      j37 σ1 L4 r2 (-1)))
  else
    some (σ1, (-1)))
set_option maxRecDepth 100000 in
set_option maxHeartbeats 4000000 in
theorem tl_M_look {D : va_G} {ob : Nat → Nat} {cI cB cS cZ : ClassId} {X : gx_X} (hX : gx_K (md_V D ob cI cB cS cZ) X prog_11_method_47_code "TypeLoomModel" 7 2 47 (some .int)) (σ : gx_S) (L1 : Int32) (L2 : Int64) (L4 : Int32) : gx_G (md_V D ob cI cB cS cZ) X (km_M_look σ L1 L2 L4) σ 0 [(0, .ref (ob 0)), (1, .int L1), (2, .long L2), (4, .int L4)] [] := by
  unfold km_M_look
  refine gx_aload_n hX 0 1 dw_M_look_0 rfl rfl rfl ?_
  refine gx_iload_n hX 1 2 dw_M_look_1 rfl rfl rfl ?_
  refine gx_lload_n hX 2 3 dw_M_look_2 rfl rfl rfl ?_
  refine tr_M_follow hX 6 tw_1288 ⟨Nat.le_of_ble_eq_true rfl, Nat.le_of_ble_eq_true rfl⟩ (Nat.le_of_ble_eq_true rfl) dw_M_look_3 rfl (fun σ1 r2 => ?_)
  refine gx_istore hX [(5, .int r2), (0, .ref (ob 0)), (1, .int L1), (2, .long L2), (4, .int L4)] 8 dw_M_look_6 (by decide) rfl rfl ?_
  refine gx_iload hX 0 10 dw_M_look_8 rfl rfl ?_
  refine gx_if_ge hX 15 13 dw_M_look_10 (by decide) rfl (fun _ => ?_) (fun _ => ?_)
  · refine gx_aload_n hX 1 16 dw_M_look_15 rfl rfl rfl ?_
    refine mg_0 hX 4 19 (by decide) tw_912 rfl dw_M_look_16 rfl ?_
    refine gx_iload hX 0 21 dw_M_look_19 rfl rfl ?_
    refine gf_bald (u := md_u ob cI cB cS cZ) hX 2 3 1 22 (show 2 < 52 by decide) rfl rfl dw_M_look_21 rfl (fun r3 => ?_)
    refine gx_iconst hX 4 23 dw_M_look_22 (by decide) rfl ?_
    refine gx_jnI (fun (j : gx_S → Int32 → Int32 → Int32 → gx_R) => ∀ (σ4 : gx_S) (L4 : Int32) (L5 : Int32) (S0 : Int32), gx_G (md_V D ob cI cB cS cZ) X (j σ4 L4 L5 S0) σ4 37 [(0, .ref (ob 0)), (4, .int L4), (5, .int L5)] [.int S0]) (fun σ4 L4 L5 S0 => ?_) (fun j37 h37 => ?_)
    · refine gx_istore hX [(6, .int S0), (0, .ref (ob 0)), (4, .int L4), (5, .int L5)] 39 dw_M_look_37 (by decide) rfl rfl ?_
      refine gx_iload hX 2 41 dw_M_look_39 rfl rfl ?_
      refine gx_tsw7 hX 84 92 115 122 137 175 197 223 dw_M_look_41 (by decide) (by decide) (by decide) (by decide) (by decide) (by decide) (by decide) (by decide) ?_ ?_ ?_ ?_ ?_ ?_ ?_ ?_
      · refine gx_aload_n hX 1 85 dw_M_look_84 rfl rfl rfl ?_
        refine mg_0 hX 4 88 (by decide) tw_912 rfl dw_M_look_85 rfl ?_
        refine gx_iload hX 3 90 dw_M_look_88 rfl rfl ?_
        refine gf_bald (u := md_u ob cI cB cS cZ) hX 2 3 1 91 (show 2 < 52 by decide) rfl rfl dw_M_look_90 rfl (fun r5 => ?_)
        exact gx_ret hX dw_M_look_91
      · refine gx_aload_n hX 1 93 dw_M_look_92 rfl rfl rfl ?_
        refine mg_0 hX 4 96 (by decide) tw_912 rfl dw_M_look_93 rfl ?_
        refine gx_iload hX 3 98 dw_M_look_96 rfl rfl ?_
        refine gf_bald (u := md_u ob cI cB cS cZ) hX 2 3 1 99 (show 2 < 52 by decide) rfl rfl dw_M_look_98 rfl (fun r6 => ?_)
        refine gx_iconst hX 2 100 dw_M_look_99 (by decide) rfl ?_
        refine gx_icmp_ne hX 113 103 dw_M_look_100 (by decide) rfl (fun _ => ?_) (fun _ => ?_)
        · refine gx_iconst hX (-1) 114 dw_M_look_113 (by decide) rfl ?_
          exact gx_ret hX dw_M_look_114
        · refine gx_aload_n hX 1 104 dw_M_look_103 rfl rfl rfl ?_
          refine mg_0 hX 5 107 (by decide) tw_913 rfl dw_M_look_104 rfl ?_
          refine gx_iload hX 3 109 dw_M_look_107 rfl rfl ?_
          refine gf_iald (u := md_u ob cI cB cS cZ) hX 3 4 0 110 (show 3 < 52 by decide) rfl rfl dw_M_look_109 rfl (fun r7 => ?_)
          refine gx_goto hX 114 dw_M_look_110 (by decide) ?_
          exact gx_ret hX dw_M_look_114
      · refine gx_aload_n hX 1 116 dw_M_look_115 rfl rfl rfl ?_
        refine gx_iload hX 3 118 dw_M_look_116 rfl rfl ?_
        exact gx_none
      · refine gx_aload_n hX 1 123 dw_M_look_122 rfl rfl rfl ?_
        refine gx_iload hX 3 125 dw_M_look_123 rfl rfl ?_
        exact gx_none
      · refine gx_aload_n hX 1 138 dw_M_look_137 rfl rfl rfl ?_
        refine mg_0 hX 4 141 (by decide) tw_912 rfl dw_M_look_138 rfl ?_
        refine gx_iload hX 3 143 dw_M_look_141 rfl rfl ?_
        refine gf_bald (u := md_u ob cI cB cS cZ) hX 2 3 1 144 (show 2 < 52 by decide) rfl rfl dw_M_look_143 rfl (fun r8 => ?_)
        refine gx_iconst hX 2 145 dw_M_look_144 (by decide) rfl ?_
        refine gx_icmp_ge hX 158 148 dw_M_look_145 (by decide) rfl (fun _ => ?_) (fun _ => ?_)
        · refine gx_iload hX 0 160 dw_M_look_158 rfl rfl ?_
          refine gx_if_lt hX 173 163 dw_M_look_160 (by decide) rfl (fun _ => ?_) (fun _ => ?_)
          · refine gx_iconst hX (-1) 174 dw_M_look_173 (by decide) rfl ?_
            exact gx_ret hX dw_M_look_174
          · refine gx_aload_n hX 1 164 dw_M_look_163 rfl rfl rfl ?_
            refine mg_0 hX 18 167 (by decide) tw_926 rfl dw_M_look_164 rfl ?_
            refine gx_iload hX 0 169 dw_M_look_167 rfl rfl ?_
            refine gf_bald (u := md_u ob cI cB cS cZ) hX 13 14 1 170 (show 13 < 52 by decide) rfl rfl dw_M_look_169 rfl (fun r9 => ?_)
            refine gx_goto hX 174 dw_M_look_170 (by decide) ?_
            exact gx_ret hX dw_M_look_174
        · refine gx_aload_n hX 1 149 dw_M_look_148 rfl rfl rfl ?_
          refine mg_0 hX 9 152 (by decide) tw_917 rfl dw_M_look_149 rfl ?_
          refine gx_iload hX 3 154 dw_M_look_152 rfl rfl ?_
          refine gf_bald (u := md_u ob cI cB cS cZ) hX 7 8 1 155 (show 7 < 52 by decide) rfl rfl dw_M_look_154 rfl (fun r10 => ?_)
          refine gx_goto hX 174 dw_M_look_155 (by decide) ?_
          exact gx_ret hX dw_M_look_174
      · refine gx_aload_n hX 1 176 dw_M_look_175 rfl rfl rfl ?_
        refine mg_0 hX 4 179 (by decide) tw_912 rfl dw_M_look_176 rfl ?_
        refine gx_iload hX 3 181 dw_M_look_179 rfl rfl ?_
        refine gf_bald (u := md_u ob cI cB cS cZ) hX 2 3 1 182 (show 2 < 52 by decide) rfl rfl dw_M_look_181 rfl (fun r11 => ?_)
        refine gx_if_ne hX 195 185 dw_M_look_182 (by decide) rfl (fun _ => ?_) (fun _ => ?_)
        · refine gx_iconst hX (-1) 196 dw_M_look_195 (by decide) rfl ?_
          exact gx_ret hX dw_M_look_196
        · refine gx_aload_n hX 1 186 dw_M_look_185 rfl rfl rfl ?_
          refine mg_0 hX 11 189 (by decide) tw_919 rfl dw_M_look_186 rfl ?_
          refine gx_iload hX 3 191 dw_M_look_189 rfl rfl ?_
          refine gf_iald (u := md_u ob cI cB cS cZ) hX 9 10 0 192 (show 9 < 52 by decide) rfl rfl dw_M_look_191 rfl (fun r12 => ?_)
          refine gx_goto hX 196 dw_M_look_192 (by decide) ?_
          exact gx_ret hX dw_M_look_196
      · refine gx_aload_n hX 1 198 dw_M_look_197 rfl rfl rfl ?_
        refine mg_0 hX 4 201 (by decide) tw_912 rfl dw_M_look_198 rfl ?_
        refine gx_iload hX 3 203 dw_M_look_201 rfl rfl ?_
        refine gf_bald (u := md_u ob cI cB cS cZ) hX 2 3 1 204 (show 2 < 52 by decide) rfl rfl dw_M_look_203 rfl (fun r13 => ?_)
        refine gx_iconst hX 4 205 dw_M_look_204 (by decide) rfl ?_
        refine gx_icmp_eq hX 212 208 dw_M_look_205 (by decide) rfl (fun _ => ?_) (fun _ => ?_)
        · refine gx_iload hX 0 214 dw_M_look_212 rfl rfl ?_
          refine gx_if_lt hX 221 217 dw_M_look_214 (by decide) rfl (fun _ => ?_) (fun _ => ?_)
          · refine gx_iconst hX 0 222 dw_M_look_221 (by decide) rfl ?_
            exact gx_ret hX dw_M_look_222
          · refine gx_iconst hX 1 218 dw_M_look_217 (by decide) rfl ?_
            refine gx_goto hX 222 dw_M_look_218 (by decide) ?_
            exact gx_ret hX dw_M_look_222
        · refine gx_iconst hX (-1) 209 dw_M_look_208 (by decide) rfl ?_
          refine gx_goto hX 222 dw_M_look_209 (by decide) ?_
          exact gx_ret hX dw_M_look_222
      · refine gx_iconst hX (-1) 224 dw_M_look_223 (by decide) rfl ?_
        exact gx_ret hX dw_M_look_224
    refine gx_icmp_ne hX 36 26 dw_M_look_23 (by decide) rfl (fun _ => ?_) (fun _ => ?_)
    · refine gx_iconst hX (-1) 37 dw_M_look_36 (by decide) rfl ?_
      exact gx_pick (lv' := [(0, .ref (ob 0)), (4, .int L4), (5, .int r2)]) hX [1, 4, 0] rfl (h37 σ1 L4 r2 (-1))
    · refine gx_aload_n hX 1 27 dw_M_look_26 rfl rfl rfl ?_
      refine gx_iload hX 0 29 dw_M_look_27 rfl rfl ?_
      refine gx_iconst hX 0 30 dw_M_look_29 (by decide) rfl ?_
      exact gx_none
  · refine gx_iconst hX (-1) 14 dw_M_look_13 (by decide) rfl ?_
    exact gx_ret hX dw_M_look_14
def my_M_look : MethodName := ⟨"TypeLoomModel", "look", "(IJI)I"⟩
theorem hy_M_look : (my_M_look.cls ≠ "java/lang/invoke/MethodHandle" ∧ my_M_look.cls ≠ "java/lang/invoke/VarHandle") ∧ (parseMethodDescriptor my_M_look.desc).map (fun d => d.parameters.length) = some 3 := by decide +kernel
theorem tm_M_look {D : va_G} {ob : Nat → Nat} {cI cB cS cZ : ClassId} (l : Launch) (σ : gx_S) (L1 : Int32) (L2 : Int64) (L4 : Int32) : gx_C l (md_V D ob cI cB cS cZ) my_M_look prog_11_method_47_code 7 (some .int) 2 47 [.ref (ob 0), .int L1, .long L2, .int L4] σ (km_M_look σ L1 L2 L4) := gx_met (by decide) rfl (Nat.le_of_ble_eq_true rfl) rfl (fun X _ hX => tl_M_look hX σ L1 L2 L4)
theorem tr_M_look {D : va_G} {ob : Nat → Nat} {cI cB cS cZ : ClassId} {X : gx_X} {cc : ByteArray} {own : String} {nL fr lo : Nat} {rt : Option FieldType} {σ : gx_S} {pc : Nat} {lv : List (Nat × Value)} {st : List Value} (hX : gx_K (md_V D ob cI cB cS cZ) X cc own nL fr lo rt) {idx : Nat} {L1 : Int32} {L2 : Int64} {L4 : Int32} {k : gx_S → Int32 → gx_R} (n : Nat) (hlink : Cond.methodLink own idx ({ cls := "TypeLoomModel", name := "look", desc := "(IJI)I" } : Jvm.MethodName) ∈ gx_T) (hroom : 2 + 1 ≤ fr ∧ 8 + (7 + 11) + 47 ≤ lo) (hst : (st.map fun v => v.category).sum ≤ 8) (hd : decode cc pc = .ok (.invokevirtual idx, 3)) (hn : pc + 3 = n) (kk : ∀ σ' r, gx_G (md_V D ob cI cB cS cZ) X (k σ' r) σ' n lv (.int r :: st)) : gx_G (md_V D ob cI cB cS cZ) X (gx_bd (km_M_look σ L1 L2 L4) k) σ pc lv (.int L4 :: .long L2 :: .int L1 :: .ref (ob 0) :: st) :=
  gx_callI hX [.int L1, .long L2, .int L4] n rfl (tm_M_look _ σ L1 L2 L4) hy_M_look tw_1308 hlink tw_1306 tw_1307 tw_79 (gf_recv 0 (show 0 < 1 by decide) rfl rfl) hroom hst hd hn rfl (fun σ' r _ => kk σ' r)
def km_M_label (σ : gx_S) (L1 : Int32) (L2 : Int64) (L4 : Int32) : gx_R :=
  gx_bd (km_M_follow σ L1 L2) (fun σ1 r2 =>
  if r2 < 0 then
    some (σ1, (-1))
  else
    gx_ld σ1 2 24576 r2 (fun r3 =>
    if r3 = 4 then
      if 0 ≤ L4 then
        none
      else
        some (σ1, (-1))
    else
      some (σ1, (-1))))
set_option maxRecDepth 100000 in
set_option maxHeartbeats 4000000 in
theorem tl_M_label {D : va_G} {ob : Nat → Nat} {cI cB cS cZ : ClassId} {X : gx_X} (hX : gx_K (md_V D ob cI cB cS cZ) X prog_11_method_48_code "TypeLoomModel" 7 2 47 (some .int)) (σ : gx_S) (L1 : Int32) (L2 : Int64) (L4 : Int32) : gx_G (md_V D ob cI cB cS cZ) X (km_M_label σ L1 L2 L4) σ 0 [(0, .ref (ob 0)), (1, .int L1), (2, .long L2), (4, .int L4)] [] := by
  unfold km_M_label
  refine gx_aload_n hX 0 1 dw_M_label_0 rfl rfl rfl ?_
  refine gx_iload_n hX 1 2 dw_M_label_1 rfl rfl rfl ?_
  refine gx_lload_n hX 2 3 dw_M_label_2 rfl rfl rfl ?_
  refine tr_M_follow hX 6 tw_1288 ⟨Nat.le_of_ble_eq_true rfl, Nat.le_of_ble_eq_true rfl⟩ (Nat.le_of_ble_eq_true rfl) dw_M_label_3 rfl (fun σ1 r2 => ?_)
  refine gx_istore hX [(5, .int r2), (0, .ref (ob 0)), (1, .int L1), (2, .long L2), (4, .int L4)] 8 dw_M_label_6 (by decide) rfl rfl ?_
  refine gx_iload hX 0 10 dw_M_label_8 rfl rfl ?_
  refine gx_if_lt hX 29 13 dw_M_label_10 (by decide) rfl (fun _ => ?_) (fun _ => ?_)
  · refine gx_iconst hX (-1) 30 dw_M_label_29 (by decide) rfl ?_
    exact gx_ret hX dw_M_label_30
  · refine gx_aload_n hX 1 14 dw_M_label_13 rfl rfl rfl ?_
    refine mg_0 hX 4 17 (by decide) tw_912 rfl dw_M_label_14 rfl ?_
    refine gx_iload hX 0 19 dw_M_label_17 rfl rfl ?_
    refine gf_bald (u := md_u ob cI cB cS cZ) hX 2 3 1 20 (show 2 < 52 by decide) rfl rfl dw_M_label_19 rfl (fun r3 => ?_)
    refine gx_iconst hX 4 21 dw_M_label_20 (by decide) rfl ?_
    refine gx_icmp_ne hX 29 24 dw_M_label_21 (by decide) rfl (fun _ => ?_) (fun _ => ?_)
    · refine gx_iconst hX (-1) 30 dw_M_label_29 (by decide) rfl ?_
      exact gx_ret hX dw_M_label_30
    · refine gx_iload hX 4 26 dw_M_label_24 rfl rfl ?_
      refine gx_if_ge hX 31 29 dw_M_label_26 (by decide) rfl (fun _ => ?_) (fun _ => ?_)
      · refine gx_aload_n hX 1 32 dw_M_label_31 rfl rfl rfl ?_
        refine gx_iload hX 0 34 dw_M_label_32 rfl rfl ?_
        refine gx_iconst hX 0 35 dw_M_label_34 (by decide) rfl ?_
        exact gx_none
      · refine gx_iconst hX (-1) 30 dw_M_label_29 (by decide) rfl ?_
        exact gx_ret hX dw_M_label_30
def my_M_label : MethodName := ⟨"TypeLoomModel", "label", "(IJI)I"⟩
theorem hy_M_label : (my_M_label.cls ≠ "java/lang/invoke/MethodHandle" ∧ my_M_label.cls ≠ "java/lang/invoke/VarHandle") ∧ (parseMethodDescriptor my_M_label.desc).map (fun d => d.parameters.length) = some 3 := by decide +kernel
theorem tm_M_label {D : va_G} {ob : Nat → Nat} {cI cB cS cZ : ClassId} (l : Launch) (σ : gx_S) (L1 : Int32) (L2 : Int64) (L4 : Int32) : gx_C l (md_V D ob cI cB cS cZ) my_M_label prog_11_method_48_code 7 (some .int) 2 47 [.ref (ob 0), .int L1, .long L2, .int L4] σ (km_M_label σ L1 L2 L4) := gx_met (by decide) rfl (Nat.le_of_ble_eq_true rfl) rfl (fun X _ hX => tl_M_label hX σ L1 L2 L4)
theorem tr_M_label {D : va_G} {ob : Nat → Nat} {cI cB cS cZ : ClassId} {X : gx_X} {cc : ByteArray} {own : String} {nL fr lo : Nat} {rt : Option FieldType} {σ : gx_S} {pc : Nat} {lv : List (Nat × Value)} {st : List Value} (hX : gx_K (md_V D ob cI cB cS cZ) X cc own nL fr lo rt) {idx : Nat} {L1 : Int32} {L2 : Int64} {L4 : Int32} {k : gx_S → Int32 → gx_R} (n : Nat) (hlink : Cond.methodLink own idx ({ cls := "TypeLoomModel", name := "label", desc := "(IJI)I" } : Jvm.MethodName) ∈ gx_T) (hroom : 2 + 1 ≤ fr ∧ 8 + (7 + 11) + 47 ≤ lo) (hst : (st.map fun v => v.category).sum ≤ 8) (hd : decode cc pc = .ok (.invokevirtual idx, 3)) (hn : pc + 3 = n) (kk : ∀ σ' r, gx_G (md_V D ob cI cB cS cZ) X (k σ' r) σ' n lv (.int r :: st)) : gx_G (md_V D ob cI cB cS cZ) X (gx_bd (km_M_label σ L1 L2 L4) k) σ pc lv (.int L4 :: .long L2 :: .int L1 :: .ref (ob 0) :: st) :=
  gx_callI hX [.int L1, .long L2, .int L4] n rfl (tm_M_label _ σ L1 L2 L4) hy_M_label tw_1320 hlink tw_1318 tw_1319 tw_79 (gf_recv 0 (show 0 < 1 by decide) rfl rfl) hroom hst hd hn rfl (fun σ' r _ => kk σ' r)
def km_M_scheme (σ : gx_S) (L1 : Int32) : gx_R :=
  gx_bd (km_M_isType σ L1) (fun σ1 r2 =>
  if r2 = 0 then
    some (σ1, (-1))
  else
    none)
set_option maxRecDepth 100000 in
set_option maxHeartbeats 4000000 in
theorem tl_M_scheme {D : va_G} {ob : Nat → Nat} {cI cB cS cZ : ClassId} {X : gx_X} (hX : gx_K (md_V D ob cI cB cS cZ) X prog_11_method_52_code "TypeLoomModel" 9 1 21 (some .int)) (σ : gx_S) (L1 : Int32) : gx_G (md_V D ob cI cB cS cZ) X (km_M_scheme σ L1) σ 0 [(0, .ref (ob 0)), (1, .int L1)] [] := by
  unfold km_M_scheme
  refine gx_aload_n hX 0 1 dw_M_scheme_0 rfl rfl rfl ?_
  refine gx_iload_n hX 1 2 dw_M_scheme_1 rfl rfl rfl ?_
  refine tr_M_isType hX 5 tw_1140 ⟨Nat.le_of_ble_eq_true rfl, Nat.le_of_ble_eq_true rfl⟩ (Nat.le_of_ble_eq_true rfl) dw_M_scheme_2 rfl (fun σ1 r2 => ?_)
  refine gx_if_eq hX 20 8 dw_M_scheme_5 (by decide) rfl (fun _ => ?_) (fun _ => ?_)
  · refine gx_iconst hX (-1) 21 dw_M_scheme_20 (by decide) rfl ?_
    exact gx_ret hX dw_M_scheme_21
  · refine gx_aload_n hX 0 9 dw_M_scheme_8 rfl rfl rfl ?_
    refine gx_aload_n hX 0 10 dw_M_scheme_9 rfl rfl rfl ?_
    refine gx_iload_n hX 1 11 dw_M_scheme_10 rfl rfl rfl ?_
    exact gx_none
def my_M_scheme : MethodName := ⟨"TypeLoomModel", "scheme", "(I)I"⟩
theorem hy_M_scheme : (my_M_scheme.cls ≠ "java/lang/invoke/MethodHandle" ∧ my_M_scheme.cls ≠ "java/lang/invoke/VarHandle") ∧ (parseMethodDescriptor my_M_scheme.desc).map (fun d => d.parameters.length) = some 1 := by decide +kernel
theorem tm_M_scheme {D : va_G} {ob : Nat → Nat} {cI cB cS cZ : ClassId} (l : Launch) (σ : gx_S) (L1 : Int32) : gx_C l (md_V D ob cI cB cS cZ) my_M_scheme prog_11_method_52_code 9 (some .int) 1 21 [.ref (ob 0), .int L1] σ (km_M_scheme σ L1) := gx_met (by decide) rfl (Nat.le_of_ble_eq_true rfl) rfl (fun X _ hX => tl_M_scheme hX σ L1)
theorem tr_M_scheme {D : va_G} {ob : Nat → Nat} {cI cB cS cZ : ClassId} {X : gx_X} {cc : ByteArray} {own : String} {nL fr lo : Nat} {rt : Option FieldType} {σ : gx_S} {pc : Nat} {lv : List (Nat × Value)} {st : List Value} (hX : gx_K (md_V D ob cI cB cS cZ) X cc own nL fr lo rt) {idx : Nat} {L1 : Int32} {k : gx_S → Int32 → gx_R} (n : Nat) (hlink : Cond.methodLink own idx ({ cls := "TypeLoomModel", name := "scheme", desc := "(I)I" } : Jvm.MethodName) ∈ gx_T) (hroom : 1 + 1 ≤ fr ∧ 8 + (9 + 11) + 21 ≤ lo) (hst : (st.map fun v => v.category).sum ≤ 8) (hd : decode cc pc = .ok (.invokevirtual idx, 3)) (hn : pc + 3 = n) (kk : ∀ σ' r, gx_G (md_V D ob cI cB cS cZ) X (k σ' r) σ' n lv (.int r :: st)) : gx_G (md_V D ob cI cB cS cZ) X (gx_bd (km_M_scheme σ L1) k) σ pc lv (.int L1 :: .ref (ob 0) :: st) :=
  gx_callI hX [.int L1] n rfl (tm_M_scheme _ σ L1) hy_M_scheme tw_1324 hlink tw_1322 tw_1323 tw_79 (gf_recv 0 (show 0 < 1 by decide) rfl rfl) hroom hst hd hn rfl (fun σ' r _ => kk σ' r)
def km_M_quantified (σ : gx_S) (L1 : Int32) (L2 : Int32) : gx_R :=
  gx_bd (km_M_isScheme σ L1) (fun σ1 r2 =>
  if r2 = 0 then
    some (σ1, (-1))
  else
    if L2 = 0 then
      gx_ld σ1 23 2048 L1 (fun r5 =>
      some (σ1, r5))
    else
      if L2 = 1 then
        gx_ld σ1 25 2048 L1 (fun r4 =>
        if r4 = 0 then
          some (σ1, 0)
        else
          some (σ1, 1))
      else
        if L2 = 2 then
          gx_ld σ1 24 2048 L1 (fun r3 =>
          some (σ1, r3))
        else
          some (σ1, (-1)))
set_option maxRecDepth 100000 in
set_option maxHeartbeats 4000000 in
theorem tl_M_quantified {D : va_G} {ob : Nat → Nat} {cI cB cS cZ : ClassId} {X : gx_X} (hX : gx_K (md_V D ob cI cB cS cZ) X prog_11_method_55_code "TypeLoomModel" 3 1 21 (some .int)) (σ : gx_S) (L1 : Int32) (L2 : Int32) : gx_G (md_V D ob cI cB cS cZ) X (km_M_quantified σ L1 L2) σ 0 [(0, .ref (ob 0)), (1, .int L1), (2, .int L2)] [] := by
  unfold km_M_quantified
  refine gx_aload_n hX 0 1 dw_M_quantified_0 rfl rfl rfl ?_
  refine gx_iload_n hX 1 2 dw_M_quantified_1 rfl rfl rfl ?_
  refine tr_M_isScheme hX 5 tw_1345 ⟨Nat.le_of_ble_eq_true rfl, Nat.le_of_ble_eq_true rfl⟩ (Nat.le_of_ble_eq_true rfl) dw_M_quantified_2 rfl (fun σ1 r2 => ?_)
  refine gx_if_ne hX 10 8 dw_M_quantified_5 (by decide) rfl (fun _ => ?_) (fun _ => ?_)
  · refine gx_iload_n hX 2 11 dw_M_quantified_10 rfl rfl rfl ?_
    refine gx_if_ne hX 23 14 dw_M_quantified_11 (by decide) rfl (fun _ => ?_) (fun _ => ?_)
    · refine gx_iload_n hX 2 24 dw_M_quantified_23 rfl rfl rfl ?_
      refine gx_iconst hX 1 25 dw_M_quantified_24 (by decide) rfl ?_
      refine gx_icmp_ne hX 45 28 dw_M_quantified_25 (by decide) rfl (fun _ => ?_) (fun _ => ?_)
      · refine gx_iload_n hX 2 46 dw_M_quantified_45 rfl rfl rfl ?_
        refine gx_iconst hX 2 47 dw_M_quantified_46 (by decide) rfl ?_
        refine gx_icmp_ne hX 59 50 dw_M_quantified_47 (by decide) rfl (fun _ => ?_) (fun _ => ?_)
        · refine gx_iconst hX (-1) 60 dw_M_quantified_59 (by decide) rfl ?_
          exact gx_ret hX dw_M_quantified_60
        · refine gx_aload_n hX 0 51 dw_M_quantified_50 rfl rfl rfl ?_
          refine mg_0 hX 33 54 (by decide) tw_941 rfl dw_M_quantified_51 rfl ?_
          refine gx_iload_n hX 1 55 dw_M_quantified_54 rfl rfl rfl ?_
          refine gf_iald (u := md_u ob cI cB cS cZ) hX 24 25 0 56 (show 24 < 52 by decide) rfl rfl dw_M_quantified_55 rfl (fun r3 => ?_)
          refine gx_goto hX 60 dw_M_quantified_56 (by decide) ?_
          exact gx_ret hX dw_M_quantified_60
      · refine gx_aload_n hX 0 29 dw_M_quantified_28 rfl rfl rfl ?_
        refine mg_0 hX 34 32 (by decide) tw_942 rfl dw_M_quantified_29 rfl ?_
        refine gx_iload_n hX 1 33 dw_M_quantified_32 rfl rfl rfl ?_
        refine gf_zald (u := md_u ob cI cB cS cZ) hX 25 26 3 34 (show 25 < 52 by decide) rfl rfl dw_M_quantified_33 rfl (fun r4 => ?_)
        refine gx_if_eq hX 41 37 dw_M_quantified_34 (by decide) rfl (fun _ => ?_) (fun _ => ?_)
        · refine gx_iconst hX 0 42 dw_M_quantified_41 (by decide) rfl ?_
          refine gx_goto hX 60 dw_M_quantified_42 (by decide) ?_
          exact gx_ret hX dw_M_quantified_60
        · refine gx_iconst hX 1 38 dw_M_quantified_37 (by decide) rfl ?_
          refine gx_goto hX 60 dw_M_quantified_38 (by decide) ?_
          exact gx_ret hX dw_M_quantified_60
    · refine gx_aload_n hX 0 15 dw_M_quantified_14 rfl rfl rfl ?_
      refine mg_0 hX 32 18 (by decide) tw_940 rfl dw_M_quantified_15 rfl ?_
      refine gx_iload_n hX 1 19 dw_M_quantified_18 rfl rfl rfl ?_
      refine gf_iald (u := md_u ob cI cB cS cZ) hX 23 24 0 20 (show 23 < 52 by decide) rfl rfl dw_M_quantified_19 rfl (fun r5 => ?_)
      refine gx_goto hX 60 dw_M_quantified_20 (by decide) ?_
      exact gx_ret hX dw_M_quantified_60
  · refine gx_iconst hX (-1) 9 dw_M_quantified_8 (by decide) rfl ?_
    exact gx_ret hX dw_M_quantified_9
def my_M_quantified : MethodName := ⟨"TypeLoomModel", "quantified", "(II)I"⟩
theorem hy_M_quantified : (my_M_quantified.cls ≠ "java/lang/invoke/MethodHandle" ∧ my_M_quantified.cls ≠ "java/lang/invoke/VarHandle") ∧ (parseMethodDescriptor my_M_quantified.desc).map (fun d => d.parameters.length) = some 2 := by decide +kernel
theorem tm_M_quantified {D : va_G} {ob : Nat → Nat} {cI cB cS cZ : ClassId} (l : Launch) (σ : gx_S) (L1 : Int32) (L2 : Int32) : gx_C l (md_V D ob cI cB cS cZ) my_M_quantified prog_11_method_55_code 3 (some .int) 1 21 [.ref (ob 0), .int L1, .int L2] σ (km_M_quantified σ L1 L2) := gx_met (by decide) rfl (Nat.le_of_ble_eq_true rfl) rfl (fun X _ hX => tl_M_quantified hX σ L1 L2)
theorem tr_M_quantified {D : va_G} {ob : Nat → Nat} {cI cB cS cZ : ClassId} {X : gx_X} {cc : ByteArray} {own : String} {nL fr lo : Nat} {rt : Option FieldType} {σ : gx_S} {pc : Nat} {lv : List (Nat × Value)} {st : List Value} (hX : gx_K (md_V D ob cI cB cS cZ) X cc own nL fr lo rt) {idx : Nat} {L1 : Int32} {L2 : Int32} {k : gx_S → Int32 → gx_R} (n : Nat) (hlink : Cond.methodLink own idx ({ cls := "TypeLoomModel", name := "quantified", desc := "(II)I" } : Jvm.MethodName) ∈ gx_T) (hroom : 1 + 1 ≤ fr ∧ 8 + (3 + 11) + 21 ≤ lo) (hst : (st.map fun v => v.category).sum ≤ 8) (hd : decode cc pc = .ok (.invokevirtual idx, 3)) (hn : pc + 3 = n) (kk : ∀ σ' r, gx_G (md_V D ob cI cB cS cZ) X (k σ' r) σ' n lv (.int r :: st)) : gx_G (md_V D ob cI cB cS cZ) X (gx_bd (km_M_quantified σ L1 L2) k) σ pc lv (.int L2 :: .int L1 :: .ref (ob 0) :: st) :=
  gx_callI hX [.int L1, .int L2] n rfl (tm_M_quantified _ σ L1 L2) hy_M_quantified tw_1344 hlink tw_1342 tw_1343 tw_79 (gf_recv 0 (show 0 < 1 by decide) rfl rfl) hroom hst hd hn rfl (fun σ' r _ => kk σ' r)
def km_M_instance (σ : gx_S) (L1 : Int32) : gx_R :=
  gx_bd (km_M_isScheme σ L1) (fun σ1 r2 =>
  if r2 = 0 then
    some (σ1, (-1))
  else
    gx_ld σ1 22 2049 L1 (fun r3 =>
    gx_ld σ1 22 2049 ((L1 + 1)) (fun r4 =>
    gx_bv ((r4 - r3)) (fun x5 =>
    gx_jn (fun (σ6 : gx_S) (L2 : Int32) (L3 : Int32) (L4 : Int32) =>
      gx_ld σ6 28 16386 ((L2 + L3)) (fun r7 =>
      gx_ld σ6 28 16386 L2 (fun r8 =>
      gx_bv ((r7 - r8)) (fun x9 =>
      if L3 = 0 then
        some (σ6, (-2))
      else
        if 24576 < (((σ6.1 1)) + L4) then
          some (σ6, (-2))
        else
          if (((σ6.1 2)) + x9) ≤ 65536 then
            gx_jn (fun (σ10 : gx_S) (L3 : Int32) =>
              gx_ld σ10 50 24576 ((L3 - 1)) (fun r11 =>
              some (σ10, r11))) (fun j174 =>
            gx_lp (α := gx_S → Int32 → Int32 → Int32 → gx_R) (fun _ _ _ _ => none) (fun again122 (σ12 : gx_S) (L2 : Int32) (L3 : Int32) (L6 : Int32) =>
              if L3 ≤ L6 then
              j174 σ12 L3
            else
              gx_ld σ12 26 16386 ((L2 + L6)) (fun r13 =>
              gx_jn (fun (σ14 : gx_S) (L2 : Int32) (L3 : Int32) (L6 : Int32) (S0 : Int32) (S1 : Int32) =>
                gx_st σ14 50 24576 S1 S0 (fun σ15 =>
                gx_bv (L6 + 1) (fun x16 =>
                again122 σ15 L2 L3 x16))) (fun j167 =>
              if r13 = 1 then
                gx_ld σ12 27 16386 ((L2 + L6)) (fun r17 =>
                j167 σ12 L2 L3 L6 r17 L6)
              else
                none))) gx_F σ6 L2 L3 0)
          else
            some (σ6, (-2)))))) (fun j70 =>
    gx_lp (α := gx_S → Int32 → Int32 → Int32 → Int32 → gx_R) (fun _ _ _ _ _ => none) (fun again34 (σ18 : gx_S) (L2 : Int32) (L3 : Int32) (L4 : Int32) (L5 : Int32) =>
      if (L2 + L3) ≤ L5 then
      j70 σ18 L2 L3 L4
    else
      gx_ld σ18 26 16386 L5 (fun r19 =>
      gx_jn (fun (σ20 : gx_S) (L2 : Int32) (L3 : Int32) (L5 : Int32) (S0 : Int32) =>
        gx_bv (L5 + 1) (fun x21 =>
        again34 σ20 L2 L3 S0 x21)) (fun j62 =>
      if r19 = 1 then
        j62 σ18 L2 L3 L5 L4
      else
        j62 σ18 L2 L3 L5 ((L4 + 1))))) gx_F σ1 r3 x5 0 r3)))))
set_option maxRecDepth 100000 in
set_option maxHeartbeats 4000000 in
theorem tl_M_instance {D : va_G} {ob : Nat → Nat} {cI cB cS cZ : ClassId} {X : gx_X} (hX : gx_K (md_V D ob cI cB cS cZ) X prog_11_method_56_code "TypeLoomModel" 7 1 21 (some .int)) (σ : gx_S) (L1 : Int32) : gx_G (md_V D ob cI cB cS cZ) X (km_M_instance σ L1) σ 0 [(0, .ref (ob 0)), (1, .int L1)] [] := by
  unfold km_M_instance
  refine gx_aload_n hX 0 1 dw_M_instance_0 rfl rfl rfl ?_
  refine gx_iload_n hX 1 2 dw_M_instance_1 rfl rfl rfl ?_
  refine tr_M_isScheme hX 5 tw_1345 ⟨Nat.le_of_ble_eq_true rfl, Nat.le_of_ble_eq_true rfl⟩ (Nat.le_of_ble_eq_true rfl) dw_M_instance_2 rfl (fun σ1 r2 => ?_)
  refine gx_if_ne hX 10 8 dw_M_instance_5 (by decide) rfl (fun _ => ?_) (fun _ => ?_)
  · refine gx_aload_n hX 0 11 dw_M_instance_10 rfl rfl rfl ?_
    refine mg_0 hX 31 14 (by decide) tw_939 rfl dw_M_instance_11 rfl ?_
    refine gx_iload_n hX 1 15 dw_M_instance_14 rfl rfl rfl ?_
    refine gf_iald (u := md_u ob cI cB cS cZ) hX 22 23 0 16 (show 22 < 52 by decide) rfl rfl dw_M_instance_15 rfl (fun r3 => ?_)
    refine gx_istore_n hX [(2, .int r3), (0, .ref (ob 0)), (1, .int L1)] 17 dw_M_instance_16 rfl (by decide) rfl rfl ?_
    refine gx_aload_n hX 1 18 dw_M_instance_17 rfl rfl rfl ?_
    refine mg_0 hX 31 21 (by decide) tw_939 rfl dw_M_instance_18 rfl ?_
    refine gx_iload_n hX 2 22 dw_M_instance_21 rfl rfl rfl ?_
    refine gx_iconst hX 1 23 dw_M_instance_22 (by decide) rfl ?_
    refine gx_iadd hX 24 dw_M_instance_23 rfl ?_
    refine gf_iald (u := md_u ob cI cB cS cZ) hX 22 23 0 25 (show 22 < 52 by decide) rfl rfl dw_M_instance_24 rfl (fun r4 => ?_)
    refine gx_iload_n hX 0 26 dw_M_instance_25 rfl rfl rfl ?_
    refine gx_isub hX 27 dw_M_instance_26 rfl ?_
    refine gx_bvN (fun x5 => ?_)
    refine gx_istore_n hX [(3, .int x5), (2, .int r3), (0, .ref (ob 0)), (1, .int L1)] 28 dw_M_instance_27 rfl (by decide) rfl rfl ?_
    refine gx_iconst hX 0 29 dw_M_instance_28 (by decide) rfl ?_
    refine gx_istore hX [(4, .int 0), (3, .int x5), (2, .int r3), (0, .ref (ob 0)), (1, .int L1)] 31 dw_M_instance_29 (by decide) rfl rfl ?_
    refine gx_iload_n hX 2 32 dw_M_instance_31 rfl rfl rfl ?_
    refine gx_istore hX [(5, .int r3), (4, .int 0), (3, .int x5), (2, .int r3), (0, .ref (ob 0)), (1, .int L1)] 34 dw_M_instance_32 (by decide) rfl rfl ?_
    refine gx_jnI (fun (j : gx_S → Int32 → Int32 → Int32 → gx_R) => ∀ (σ6 : gx_S) (L2 : Int32) (L3 : Int32) (L4 : Int32), gx_G (md_V D ob cI cB cS cZ) X (j σ6 L2 L3 L4) σ6 70 [(0, .ref (ob 0)), (2, .int L2), (3, .int L3), (4, .int L4)] []) (fun σ6 L2 L3 L4 => ?_) (fun j70 h70 => ?_)
    · refine gx_aload_n hX 0 71 dw_M_instance_70 rfl rfl rfl ?_
      refine mg_0 hX 38 74 (by decide) tw_946 rfl dw_M_instance_71 rfl ?_
      refine gx_iload_n hX 1 75 dw_M_instance_74 rfl rfl rfl ?_
      refine gx_iload_n hX 2 76 dw_M_instance_75 rfl rfl rfl ?_
      refine gx_iadd hX 77 dw_M_instance_76 rfl ?_
      refine gf_iald (u := md_u ob cI cB cS cZ) hX 28 29 0 78 (show 28 < 52 by decide) rfl rfl dw_M_instance_77 rfl (fun r7 => ?_)
      refine gx_aload_n hX 0 79 dw_M_instance_78 rfl rfl rfl ?_
      refine mg_0 hX 38 82 (by decide) tw_946 rfl dw_M_instance_79 rfl ?_
      refine gx_iload_n hX 1 83 dw_M_instance_82 rfl rfl rfl ?_
      refine gf_iald (u := md_u ob cI cB cS cZ) hX 28 29 0 84 (show 28 < 52 by decide) rfl rfl dw_M_instance_83 rfl (fun r8 => ?_)
      refine gx_isub hX 85 dw_M_instance_84 rfl ?_
      refine gx_bvN (fun x9 => ?_)
      refine gx_istore hX [(5, .int x9), (0, .ref (ob 0)), (2, .int L2), (3, .int L3), (4, .int L4)] 87 dw_M_instance_85 (by decide) rfl rfl ?_
      refine gx_iload_n hX 3 88 dw_M_instance_87 rfl rfl rfl ?_
      refine gx_if_eq hX 116 91 dw_M_instance_88 (by decide) rfl (fun _ => ?_) (fun _ => ?_)
      · refine gx_bipush hX (-2) 118 dw_M_instance_116 (by decide) rfl ?_
        exact gx_ret hX dw_M_instance_118
      · refine gx_aload_n hX 1 92 dw_M_instance_91 rfl rfl rfl ?_
        refine mg_0 hX 3 95 (by decide) tw_911 rfl dw_M_instance_92 rfl ?_
        refine gx_iload hX 4 97 dw_M_instance_95 rfl rfl ?_
        refine gx_iadd hX 98 dw_M_instance_97 rfl ?_
        refine gx_sipush hX 24576 101 dw_M_instance_98 (by decide) rfl ?_
        refine gx_icmp_gt hX 116 104 dw_M_instance_101 (by decide) rfl (fun _ => ?_) (fun _ => ?_)
        · refine gx_bipush hX (-2) 118 dw_M_instance_116 (by decide) rfl ?_
          exact gx_ret hX dw_M_instance_118
        · refine gx_aload_n hX 1 105 dw_M_instance_104 rfl rfl rfl ?_
          refine mg_0 hX 13 108 (by decide) tw_921 rfl dw_M_instance_105 rfl ?_
          refine gx_iload hX 0 110 dw_M_instance_108 rfl rfl ?_
          refine gx_iadd hX 111 dw_M_instance_110 rfl ?_
          refine gx_ldc hX 65536 113 dw_M_instance_111 tw_904 rfl ?_
          refine gx_icmp_le hX 119 116 dw_M_instance_113 (by decide) rfl (fun _ => ?_) (fun _ => ?_)
          · refine gx_iconst hX 0 120 dw_M_instance_119 (by decide) rfl ?_
            refine gx_istore hX [(6, .int 0), (5, .int x9), (0, .ref (ob 0)), (2, .int L2), (3, .int L3), (4, .int L4)] 122 dw_M_instance_120 (by decide) rfl rfl ?_
            refine gx_jnI (fun (j : gx_S → Int32 → gx_R) => ∀ (σ10 : gx_S) (L3 : Int32), gx_G (md_V D ob cI cB cS cZ) X (j σ10 L3) σ10 174 [(0, .ref (ob 0)), (3, .int L3)] []) (fun σ10 L3 => ?_) (fun j174 h174 => ?_)
            · refine gx_aload_n hX 0 175 dw_M_instance_174 rfl rfl rfl ?_
              refine mg_0 hX 67 178 (by decide) tw_975 rfl dw_M_instance_175 rfl ?_
              refine gx_iload_n hX 1 179 dw_M_instance_178 rfl rfl rfl ?_
              refine gx_iconst hX 1 180 dw_M_instance_179 (by decide) rfl ?_
              refine gx_isub hX 181 dw_M_instance_180 rfl ?_
              refine gf_iald (u := md_u ob cI cB cS cZ) hX 50 51 0 182 (show 50 < 52 by decide) rfl rfl dw_M_instance_181 rfl (fun r11 => ?_)
              exact gx_ret hX dw_M_instance_182
            refine gx_pick (lv' := [(0, .ref (ob 0)), (2, .int L2), (3, .int L3), (6, .int 0)]) hX [2, 3, 4, 0] rfl (gx_lpI (fun (f : gx_S → Int32 → Int32 → Int32 → gx_R) => ∀ (σ12 : gx_S) (L2 : Int32) (L3 : Int32) (L6 : Int32), gx_G (md_V D ob cI cB cS cZ) X (f σ12 L2 L3 L6) σ12 122 [(0, .ref (ob 0)), (2, .int L2), (3, .int L3), (6, .int L6)] []) (fun _ _ _ _ => gx_none) (fun again122 ih122 σ12 L2 L3 L6 => ?_) _ σ6 L2 L3 0)
            refine gx_iload hX 3 124 dw_M_instance_122 rfl rfl ?_
            refine gx_iload_n hX 2 125 dw_M_instance_124 rfl rfl rfl ?_
            refine gx_icmp_ge hX 174 128 dw_M_instance_125 (by decide) rfl (fun _ => ?_) (fun _ => ?_)
            · exact gx_pick (lv' := [(0, .ref (ob 0)), (3, .int L3)]) hX [0, 2] rfl (h174 σ12 L3)
            · refine gx_aload_n hX 0 129 dw_M_instance_128 rfl rfl rfl ?_
              refine mg_0 hX 67 132 (by decide) tw_975 rfl dw_M_instance_129 rfl ?_
              refine gx_iload hX 3 134 dw_M_instance_132 rfl rfl ?_
              refine gx_aload_n hX 0 135 dw_M_instance_134 rfl rfl rfl ?_
              refine mg_0 hX 36 138 (by decide) tw_944 rfl dw_M_instance_135 rfl ?_
              refine gx_iload_n hX 1 139 dw_M_instance_138 rfl rfl rfl ?_
              refine gx_iload hX 3 141 dw_M_instance_139 rfl rfl ?_
              refine gx_iadd hX 142 dw_M_instance_141 rfl ?_
              refine gf_bald (u := md_u ob cI cB cS cZ) hX 26 27 1 143 (show 26 < 52 by decide) rfl rfl dw_M_instance_142 rfl (fun r13 => ?_)
              refine gx_iconst hX 1 144 dw_M_instance_143 (by decide) rfl ?_
              refine gx_jnI (fun (j : gx_S → Int32 → Int32 → Int32 → Int32 → Int32 → gx_R) => ∀ (σ14 : gx_S) (L2 : Int32) (L3 : Int32) (L6 : Int32) (S0 : Int32) (S1 : Int32), gx_G (md_V D ob cI cB cS cZ) X (j σ14 L2 L3 L6 S0 S1) σ14 167 [(0, .ref (ob 0)), (2, .int L2), (3, .int L3), (6, .int L6)] [.int S0, .int S1, .ref (ob 51)]) (fun σ14 L2 L3 L6 S0 S1 => ?_) (fun j167 h167 => ?_)
              · refine gf_iast (u := md_u ob cI cB cS cZ) hX 50 51 0 168 (show 50 < 52 by decide) rfl rfl (fun _ _ _ => rfl) dw_M_instance_167 rfl (fun σ15 => ?_)
                refine gx_iincN hX (q := 3) (fun x16 => [(6, .int x16), (0, .ref (ob 0)), (2, .int L2), (3, .int L3)]) 171 dw_M_instance_168 rfl rfl (by decide) (fun _ => rfl) rfl (fun x16 => ?_)
                refine gx_goto hX 122 dw_M_instance_171 (by decide) ?_
                exact gx_pick (lv' := [(0, .ref (ob 0)), (2, .int L2), (3, .int L3), (6, .int x16)]) hX [1, 2, 3, 0] rfl (ih122 σ15 L2 L3 x16)
              refine gx_icmp_ne hX 159 147 dw_M_instance_144 (by decide) rfl (fun _ => ?_) (fun _ => ?_)
              · refine gx_aload_n hX 0 160 dw_M_instance_159 rfl rfl rfl ?_
                refine gx_iload_n hX 1 161 dw_M_instance_160 rfl rfl rfl ?_
                refine gx_iload hX 3 163 dw_M_instance_161 rfl rfl ?_
                refine gx_iadd hX 164 dw_M_instance_163 rfl ?_
                exact gx_none
              · refine gx_aload_n hX 0 148 dw_M_instance_147 rfl rfl rfl ?_
                refine mg_0 hX 37 151 (by decide) tw_945 rfl dw_M_instance_148 rfl ?_
                refine gx_iload_n hX 1 152 dw_M_instance_151 rfl rfl rfl ?_
                refine gx_iload hX 3 154 dw_M_instance_152 rfl rfl ?_
                refine gx_iadd hX 155 dw_M_instance_154 rfl ?_
                refine gf_iald (u := md_u ob cI cB cS cZ) hX 27 28 0 156 (show 27 < 52 by decide) rfl rfl dw_M_instance_155 rfl (fun r17 => ?_)
                refine gx_goto hX 167 dw_M_instance_156 (by decide) ?_
                exact gx_pick (lv' := [(0, .ref (ob 0)), (2, .int L2), (3, .int L3), (6, .int L6)]) hX [0, 1, 2, 3] rfl (h167 σ12 L2 L3 L6 r17 L6)
          · refine gx_bipush hX (-2) 118 dw_M_instance_116 (by decide) rfl ?_
            exact gx_ret hX dw_M_instance_118
    refine gx_pick (lv' := [(0, .ref (ob 0)), (2, .int r3), (3, .int x5), (4, .int 0), (5, .int r3)]) hX [4, 3, 2, 1, 0] rfl (gx_lpI (fun (f : gx_S → Int32 → Int32 → Int32 → Int32 → gx_R) => ∀ (σ18 : gx_S) (L2 : Int32) (L3 : Int32) (L4 : Int32) (L5 : Int32), gx_G (md_V D ob cI cB cS cZ) X (f σ18 L2 L3 L4 L5) σ18 34 [(0, .ref (ob 0)), (2, .int L2), (3, .int L3), (4, .int L4), (5, .int L5)] []) (fun _ _ _ _ _ => gx_none) (fun again34 ih34 σ18 L2 L3 L4 L5 => ?_) _ σ1 r3 x5 0 r3)
    refine gx_iload hX 4 36 dw_M_instance_34 rfl rfl ?_
    refine gx_iload_n hX 1 37 dw_M_instance_36 rfl rfl rfl ?_
    refine gx_iload_n hX 2 38 dw_M_instance_37 rfl rfl rfl ?_
    refine gx_iadd hX 39 dw_M_instance_38 rfl ?_
    refine gx_icmp_ge hX 70 42 dw_M_instance_39 (by decide) rfl (fun _ => ?_) (fun _ => ?_)
    · exact gx_pick (lv' := [(0, .ref (ob 0)), (2, .int L2), (3, .int L3), (4, .int L4)]) hX [0, 1, 2, 3] rfl (h70 σ18 L2 L3 L4)
    · refine gx_aload_n hX 0 43 dw_M_instance_42 rfl rfl rfl ?_
      refine mg_0 hX 36 46 (by decide) tw_944 rfl dw_M_instance_43 rfl ?_
      refine gx_iload hX 4 48 dw_M_instance_46 rfl rfl ?_
      refine gf_bald (u := md_u ob cI cB cS cZ) hX 26 27 1 49 (show 26 < 52 by decide) rfl rfl dw_M_instance_48 rfl (fun r19 => ?_)
      refine gx_iconst hX 1 50 dw_M_instance_49 (by decide) rfl ?_
      refine gx_jnI (fun (j : gx_S → Int32 → Int32 → Int32 → Int32 → gx_R) => ∀ (σ20 : gx_S) (L2 : Int32) (L3 : Int32) (L5 : Int32) (S0 : Int32), gx_G (md_V D ob cI cB cS cZ) X (j σ20 L2 L3 L5 S0) σ20 62 [(0, .ref (ob 0)), (2, .int L2), (3, .int L3), (5, .int L5)] [.int S0]) (fun σ20 L2 L3 L5 S0 => ?_) (fun j62 h62 => ?_)
      · refine gx_istore hX [(4, .int S0), (0, .ref (ob 0)), (2, .int L2), (3, .int L3), (5, .int L5)] 64 dw_M_instance_62 (by decide) rfl rfl ?_
        refine gx_iincN hX (q := 4) (fun x21 => [(5, .int x21), (4, .int S0), (0, .ref (ob 0)), (2, .int L2), (3, .int L3)]) 67 dw_M_instance_64 rfl rfl (by decide) (fun _ => rfl) rfl (fun x21 => ?_)
        refine gx_goto hX 34 dw_M_instance_67 (by decide) ?_
        exact gx_pick (lv' := [(0, .ref (ob 0)), (2, .int L2), (3, .int L3), (4, .int S0), (5, .int x21)]) hX [2, 3, 4, 1, 0] rfl (ih34 σ20 L2 L3 S0 x21)
      refine gx_icmp_ne hX 58 53 dw_M_instance_50 (by decide) rfl (fun _ => ?_) (fun _ => ?_)
      · refine gx_iload hX 3 60 dw_M_instance_58 rfl rfl ?_
        refine gx_iconst hX 1 61 dw_M_instance_60 (by decide) rfl ?_
        refine gx_iadd hX 62 dw_M_instance_61 rfl ?_
        exact gx_pick (lv' := [(0, .ref (ob 0)), (2, .int L2), (3, .int L3), (5, .int L5)]) hX [0, 1, 2, 4] rfl (h62 σ18 L2 L3 L5 ((L4 + 1)))
      · refine gx_iload hX 3 55 dw_M_instance_53 rfl rfl ?_
        refine gx_goto hX 62 dw_M_instance_55 (by decide) ?_
        exact gx_pick (lv' := [(0, .ref (ob 0)), (2, .int L2), (3, .int L3), (5, .int L5)]) hX [0, 1, 2, 4] rfl (h62 σ18 L2 L3 L5 L4)
  · refine gx_iconst hX (-1) 9 dw_M_instance_8 (by decide) rfl ?_
    exact gx_ret hX dw_M_instance_9
def my_M_instance : MethodName := ⟨"TypeLoomModel", "instance", "(I)I"⟩
theorem hy_M_instance : (my_M_instance.cls ≠ "java/lang/invoke/MethodHandle" ∧ my_M_instance.cls ≠ "java/lang/invoke/VarHandle") ∧ (parseMethodDescriptor my_M_instance.desc).map (fun d => d.parameters.length) = some 1 := by decide +kernel
theorem tm_M_instance {D : va_G} {ob : Nat → Nat} {cI cB cS cZ : ClassId} (l : Launch) (σ : gx_S) (L1 : Int32) : gx_C l (md_V D ob cI cB cS cZ) my_M_instance prog_11_method_56_code 7 (some .int) 1 21 [.ref (ob 0), .int L1] σ (km_M_instance σ L1) := gx_met (by decide) rfl (Nat.le_of_ble_eq_true rfl) rfl (fun X _ hX => tl_M_instance hX σ L1)
theorem tr_M_instance {D : va_G} {ob : Nat → Nat} {cI cB cS cZ : ClassId} {X : gx_X} {cc : ByteArray} {own : String} {nL fr lo : Nat} {rt : Option FieldType} {σ : gx_S} {pc : Nat} {lv : List (Nat × Value)} {st : List Value} (hX : gx_K (md_V D ob cI cB cS cZ) X cc own nL fr lo rt) {idx : Nat} {L1 : Int32} {k : gx_S → Int32 → gx_R} (n : Nat) (hlink : Cond.methodLink own idx ({ cls := "TypeLoomModel", name := "instance", desc := "(I)I" } : Jvm.MethodName) ∈ gx_T) (hroom : 1 + 1 ≤ fr ∧ 8 + (7 + 11) + 21 ≤ lo) (hst : (st.map fun v => v.category).sum ≤ 8) (hd : decode cc pc = .ok (.invokevirtual idx, 3)) (hn : pc + 3 = n) (kk : ∀ σ' r, gx_G (md_V D ob cI cB cS cZ) X (k σ' r) σ' n lv (.int r :: st)) : gx_G (md_V D ob cI cB cS cZ) X (gx_bd (km_M_instance σ L1) k) σ pc lv (.int L1 :: .ref (ob 0) :: st) :=
  gx_callI hX [.int L1] n rfl (tm_M_instance _ σ L1) hy_M_instance tw_1352 hlink tw_1350 tw_1351 tw_79 (gf_recv 0 (show 0 < 1 by decide) rfl rfl) hroom hst hd hn rfl (fun σ' r _ => kk σ' r)
def km_M_alike (σ : gx_S) (L1 : Int32) (L2 : Int32) : gx_R :=
  gx_bd (km_M_isScheme σ L1) (fun σ1 r2 =>
  if r2 = 0 then
    gx_rz σ1 0
  else
    gx_bd (km_M_isScheme σ1 L2) (fun σ3 r4 =>
    if r4 = 0 then
      gx_rz σ3 0
    else
      gx_ld σ3 25 2048 L1 (fun r5 =>
      if r5 = 0 then
        gx_rz σ3 0
      else
        gx_ld σ3 25 2048 L2 (fun r6 =>
        if r6 = 0 then
          gx_rz σ3 0
        else
          gx_ld σ3 22 2049 L1 (fun r7 =>
          gx_ld σ3 22 2049 L2 (fun r8 =>
          gx_ld σ3 22 2049 ((L1 + 1)) (fun r9 =>
          gx_bv ((r9 - r7)) (fun x10 =>
          gx_ld σ3 22 2049 ((L2 + 1)) (fun r11 =>
          gx_jn (fun (σ12 : gx_S) (L3 : Int32) (L4 : Int32) (L5 : Int32) (S0 : Int32) =>
            gx_lp (α := gx_S → Int32 → Int32 → Int32 → Int32 → Int32 → gx_R) (fun _ _ _ _ _ _ => none) (fun again89 (σ13 : gx_S) (L3 : Int32) (L4 : Int32) (L5 : Int32) (L6 : Int32) (L7 : Int32) =>
              if L5 ≤ L7 then
              gx_rz σ13 L6
            else
              if L6 = 0 then
                gx_rz σ13 L6
              else
                gx_ld σ13 28 16386 ((((L3 + L7)) + 1)) (fun r14 =>
                gx_ld σ13 28 16386 ((L3 + L7)) (fun r15 =>
                gx_bv ((r14 - r15)) (fun x16 =>
                gx_ld σ13 26 16386 ((L3 + L7)) (fun r17 =>
                gx_ld σ13 26 16386 ((L4 + L7)) (fun r18 =>
                gx_jn (fun (σ19 : gx_S) (L3 : Int32) (L4 : Int32) (L5 : Int32) (L7 : Int32) (L8 : Int32) (S0 : Int32) =>
                  gx_jn (fun (σ20 : gx_S) (L3 : Int32) (L4 : Int32) (L5 : Int32) (L6 : Int32) (L7 : Int32) =>
                    gx_bv (L7 + 1) (fun x21 =>
                    again89 σ20 L3 L4 L5 L6 x21)) (fun j341 =>
                  gx_lp (α := gx_S → Int32 → Int32 → Int32 → Int32 → Int32 → Int32 → Int32 → gx_R) (fun _ _ _ _ _ _ _ _ => none) (fun again240 (σ22 : gx_S) (L3 : Int32) (L4 : Int32) (L5 : Int32) (L6 : Int32) (L7 : Int32) (L8 : Int32) (L9 : Int32) =>
                    if L8 ≤ L9 then
                    j341 σ22 L3 L4 L5 L6 L7
                  else
                    if L6 = 0 then
                      j341 σ22 L3 L4 L5 L6 L7
                    else
                      gx_ld σ22 28 16386 ((L3 + L7)) (fun r23 =>
                      gx_ld σ22 30 32900 ((r23 + L9)) (fun r24 =>
                      gx_ld σ22 28 16386 ((L4 + L7)) (fun r25 =>
                      gx_ld σ22 30 32900 ((r25 + L9)) (fun r26 =>
                      gx_jn (fun (σ27 : gx_S) (L3 : Int32) (L4 : Int32) (L5 : Int32) (L7 : Int32) (L8 : Int32) (L9 : Int32) (S0 : Int32) =>
                        gx_bv (L9 + 1) (fun x28 =>
                        again240 σ27 L3 L4 L5 S0 L7 L8 x28)) (fun j333 =>
                      gx_jn (fun (σ29 : gx_S) (L3 : Int32) (L4 : Int32) (L5 : Int32) (L7 : Int32) (L8 : Int32) (L9 : Int32) =>
                        j333 σ29 L3 L4 L5 L7 L8 L9 0) (fun j332 =>
                      if r24 = r26 then
                        gx_ld σ22 28 16386 ((L3 + L7)) (fun r30 =>
                        gx_ld σ22 31 32900 ((r30 + L9)) (fun r31 =>
                        gx_ld σ22 28 16386 ((L4 + L7)) (fun r32 =>
                        gx_ld σ22 31 32900 ((r32 + L9)) (fun r33 =>
                        if r31 = r33 then
                          j333 σ22 L3 L4 L5 L7 L8 L9 1
                        else
                          j332 σ22 L3 L4 L5 L7 L8 L9))))
                      else
                        j332 σ22 L3 L4 L5 L7 L8 L9))))))) gx_F σ19 L3 L4 L5 S0 L7 L8 0)) (fun j235 =>
                gx_jn (fun (σ34 : gx_S) (L3 : Int32) (L4 : Int32) (L5 : Int32) (L7 : Int32) (L8 : Int32) =>
                  j235 σ34 L3 L4 L5 L7 L8 0) (fun j234 =>
                if r17 = r18 then
                  gx_ld σ13 27 16386 ((L3 + L7)) (fun r35 =>
                  gx_ld σ13 27 16386 ((L4 + L7)) (fun r36 =>
                  if r35 = r36 then
                    gx_ld σ13 28 16386 ((((L4 + L7)) + 1)) (fun r37 =>
                    gx_ld σ13 28 16386 ((L4 + L7)) (fun r38 =>
                    if (r37 - r38) = x16 then
                      gx_ld σ13 26 16386 ((L3 + L7)) (fun r39 =>
                      gx_jn (fun (σ40 : gx_S) (L3 : Int32) (L4 : Int32) (L5 : Int32) (L7 : Int32) (L8 : Int32) =>
                        j235 σ40 L3 L4 L5 L7 L8 1) (fun j230 =>
                      if r39 = 0 then
                        gx_ld σ13 51 16385 ((L3 + L7)) (fun r41 =>
                        gx_ld σ13 51 16385 ((L4 + L7)) (fun r42 =>
                        if r41 = r42 then
                          j230 σ13 L3 L4 L5 L7 x16
                        else
                          j234 σ13 L3 L4 L5 L7 x16))
                      else
                        j230 σ13 L3 L4 L5 L7 x16))
                    else
                      j234 σ13 L3 L4 L5 L7 x16))
                  else
                    j234 σ13 L3 L4 L5 L7 x16))
                else
                  j234 σ13 L3 L4 L5 L7 x16)))))))) gx_F σ12 L3 L4 L5 S0 0) (fun j84 =>
          if (r11 - r8) = x10 then
            j84 σ3 r7 r8 x10 1
          else
            j84 σ3 r7 r8 x10 0))))))))))
set_option maxRecDepth 100000 in
set_option maxHeartbeats 4000000 in
theorem tl_M_alike {D : va_G} {ob : Nat → Nat} {cI cB cS cZ : ClassId} {X : gx_X} (hX : gx_K (md_V D ob cI cB cS cZ) X prog_11_method_58_code "TypeLoomModel" 10 1 21 (some .boolean)) (σ : gx_S) (L1 : Int32) (L2 : Int32) : gx_G (md_V D ob cI cB cS cZ) X (km_M_alike σ L1 L2) σ 0 [(0, .ref (ob 0)), (1, .int L1), (2, .int L2)] [] := by
  unfold km_M_alike
  refine gx_aload_n hX 0 1 dw_M_alike_0 rfl rfl rfl ?_
  refine gx_iload_n hX 1 2 dw_M_alike_1 rfl rfl rfl ?_
  refine tr_M_isScheme hX 5 tw_1345 ⟨Nat.le_of_ble_eq_true rfl, Nat.le_of_ble_eq_true rfl⟩ (Nat.le_of_ble_eq_true rfl) dw_M_alike_2 rfl (fun σ1 r2 => ?_)
  refine gx_if_eq hX 34 8 dw_M_alike_5 (by decide) rfl (fun _ => ?_) (fun _ => ?_)
  · refine gx_iconst hX 0 35 dw_M_alike_34 (by decide) rfl ?_
    exact gx_retz hX dw_M_alike_35
  · refine gx_aload_n hX 0 9 dw_M_alike_8 rfl rfl rfl ?_
    refine gx_iload_n hX 2 10 dw_M_alike_9 rfl rfl rfl ?_
    refine tr_M_isScheme hX 13 tw_1345 ⟨Nat.le_of_ble_eq_true rfl, Nat.le_of_ble_eq_true rfl⟩ (Nat.le_of_ble_eq_true rfl) dw_M_alike_10 rfl (fun σ3 r4 => ?_)
    refine gx_if_eq hX 34 16 dw_M_alike_13 (by decide) rfl (fun _ => ?_) (fun _ => ?_)
    · refine gx_iconst hX 0 35 dw_M_alike_34 (by decide) rfl ?_
      exact gx_retz hX dw_M_alike_35
    · refine gx_aload_n hX 0 17 dw_M_alike_16 rfl rfl rfl ?_
      refine mg_0 hX 34 20 (by decide) tw_942 rfl dw_M_alike_17 rfl ?_
      refine gx_iload_n hX 1 21 dw_M_alike_20 rfl rfl rfl ?_
      refine gf_zald (u := md_u ob cI cB cS cZ) hX 25 26 3 22 (show 25 < 52 by decide) rfl rfl dw_M_alike_21 rfl (fun r5 => ?_)
      refine gx_if_eq hX 34 25 dw_M_alike_22 (by decide) rfl (fun _ => ?_) (fun _ => ?_)
      · refine gx_iconst hX 0 35 dw_M_alike_34 (by decide) rfl ?_
        exact gx_retz hX dw_M_alike_35
      · refine gx_aload_n hX 0 26 dw_M_alike_25 rfl rfl rfl ?_
        refine mg_0 hX 34 29 (by decide) tw_942 rfl dw_M_alike_26 rfl ?_
        refine gx_iload_n hX 2 30 dw_M_alike_29 rfl rfl rfl ?_
        refine gf_zald (u := md_u ob cI cB cS cZ) hX 25 26 3 31 (show 25 < 52 by decide) rfl rfl dw_M_alike_30 rfl (fun r6 => ?_)
        refine gx_if_ne hX 36 34 dw_M_alike_31 (by decide) rfl (fun _ => ?_) (fun _ => ?_)
        · refine gx_aload_n hX 0 37 dw_M_alike_36 rfl rfl rfl ?_
          refine mg_0 hX 31 40 (by decide) tw_939 rfl dw_M_alike_37 rfl ?_
          refine gx_iload_n hX 1 41 dw_M_alike_40 rfl rfl rfl ?_
          refine gf_iald (u := md_u ob cI cB cS cZ) hX 22 23 0 42 (show 22 < 52 by decide) rfl rfl dw_M_alike_41 rfl (fun r7 => ?_)
          refine gx_istore_n hX [(3, .int r7), (0, .ref (ob 0)), (1, .int L1), (2, .int L2)] 43 dw_M_alike_42 rfl (by decide) rfl rfl ?_
          refine gx_aload_n hX 1 44 dw_M_alike_43 rfl rfl rfl ?_
          refine mg_0 hX 31 47 (by decide) tw_939 rfl dw_M_alike_44 rfl ?_
          refine gx_iload_n hX 3 48 dw_M_alike_47 rfl rfl rfl ?_
          refine gf_iald (u := md_u ob cI cB cS cZ) hX 22 23 0 49 (show 22 < 52 by decide) rfl rfl dw_M_alike_48 rfl (fun r8 => ?_)
          refine gx_istore hX [(4, .int r8), (3, .int r7), (0, .ref (ob 0)), (1, .int L1), (2, .int L2)] 51 dw_M_alike_49 (by decide) rfl rfl ?_
          refine gx_aload_n hX 2 52 dw_M_alike_51 rfl rfl rfl ?_
          refine mg_0 hX 31 55 (by decide) tw_939 rfl dw_M_alike_52 rfl ?_
          refine gx_iload_n hX 3 56 dw_M_alike_55 rfl rfl rfl ?_
          refine gx_iconst hX 1 57 dw_M_alike_56 (by decide) rfl ?_
          refine gx_iadd hX 58 dw_M_alike_57 rfl ?_
          refine gf_iald (u := md_u ob cI cB cS cZ) hX 22 23 0 59 (show 22 < 52 by decide) rfl rfl dw_M_alike_58 rfl (fun r9 => ?_)
          refine gx_iload_n hX 1 60 dw_M_alike_59 rfl rfl rfl ?_
          refine gx_isub hX 61 dw_M_alike_60 rfl ?_
          refine gx_bvN (fun x10 => ?_)
          refine gx_istore hX [(5, .int x10), (4, .int r8), (3, .int r7), (0, .ref (ob 0)), (1, .int L1), (2, .int L2)] 63 dw_M_alike_61 (by decide) rfl rfl ?_
          refine gx_aload_n hX 3 64 dw_M_alike_63 rfl rfl rfl ?_
          refine mg_0 hX 31 67 (by decide) tw_939 rfl dw_M_alike_64 rfl ?_
          refine gx_iload_n hX 5 68 dw_M_alike_67 rfl rfl rfl ?_
          refine gx_iconst hX 1 69 dw_M_alike_68 (by decide) rfl ?_
          refine gx_iadd hX 70 dw_M_alike_69 rfl ?_
          refine gf_iald (u := md_u ob cI cB cS cZ) hX 22 23 0 71 (show 22 < 52 by decide) rfl rfl dw_M_alike_70 rfl (fun r11 => ?_)
          refine gx_iload hX 1 73 dw_M_alike_71 rfl rfl ?_
          refine gx_isub hX 74 dw_M_alike_73 rfl ?_
          refine gx_iload hX 0 76 dw_M_alike_74 rfl rfl ?_
          refine gx_jnI (fun (j : gx_S → Int32 → Int32 → Int32 → Int32 → gx_R) => ∀ (σ12 : gx_S) (L3 : Int32) (L4 : Int32) (L5 : Int32) (S0 : Int32), gx_G (md_V D ob cI cB cS cZ) X (j σ12 L3 L4 L5 S0) σ12 84 [(0, .ref (ob 0)), (3, .int L3), (4, .int L4), (5, .int L5)] [.int S0]) (fun σ12 L3 L4 L5 S0 => ?_) (fun j84 h84 => ?_)
          · refine gx_istore hX [(6, .int S0), (0, .ref (ob 0)), (3, .int L3), (4, .int L4), (5, .int L5)] 86 dw_M_alike_84 (by decide) rfl rfl ?_
            refine gx_iconst hX 0 87 dw_M_alike_86 (by decide) rfl ?_
            refine gx_istore hX [(7, .int 0), (6, .int S0), (0, .ref (ob 0)), (3, .int L3), (4, .int L4), (5, .int L5)] 89 dw_M_alike_87 (by decide) rfl rfl ?_
            refine gx_pick (lv' := [(0, .ref (ob 0)), (3, .int L3), (4, .int L4), (5, .int L5), (6, .int S0), (7, .int 0)]) hX [2, 3, 4, 5, 1, 0] rfl (gx_lpI (fun (f : gx_S → Int32 → Int32 → Int32 → Int32 → Int32 → gx_R) => ∀ (σ13 : gx_S) (L3 : Int32) (L4 : Int32) (L5 : Int32) (L6 : Int32) (L7 : Int32), gx_G (md_V D ob cI cB cS cZ) X (f σ13 L3 L4 L5 L6 L7) σ13 89 [(0, .ref (ob 0)), (3, .int L3), (4, .int L4), (5, .int L5), (6, .int L6), (7, .int L7)] []) (fun _ _ _ _ _ _ => gx_none) (fun again89 ih89 σ13 L3 L4 L5 L6 L7 => ?_) _ σ12 L3 L4 L5 S0 0)
            refine gx_iload hX 5 91 dw_M_alike_89 rfl rfl ?_
            refine gx_iload hX 3 93 dw_M_alike_91 rfl rfl ?_
            refine gx_icmp_ge hX 347 96 dw_M_alike_93 (by decide) rfl (fun _ => ?_) (fun _ => ?_)
            · refine gx_iload hX 4 349 dw_M_alike_347 rfl rfl ?_
              exact gx_retz hX dw_M_alike_349
            · refine gx_iload hX 4 98 dw_M_alike_96 rfl rfl ?_
              refine gx_if_eq hX 347 101 dw_M_alike_98 (by decide) rfl (fun _ => ?_) (fun _ => ?_)
              · refine gx_iload hX 4 349 dw_M_alike_347 rfl rfl ?_
                exact gx_retz hX dw_M_alike_349
              · refine gx_aload_n hX 0 102 dw_M_alike_101 rfl rfl rfl ?_
                refine mg_0 hX 38 105 (by decide) tw_946 rfl dw_M_alike_102 rfl ?_
                refine gx_iload_n hX 1 106 dw_M_alike_105 rfl rfl rfl ?_
                refine gx_iload hX 5 108 dw_M_alike_106 rfl rfl ?_
                refine gx_iadd hX 109 dw_M_alike_108 rfl ?_
                refine gx_iconst hX 1 110 dw_M_alike_109 (by decide) rfl ?_
                refine gx_iadd hX 111 dw_M_alike_110 rfl ?_
                refine gf_iald (u := md_u ob cI cB cS cZ) hX 28 29 0 112 (show 28 < 52 by decide) rfl rfl dw_M_alike_111 rfl (fun r14 => ?_)
                refine gx_aload_n hX 0 113 dw_M_alike_112 rfl rfl rfl ?_
                refine mg_0 hX 38 116 (by decide) tw_946 rfl dw_M_alike_113 rfl ?_
                refine gx_iload_n hX 1 117 dw_M_alike_116 rfl rfl rfl ?_
                refine gx_iload hX 5 119 dw_M_alike_117 rfl rfl ?_
                refine gx_iadd hX 120 dw_M_alike_119 rfl ?_
                refine gf_iald (u := md_u ob cI cB cS cZ) hX 28 29 0 121 (show 28 < 52 by decide) rfl rfl dw_M_alike_120 rfl (fun r15 => ?_)
                refine gx_isub hX 122 dw_M_alike_121 rfl ?_
                refine gx_bvN (fun x16 => ?_)
                refine gx_istore hX [(8, .int x16), (0, .ref (ob 0)), (3, .int L3), (4, .int L4), (5, .int L5), (6, .int L6), (7, .int L7)] 124 dw_M_alike_122 (by decide) rfl rfl ?_
                refine gx_aload_n hX 1 125 dw_M_alike_124 rfl rfl rfl ?_
                refine mg_0 hX 36 128 (by decide) tw_944 rfl dw_M_alike_125 rfl ?_
                refine gx_iload_n hX 2 129 dw_M_alike_128 rfl rfl rfl ?_
                refine gx_iload hX 6 131 dw_M_alike_129 rfl rfl ?_
                refine gx_iadd hX 132 dw_M_alike_131 rfl ?_
                refine gf_bald (u := md_u ob cI cB cS cZ) hX 26 27 1 133 (show 26 < 52 by decide) rfl rfl dw_M_alike_132 rfl (fun r17 => ?_)
                refine gx_aload_n hX 1 134 dw_M_alike_133 rfl rfl rfl ?_
                refine mg_0 hX 36 137 (by decide) tw_944 rfl dw_M_alike_134 rfl ?_
                refine gx_iload hX 3 139 dw_M_alike_137 rfl rfl ?_
                refine gx_iload hX 6 141 dw_M_alike_139 rfl rfl ?_
                refine gx_iadd hX 142 dw_M_alike_141 rfl ?_
                refine gf_bald (u := md_u ob cI cB cS cZ) hX 26 27 1 143 (show 26 < 52 by decide) rfl rfl dw_M_alike_142 rfl (fun r18 => ?_)
                refine gx_jnI (fun (j : gx_S → Int32 → Int32 → Int32 → Int32 → Int32 → Int32 → gx_R) => ∀ (σ19 : gx_S) (L3 : Int32) (L4 : Int32) (L5 : Int32) (L7 : Int32) (L8 : Int32) (S0 : Int32), gx_G (md_V D ob cI cB cS cZ) X (j σ19 L3 L4 L5 L7 L8 S0) σ19 235 [(0, .ref (ob 0)), (3, .int L3), (4, .int L4), (5, .int L5), (7, .int L7), (8, .int L8)] [.int S0]) (fun σ19 L3 L4 L5 L7 L8 S0 => ?_) (fun j235 h235 => ?_)
                · refine gx_istore hX [(6, .int S0), (0, .ref (ob 0)), (3, .int L3), (4, .int L4), (5, .int L5), (7, .int L7), (8, .int L8)] 237 dw_M_alike_235 (by decide) rfl rfl ?_
                  refine gx_iconst hX 0 238 dw_M_alike_237 (by decide) rfl ?_
                  refine gx_istore hX [(9, .int 0), (6, .int S0), (0, .ref (ob 0)), (3, .int L3), (4, .int L4), (5, .int L5), (7, .int L7), (8, .int L8)] 240 dw_M_alike_238 (by decide) rfl rfl ?_
                  refine gx_jnI (fun (j : gx_S → Int32 → Int32 → Int32 → Int32 → Int32 → gx_R) => ∀ (σ20 : gx_S) (L3 : Int32) (L4 : Int32) (L5 : Int32) (L6 : Int32) (L7 : Int32), gx_G (md_V D ob cI cB cS cZ) X (j σ20 L3 L4 L5 L6 L7) σ20 341 [(0, .ref (ob 0)), (3, .int L3), (4, .int L4), (5, .int L5), (6, .int L6), (7, .int L7)] []) (fun σ20 L3 L4 L5 L6 L7 => ?_) (fun j341 h341 => ?_)
                  · refine gx_iincN hX (q := 5) (fun x21 => [(7, .int x21), (0, .ref (ob 0)), (3, .int L3), (4, .int L4), (5, .int L5), (6, .int L6)]) 344 dw_M_alike_341 rfl rfl (by decide) (fun _ => rfl) rfl (fun x21 => ?_)
                    refine gx_goto hX 89 dw_M_alike_344 (by decide) ?_
                    exact gx_pick (lv' := [(0, .ref (ob 0)), (3, .int L3), (4, .int L4), (5, .int L5), (6, .int L6), (7, .int x21)]) hX [1, 2, 3, 4, 5, 0] rfl (ih89 σ20 L3 L4 L5 L6 x21)
                  refine gx_pick (lv' := [(0, .ref (ob 0)), (3, .int L3), (4, .int L4), (5, .int L5), (6, .int S0), (7, .int L7), (8, .int L8), (9, .int 0)]) hX [2, 3, 4, 5, 1, 6, 7, 0] rfl (gx_lpI (fun (f : gx_S → Int32 → Int32 → Int32 → Int32 → Int32 → Int32 → Int32 → gx_R) => ∀ (σ22 : gx_S) (L3 : Int32) (L4 : Int32) (L5 : Int32) (L6 : Int32) (L7 : Int32) (L8 : Int32) (L9 : Int32), gx_G (md_V D ob cI cB cS cZ) X (f σ22 L3 L4 L5 L6 L7 L8 L9) σ22 240 [(0, .ref (ob 0)), (3, .int L3), (4, .int L4), (5, .int L5), (6, .int L6), (7, .int L7), (8, .int L8), (9, .int L9)] []) (fun _ _ _ _ _ _ _ _ => gx_none) (fun again240 ih240 σ22 L3 L4 L5 L6 L7 L8 L9 => ?_) _ σ19 L3 L4 L5 S0 L7 L8 0)
                  refine gx_iload hX 7 242 dw_M_alike_240 rfl rfl ?_
                  refine gx_iload hX 6 244 dw_M_alike_242 rfl rfl ?_
                  refine gx_icmp_ge hX 341 247 dw_M_alike_244 (by decide) rfl (fun _ => ?_) (fun _ => ?_)
                  · exact gx_pick (lv' := [(0, .ref (ob 0)), (3, .int L3), (4, .int L4), (5, .int L5), (6, .int L6), (7, .int L7)]) hX [0, 1, 2, 3, 4, 5] rfl (h341 σ22 L3 L4 L5 L6 L7)
                  · refine gx_iload hX 4 249 dw_M_alike_247 rfl rfl ?_
                    refine gx_if_eq hX 341 252 dw_M_alike_249 (by decide) rfl (fun _ => ?_) (fun _ => ?_)
                    · exact gx_pick (lv' := [(0, .ref (ob 0)), (3, .int L3), (4, .int L4), (5, .int L5), (6, .int L6), (7, .int L7)]) hX [0, 1, 2, 3, 4, 5] rfl (h341 σ22 L3 L4 L5 L6 L7)
                    · refine gx_aload_n hX 0 253 dw_M_alike_252 rfl rfl rfl ?_
                      refine mg_0 hX 41 256 (by decide) tw_949 rfl dw_M_alike_253 rfl ?_
                      refine gx_aload_n hX 0 257 dw_M_alike_256 rfl rfl rfl ?_
                      refine mg_0 hX 38 260 (by decide) tw_946 rfl dw_M_alike_257 rfl ?_
                      refine gx_iload_n hX 1 261 dw_M_alike_260 rfl rfl rfl ?_
                      refine gx_iload hX 5 263 dw_M_alike_261 rfl rfl ?_
                      refine gx_iadd hX 264 dw_M_alike_263 rfl ?_
                      refine gf_iald (u := md_u ob cI cB cS cZ) hX 28 29 0 265 (show 28 < 52 by decide) rfl rfl dw_M_alike_264 rfl (fun r23 => ?_)
                      refine gx_iload hX 7 267 dw_M_alike_265 rfl rfl ?_
                      refine gx_iadd hX 268 dw_M_alike_267 rfl ?_
                      refine gf_sald (u := md_u ob cI cB cS cZ) hX 30 31 2 269 (show 30 < 52 by decide) rfl rfl dw_M_alike_268 rfl (fun r24 => ?_)
                      refine gx_aload_n hX 0 270 dw_M_alike_269 rfl rfl rfl ?_
                      refine mg_0 hX 41 273 (by decide) tw_949 rfl dw_M_alike_270 rfl ?_
                      refine gx_aload_n hX 0 274 dw_M_alike_273 rfl rfl rfl ?_
                      refine mg_0 hX 38 277 (by decide) tw_946 rfl dw_M_alike_274 rfl ?_
                      refine gx_iload hX 2 279 dw_M_alike_277 rfl rfl ?_
                      refine gx_iload hX 5 281 dw_M_alike_279 rfl rfl ?_
                      refine gx_iadd hX 282 dw_M_alike_281 rfl ?_
                      refine gf_iald (u := md_u ob cI cB cS cZ) hX 28 29 0 283 (show 28 < 52 by decide) rfl rfl dw_M_alike_282 rfl (fun r25 => ?_)
                      refine gx_iload hX 7 285 dw_M_alike_283 rfl rfl ?_
                      refine gx_iadd hX 286 dw_M_alike_285 rfl ?_
                      refine gf_sald (u := md_u ob cI cB cS cZ) hX 30 31 2 287 (show 30 < 52 by decide) rfl rfl dw_M_alike_286 rfl (fun r26 => ?_)
                      refine gx_jnI (fun (j : gx_S → Int32 → Int32 → Int32 → Int32 → Int32 → Int32 → Int32 → gx_R) => ∀ (σ27 : gx_S) (L3 : Int32) (L4 : Int32) (L5 : Int32) (L7 : Int32) (L8 : Int32) (L9 : Int32) (S0 : Int32), gx_G (md_V D ob cI cB cS cZ) X (j σ27 L3 L4 L5 L7 L8 L9 S0) σ27 333 [(0, .ref (ob 0)), (3, .int L3), (4, .int L4), (5, .int L5), (7, .int L7), (8, .int L8), (9, .int L9)] [.int S0]) (fun σ27 L3 L4 L5 L7 L8 L9 S0 => ?_) (fun j333 h333 => ?_)
                      · refine gx_istore hX [(6, .int S0), (0, .ref (ob 0)), (3, .int L3), (4, .int L4), (5, .int L5), (7, .int L7), (8, .int L8), (9, .int L9)] 335 dw_M_alike_333 (by decide) rfl rfl ?_
                        refine gx_iincN hX (q := 7) (fun x28 => [(9, .int x28), (6, .int S0), (0, .ref (ob 0)), (3, .int L3), (4, .int L4), (5, .int L5), (7, .int L7), (8, .int L8)]) 338 dw_M_alike_335 rfl rfl (by decide) (fun _ => rfl) rfl (fun x28 => ?_)
                        refine gx_goto hX 240 dw_M_alike_338 (by decide) ?_
                        exact gx_pick (lv' := [(0, .ref (ob 0)), (3, .int L3), (4, .int L4), (5, .int L5), (6, .int S0), (7, .int L7), (8, .int L8), (9, .int x28)]) hX [2, 3, 4, 5, 1, 6, 7, 0] rfl (ih240 σ27 L3 L4 L5 S0 L7 L8 x28)
                      refine gx_jnI (fun (j : gx_S → Int32 → Int32 → Int32 → Int32 → Int32 → Int32 → gx_R) => ∀ (σ29 : gx_S) (L3 : Int32) (L4 : Int32) (L5 : Int32) (L7 : Int32) (L8 : Int32) (L9 : Int32), gx_G (md_V D ob cI cB cS cZ) X (j σ29 L3 L4 L5 L7 L8 L9) σ29 332 [(0, .ref (ob 0)), (3, .int L3), (4, .int L4), (5, .int L5), (7, .int L7), (8, .int L8), (9, .int L9)] []) (fun σ29 L3 L4 L5 L7 L8 L9 => ?_) (fun j332 h332 => ?_)
                      · refine gx_iconst hX 0 333 dw_M_alike_332 (by decide) rfl ?_
                        exact gx_pick (lv' := [(0, .ref (ob 0)), (3, .int L3), (4, .int L4), (5, .int L5), (7, .int L7), (8, .int L8), (9, .int L9)]) hX [0, 1, 2, 3, 4, 5, 6] rfl (h333 σ29 L3 L4 L5 L7 L8 L9 0)
                      refine gx_icmp_ne hX 332 290 dw_M_alike_287 (by decide) rfl (fun _ => ?_) (fun _ => ?_)
                      · exact gx_pick (lv' := [(0, .ref (ob 0)), (3, .int L3), (4, .int L4), (5, .int L5), (7, .int L7), (8, .int L8), (9, .int L9)]) hX [0, 1, 2, 3, 5, 6, 7] rfl (h332 σ22 L3 L4 L5 L7 L8 L9)
                      · refine gx_aload_n hX 0 291 dw_M_alike_290 rfl rfl rfl ?_
                        refine mg_0 hX 42 294 (by decide) tw_950 rfl dw_M_alike_291 rfl ?_
                        refine gx_aload_n hX 0 295 dw_M_alike_294 rfl rfl rfl ?_
                        refine mg_0 hX 38 298 (by decide) tw_946 rfl dw_M_alike_295 rfl ?_
                        refine gx_iload_n hX 1 299 dw_M_alike_298 rfl rfl rfl ?_
                        refine gx_iload hX 5 301 dw_M_alike_299 rfl rfl ?_
                        refine gx_iadd hX 302 dw_M_alike_301 rfl ?_
                        refine gf_iald (u := md_u ob cI cB cS cZ) hX 28 29 0 303 (show 28 < 52 by decide) rfl rfl dw_M_alike_302 rfl (fun r30 => ?_)
                        refine gx_iload hX 7 305 dw_M_alike_303 rfl rfl ?_
                        refine gx_iadd hX 306 dw_M_alike_305 rfl ?_
                        refine gf_sald (u := md_u ob cI cB cS cZ) hX 31 32 2 307 (show 31 < 52 by decide) rfl rfl dw_M_alike_306 rfl (fun r31 => ?_)
                        refine gx_aload_n hX 0 308 dw_M_alike_307 rfl rfl rfl ?_
                        refine mg_0 hX 42 311 (by decide) tw_950 rfl dw_M_alike_308 rfl ?_
                        refine gx_aload_n hX 0 312 dw_M_alike_311 rfl rfl rfl ?_
                        refine mg_0 hX 38 315 (by decide) tw_946 rfl dw_M_alike_312 rfl ?_
                        refine gx_iload hX 2 317 dw_M_alike_315 rfl rfl ?_
                        refine gx_iload hX 5 319 dw_M_alike_317 rfl rfl ?_
                        refine gx_iadd hX 320 dw_M_alike_319 rfl ?_
                        refine gf_iald (u := md_u ob cI cB cS cZ) hX 28 29 0 321 (show 28 < 52 by decide) rfl rfl dw_M_alike_320 rfl (fun r32 => ?_)
                        refine gx_iload hX 7 323 dw_M_alike_321 rfl rfl ?_
                        refine gx_iadd hX 324 dw_M_alike_323 rfl ?_
                        refine gf_sald (u := md_u ob cI cB cS cZ) hX 31 32 2 325 (show 31 < 52 by decide) rfl rfl dw_M_alike_324 rfl (fun r33 => ?_)
                        refine gx_icmp_ne hX 332 328 dw_M_alike_325 (by decide) rfl (fun _ => ?_) (fun _ => ?_)
                        · exact gx_pick (lv' := [(0, .ref (ob 0)), (3, .int L3), (4, .int L4), (5, .int L5), (7, .int L7), (8, .int L8), (9, .int L9)]) hX [0, 1, 2, 3, 5, 6, 7] rfl (h332 σ22 L3 L4 L5 L7 L8 L9)
                        · refine gx_iconst hX 1 329 dw_M_alike_328 (by decide) rfl ?_
                          refine gx_goto hX 333 dw_M_alike_329 (by decide) ?_
                          exact gx_pick (lv' := [(0, .ref (ob 0)), (3, .int L3), (4, .int L4), (5, .int L5), (7, .int L7), (8, .int L8), (9, .int L9)]) hX [0, 1, 2, 3, 5, 6, 7] rfl (h333 σ22 L3 L4 L5 L7 L8 L9 1)
                refine gx_jnI (fun (j : gx_S → Int32 → Int32 → Int32 → Int32 → Int32 → gx_R) => ∀ (σ34 : gx_S) (L3 : Int32) (L4 : Int32) (L5 : Int32) (L7 : Int32) (L8 : Int32), gx_G (md_V D ob cI cB cS cZ) X (j σ34 L3 L4 L5 L7 L8) σ34 234 [(0, .ref (ob 0)), (3, .int L3), (4, .int L4), (5, .int L5), (7, .int L7), (8, .int L8)] []) (fun σ34 L3 L4 L5 L7 L8 => ?_) (fun j234 h234 => ?_)
                · refine gx_iconst hX 0 235 dw_M_alike_234 (by decide) rfl ?_
                  exact gx_pick (lv' := [(0, .ref (ob 0)), (3, .int L3), (4, .int L4), (5, .int L5), (7, .int L7), (8, .int L8)]) hX [0, 1, 2, 3, 4, 5] rfl (h235 σ34 L3 L4 L5 L7 L8 0)
                refine gx_icmp_ne hX 234 146 dw_M_alike_143 (by decide) rfl (fun _ => ?_) (fun _ => ?_)
                · exact gx_pick (lv' := [(0, .ref (ob 0)), (3, .int L3), (4, .int L4), (5, .int L5), (7, .int L7), (8, .int x16)]) hX [1, 2, 3, 4, 6, 0] rfl (h234 σ13 L3 L4 L5 L7 x16)
                · refine gx_aload_n hX 1 147 dw_M_alike_146 rfl rfl rfl ?_
                  refine mg_0 hX 37 150 (by decide) tw_945 rfl dw_M_alike_147 rfl ?_
                  refine gx_iload_n hX 2 151 dw_M_alike_150 rfl rfl rfl ?_
                  refine gx_iload hX 6 153 dw_M_alike_151 rfl rfl ?_
                  refine gx_iadd hX 154 dw_M_alike_153 rfl ?_
                  refine gf_iald (u := md_u ob cI cB cS cZ) hX 27 28 0 155 (show 27 < 52 by decide) rfl rfl dw_M_alike_154 rfl (fun r35 => ?_)
                  refine gx_aload_n hX 1 156 dw_M_alike_155 rfl rfl rfl ?_
                  refine mg_0 hX 37 159 (by decide) tw_945 rfl dw_M_alike_156 rfl ?_
                  refine gx_iload hX 3 161 dw_M_alike_159 rfl rfl ?_
                  refine gx_iload hX 6 163 dw_M_alike_161 rfl rfl ?_
                  refine gx_iadd hX 164 dw_M_alike_163 rfl ?_
                  refine gf_iald (u := md_u ob cI cB cS cZ) hX 27 28 0 165 (show 27 < 52 by decide) rfl rfl dw_M_alike_164 rfl (fun r36 => ?_)
                  refine gx_icmp_ne hX 234 168 dw_M_alike_165 (by decide) rfl (fun _ => ?_) (fun _ => ?_)
                  · exact gx_pick (lv' := [(0, .ref (ob 0)), (3, .int L3), (4, .int L4), (5, .int L5), (7, .int L7), (8, .int x16)]) hX [1, 2, 3, 4, 6, 0] rfl (h234 σ13 L3 L4 L5 L7 x16)
                  · refine gx_aload_n hX 1 169 dw_M_alike_168 rfl rfl rfl ?_
                    refine mg_0 hX 38 172 (by decide) tw_946 rfl dw_M_alike_169 rfl ?_
                    refine gx_iload hX 3 174 dw_M_alike_172 rfl rfl ?_
                    refine gx_iload hX 6 176 dw_M_alike_174 rfl rfl ?_
                    refine gx_iadd hX 177 dw_M_alike_176 rfl ?_
                    refine gx_iconst hX 1 178 dw_M_alike_177 (by decide) rfl ?_
                    refine gx_iadd hX 179 dw_M_alike_178 rfl ?_
                    refine gf_iald (u := md_u ob cI cB cS cZ) hX 28 29 0 180 (show 28 < 52 by decide) rfl rfl dw_M_alike_179 rfl (fun r37 => ?_)
                    refine gx_aload_n hX 1 181 dw_M_alike_180 rfl rfl rfl ?_
                    refine mg_0 hX 38 184 (by decide) tw_946 rfl dw_M_alike_181 rfl ?_
                    refine gx_iload hX 3 186 dw_M_alike_184 rfl rfl ?_
                    refine gx_iload hX 6 188 dw_M_alike_186 rfl rfl ?_
                    refine gx_iadd hX 189 dw_M_alike_188 rfl ?_
                    refine gf_iald (u := md_u ob cI cB cS cZ) hX 28 29 0 190 (show 28 < 52 by decide) rfl rfl dw_M_alike_189 rfl (fun r38 => ?_)
                    refine gx_isub hX 191 dw_M_alike_190 rfl ?_
                    refine gx_iload hX 0 193 dw_M_alike_191 rfl rfl ?_
                    refine gx_icmp_ne hX 234 196 dw_M_alike_193 (by decide) rfl (fun _ => ?_) (fun _ => ?_)
                    · exact gx_pick (lv' := [(0, .ref (ob 0)), (3, .int L3), (4, .int L4), (5, .int L5), (7, .int L7), (8, .int x16)]) hX [1, 2, 3, 4, 6, 0] rfl (h234 σ13 L3 L4 L5 L7 x16)
                    · refine gx_aload_n hX 1 197 dw_M_alike_196 rfl rfl rfl ?_
                      refine mg_0 hX 36 200 (by decide) tw_944 rfl dw_M_alike_197 rfl ?_
                      refine gx_iload_n hX 2 201 dw_M_alike_200 rfl rfl rfl ?_
                      refine gx_iload hX 6 203 dw_M_alike_201 rfl rfl ?_
                      refine gx_iadd hX 204 dw_M_alike_203 rfl ?_
                      refine gf_bald (u := md_u ob cI cB cS cZ) hX 26 27 1 205 (show 26 < 52 by decide) rfl rfl dw_M_alike_204 rfl (fun r39 => ?_)
                      refine gx_jnI (fun (j : gx_S → Int32 → Int32 → Int32 → Int32 → Int32 → gx_R) => ∀ (σ40 : gx_S) (L3 : Int32) (L4 : Int32) (L5 : Int32) (L7 : Int32) (L8 : Int32), gx_G (md_V D ob cI cB cS cZ) X (j σ40 L3 L4 L5 L7 L8) σ40 230 [(0, .ref (ob 0)), (3, .int L3), (4, .int L4), (5, .int L5), (7, .int L7), (8, .int L8)] []) (fun σ40 L3 L4 L5 L7 L8 => ?_) (fun j230 h230 => ?_)
                      · refine gx_iconst hX 1 231 dw_M_alike_230 (by decide) rfl ?_
                        refine gx_goto hX 235 dw_M_alike_231 (by decide) ?_
                        exact gx_pick (lv' := [(0, .ref (ob 0)), (3, .int L3), (4, .int L4), (5, .int L5), (7, .int L7), (8, .int L8)]) hX [0, 1, 2, 3, 4, 5] rfl (h235 σ40 L3 L4 L5 L7 L8 1)
                      refine gx_if_ne hX 230 208 dw_M_alike_205 (by decide) rfl (fun _ => ?_) (fun _ => ?_)
                      · exact gx_pick (lv' := [(0, .ref (ob 0)), (3, .int L3), (4, .int L4), (5, .int L5), (7, .int L7), (8, .int x16)]) hX [1, 2, 3, 4, 6, 0] rfl (h230 σ13 L3 L4 L5 L7 x16)
                      · refine gx_aload_n hX 1 209 dw_M_alike_208 rfl rfl rfl ?_
                        refine mg_0 hX 72 212 (by decide) tw_980 rfl dw_M_alike_209 rfl ?_
                        refine gx_iload_n hX 2 213 dw_M_alike_212 rfl rfl rfl ?_
                        refine gx_iload hX 6 215 dw_M_alike_213 rfl rfl ?_
                        refine gx_iadd hX 216 dw_M_alike_215 rfl ?_
                        refine gf_zald (u := md_u ob cI cB cS cZ) hX 51 52 3 217 (show 51 < 52 by decide) rfl rfl dw_M_alike_216 rfl (fun r41 => ?_)
                        refine gx_aload_n hX 1 218 dw_M_alike_217 rfl rfl rfl ?_
                        refine mg_0 hX 72 221 (by decide) tw_980 rfl dw_M_alike_218 rfl ?_
                        refine gx_iload hX 3 223 dw_M_alike_221 rfl rfl ?_
                        refine gx_iload hX 6 225 dw_M_alike_223 rfl rfl ?_
                        refine gx_iadd hX 226 dw_M_alike_225 rfl ?_
                        refine gf_zald (u := md_u ob cI cB cS cZ) hX 51 52 3 227 (show 51 < 52 by decide) rfl rfl dw_M_alike_226 rfl (fun r42 => ?_)
                        refine gx_icmp_ne hX 234 230 dw_M_alike_227 (by decide) rfl (fun _ => ?_) (fun _ => ?_)
                        · exact gx_pick (lv' := [(0, .ref (ob 0)), (3, .int L3), (4, .int L4), (5, .int L5), (7, .int L7), (8, .int x16)]) hX [1, 2, 3, 4, 6, 0] rfl (h234 σ13 L3 L4 L5 L7 x16)
                        · exact gx_pick (lv' := [(0, .ref (ob 0)), (3, .int L3), (4, .int L4), (5, .int L5), (7, .int L7), (8, .int x16)]) hX [1, 2, 3, 4, 6, 0] rfl (h230 σ13 L3 L4 L5 L7 x16)
          refine gx_icmp_ne hX 83 79 dw_M_alike_76 (by decide) rfl (fun _ => ?_) (fun _ => ?_)
          · refine gx_iconst hX 0 84 dw_M_alike_83 (by decide) rfl ?_
            exact gx_pick (lv' := [(0, .ref (ob 0)), (3, .int r7), (4, .int r8), (5, .int x10)]) hX [3, 2, 1, 0] rfl (h84 σ3 r7 r8 x10 0)
          · refine gx_iconst hX 1 80 dw_M_alike_79 (by decide) rfl ?_
            refine gx_goto hX 84 dw_M_alike_80 (by decide) ?_
            exact gx_pick (lv' := [(0, .ref (ob 0)), (3, .int r7), (4, .int r8), (5, .int x10)]) hX [3, 2, 1, 0] rfl (h84 σ3 r7 r8 x10 1)
        · refine gx_iconst hX 0 35 dw_M_alike_34 (by decide) rfl ?_
          exact gx_retz hX dw_M_alike_35
def my_M_alike : MethodName := ⟨"TypeLoomModel", "alike", "(II)Z"⟩
theorem hy_M_alike : (my_M_alike.cls ≠ "java/lang/invoke/MethodHandle" ∧ my_M_alike.cls ≠ "java/lang/invoke/VarHandle") ∧ (parseMethodDescriptor my_M_alike.desc).map (fun d => d.parameters.length) = some 2 := by decide +kernel
theorem tm_M_alike {D : va_G} {ob : Nat → Nat} {cI cB cS cZ : ClassId} (l : Launch) (σ : gx_S) (L1 : Int32) (L2 : Int32) : gx_C l (md_V D ob cI cB cS cZ) my_M_alike prog_11_method_58_code 10 (some .boolean) 1 21 [.ref (ob 0), .int L1, .int L2] σ (km_M_alike σ L1 L2) := gx_met (by decide) rfl (Nat.le_of_ble_eq_true rfl) rfl (fun X _ hX => tl_M_alike hX σ L1 L2)
theorem tr_M_alike {D : va_G} {ob : Nat → Nat} {cI cB cS cZ : ClassId} {X : gx_X} {cc : ByteArray} {own : String} {nL fr lo : Nat} {rt : Option FieldType} {σ : gx_S} {pc : Nat} {lv : List (Nat × Value)} {st : List Value} (hX : gx_K (md_V D ob cI cB cS cZ) X cc own nL fr lo rt) {idx : Nat} {L1 : Int32} {L2 : Int32} {k : gx_S → Int32 → gx_R} (n : Nat) (hlink : Cond.methodLink own idx ({ cls := "TypeLoomModel", name := "alike", desc := "(II)Z" } : Jvm.MethodName) ∈ gx_T) (hroom : 1 + 1 ≤ fr ∧ 8 + (10 + 11) + 21 ≤ lo) (hst : (st.map fun v => v.category).sum ≤ 8) (hd : decode cc pc = .ok (.invokevirtual idx, 3)) (hn : pc + 3 = n) (kk : ∀ σ' r, gx_G (md_V D ob cI cB cS cZ) X (k σ' r) σ' n lv (.int r :: st)) : gx_G (md_V D ob cI cB cS cZ) X (gx_bd (km_M_alike σ L1 L2) k) σ pc lv (.int L2 :: .int L1 :: .ref (ob 0) :: st) :=
  gx_callI hX [.int L1, .int L2] n rfl (tm_M_alike _ σ L1 L2) hy_M_alike tw_1360 hlink tw_1358 tw_1359 tw_79 (gf_recv 0 (show 0 < 1 by decide) rfl rfl) hroom hst hd hn rfl (fun σ' r _ => kk σ' r)
def km_M_clear (σ : gx_S) (L1 : Int32) (L2 : Int32) : gx_R :=
  gx_jn (fun (σ1 : gx_S) (L1 : Int32) (L2 : Int32) (S0 : Int32) =>
    gx_jn (fun (σ2 : gx_S) (L1 : Int32) (L2 : Int32) (L3 : Int32) =>
      if L3 = 0 then
        gx_rz σ2 0
      else
        gx_sb (gx_si σ2 0 L1) (fun σ3 =>
        gx_sb (gx_si σ3 8 L2) (fun σ4 =>
        gx_ld σ4 22 2049 L2 (fun r5 =>
        gx_sb (gx_si σ4 9 r5) (fun σ6 =>
        gx_ld σ6 28 16386 ((σ6.1 9)) (fun r7 =>
        gx_sb (gx_si σ6 10 r7) (fun σ8 =>
        gx_sb (gx_si σ8 1 0) (fun σ9 =>
        gx_sb (gx_si σ9 2 0) (fun σ10 =>
        gx_sb (gx_si σ10 3 0) (fun σ11 =>
        gx_sb (gx_si σ11 4 0) (fun σ12 =>
        gx_sb (gx_si σ12 5 0) (fun σ13 =>
        gx_sb (gx_si σ13 6 0) (fun σ14 =>
        gx_sb (gx_si σ14 7 0) (fun σ15 =>
        gx_rz σ15 1)))))))))))))) (fun j118 =>
    gx_lp (α := gx_S → Int32 → Int32 → Int32 → Int32 → gx_R) (fun _ _ _ _ _ => none) (fun again33 (σ16 : gx_S) (L1 : Int32) (L2 : Int32) (L3 : Int32) (L4 : Int32) =>
      if L2 ≤ L4 then
      j118 σ16 L1 L2 L3
    else
      if L3 = 0 then
        j118 σ16 L1 L2 L3
      else
        gx_ld σ16 25 2048 L4 (fun r17 =>
        gx_ld σ16 22 2049 L4 (fun r18 =>
        gx_jn (fun (σ19 : gx_S) (L1 : Int32) (L2 : Int32) (L3 : Int32) (L4 : Int32) =>
          gx_bv (L4 + 1) (fun x20 =>
          again33 σ19 L1 L2 L3 x20)) (fun j112 =>
        gx_lp (α := gx_S → Int32 → Int32 → Int32 → Int32 → Int32 → gx_R) (fun _ _ _ _ _ _ => none) (fun again60 (σ21 : gx_S) (L1 : Int32) (L2 : Int32) (L3 : Int32) (L4 : Int32) (L5 : Int32) =>
          gx_ld σ21 22 2049 ((L4 + 1)) (fun r22 =>
        if r22 ≤ L5 then
          j112 σ21 L1 L2 L3 L4
        else
          gx_jn (fun (σ23 : gx_S) (L1 : Int32) (L2 : Int32) (L4 : Int32) (L5 : Int32) (S0 : Int32) =>
            gx_bv (L5 + 1) (fun x24 =>
            again60 σ23 L1 L2 S0 L4 x24)) (fun j105 =>
          gx_jn (fun (σ25 : gx_S) (L1 : Int32) (L2 : Int32) (L4 : Int32) (L5 : Int32) =>
            j105 σ25 L1 L2 L4 L5 0) (fun j104 =>
          if L3 = 0 then
            j104 σ21 L1 L2 L4 L5
          else
            gx_ld σ21 26 16386 L5 (fun r26 =>
            gx_jn (fun (σ27 : gx_S) (L1 : Int32) (L2 : Int32) (L4 : Int32) (L5 : Int32) =>
              j105 σ27 L1 L2 L4 L5 1) (fun j100 =>
            if r26 = 2 then
              gx_ld σ21 27 16386 L5 (fun r28 =>
              if L1 ≤ r28 then
                j104 σ21 L1 L2 L4 L5
              else
                j100 σ21 L1 L2 L4 L5)
            else
              j100 σ21 L1 L2 L4 L5)))))) gx_F σ16 L1 L2 r17 L4 r18)))) gx_F σ1 L1 L2 S0 0)) (fun j29 =>
  gx_jn (fun (σ29 : gx_S) (L1 : Int32) (L2 : Int32) =>
    j29 σ29 L1 L2 0) (fun j28 =>
  if L1 < 0 then
    j28 σ L1 L2
  else
    if (σ.1 0) < L1 then
      j28 σ L1 L2
    else
      if L2 < 0 then
        j28 σ L1 L2
      else
        if (σ.1 8) < L2 then
          j28 σ L1 L2
        else
          j29 σ L1 L2 1))
set_option maxRecDepth 100000 in
set_option maxHeartbeats 4000000 in
theorem tl_M_clear {D : va_G} {ob : Nat → Nat} {cI cB cS cZ : ClassId} {X : gx_X} (hX : gx_K (md_V D ob cI cB cS cZ) X prog_11_method_59_code "TypeLoomModel" 6 0 0 (some .boolean)) (σ : gx_S) (L1 : Int32) (L2 : Int32) : gx_G (md_V D ob cI cB cS cZ) X (km_M_clear σ L1 L2) σ 0 [(0, .ref (ob 0)), (1, .int L1), (2, .int L2)] [] := by
  unfold km_M_clear
  refine gx_iload_n hX 1 1 dw_M_clear_0 rfl rfl rfl ?_
  refine gx_jnI (fun (j : gx_S → Int32 → Int32 → Int32 → gx_R) => ∀ (σ1 : gx_S) (L1 : Int32) (L2 : Int32) (S0 : Int32), gx_G (md_V D ob cI cB cS cZ) X (j σ1 L1 L2 S0) σ1 29 [(0, .ref (ob 0)), (1, .int L1), (2, .int L2)] [.int S0]) (fun σ1 L1 L2 S0 => ?_) (fun j29 h29 => ?_)
  · refine gx_istore_n hX [(3, .int S0), (0, .ref (ob 0)), (1, .int L1), (2, .int L2)] 30 dw_M_clear_29 rfl (by decide) rfl rfl ?_
    refine gx_iconst hX 0 31 dw_M_clear_30 (by decide) rfl ?_
    refine gx_istore hX [(4, .int 0), (3, .int S0), (0, .ref (ob 0)), (1, .int L1), (2, .int L2)] 33 dw_M_clear_31 (by decide) rfl rfl ?_
    refine gx_jnI (fun (j : gx_S → Int32 → Int32 → Int32 → gx_R) => ∀ (σ2 : gx_S) (L1 : Int32) (L2 : Int32) (L3 : Int32), gx_G (md_V D ob cI cB cS cZ) X (j σ2 L1 L2 L3) σ2 118 [(0, .ref (ob 0)), (1, .int L1), (2, .int L2), (3, .int L3)] []) (fun σ2 L1 L2 L3 => ?_) (fun j118 h118 => ?_)
    · refine gx_iload_n hX 3 119 dw_M_clear_118 rfl rfl rfl ?_
      refine gx_if_ne hX 124 122 dw_M_clear_119 (by decide) rfl (fun _ => ?_) (fun _ => ?_)
      · refine gx_aload_n hX 0 125 dw_M_clear_124 rfl rfl rfl ?_
        refine gx_iload_n hX 1 126 dw_M_clear_125 rfl rfl rfl ?_
        refine mp_0 hX 129 tw_908 dw_M_clear_126 rfl (fun σ3 => ?_)
        refine gx_aload_n hX 0 130 dw_M_clear_129 rfl rfl rfl ?_
        refine gx_iload_n hX 2 131 dw_M_clear_130 rfl rfl rfl ?_
        refine mp_8 hX 134 tw_938 dw_M_clear_131 rfl (fun σ4 => ?_)
        refine gx_aload_n hX 0 135 dw_M_clear_134 rfl rfl rfl ?_
        refine gx_aload_n hX 0 136 dw_M_clear_135 rfl rfl rfl ?_
        refine mg_0 hX 31 139 (by decide) tw_939 rfl dw_M_clear_136 rfl ?_
        refine gx_iload_n hX 2 140 dw_M_clear_139 rfl rfl rfl ?_
        refine gf_iald (u := md_u ob cI cB cS cZ) hX 22 23 0 141 (show 22 < 52 by decide) rfl rfl dw_M_clear_140 rfl (fun r5 => ?_)
        refine mp_9 hX 144 tw_943 dw_M_clear_141 rfl (fun σ6 => ?_)
        refine gx_aload_n hX 0 145 dw_M_clear_144 rfl rfl rfl ?_
        refine gx_aload_n hX 0 146 dw_M_clear_145 rfl rfl rfl ?_
        refine mg_0 hX 38 149 (by decide) tw_946 rfl dw_M_clear_146 rfl ?_
        refine gx_aload_n hX 0 150 dw_M_clear_149 rfl rfl rfl ?_
        refine mg_0 hX 35 153 (by decide) tw_943 rfl dw_M_clear_150 rfl ?_
        refine gf_iald (u := md_u ob cI cB cS cZ) hX 28 29 0 154 (show 28 < 52 by decide) rfl rfl dw_M_clear_153 rfl (fun r7 => ?_)
        refine mp_10 hX 157 tw_948 dw_M_clear_154 rfl (fun σ8 => ?_)
        refine gx_aload_n hX 0 158 dw_M_clear_157 rfl rfl rfl ?_
        refine gx_iconst hX 0 159 dw_M_clear_158 (by decide) rfl ?_
        refine mp_1 hX 162 tw_911 dw_M_clear_159 rfl (fun σ9 => ?_)
        refine gx_aload_n hX 0 163 dw_M_clear_162 rfl rfl rfl ?_
        refine gx_iconst hX 0 164 dw_M_clear_163 (by decide) rfl ?_
        refine mp_2 hX 167 tw_921 dw_M_clear_164 rfl (fun σ10 => ?_)
        refine gx_aload_n hX 0 168 dw_M_clear_167 rfl rfl rfl ?_
        refine gx_iconst hX 0 169 dw_M_clear_168 (by decide) rfl ?_
        refine mp_3 hX 172 tw_924 dw_M_clear_169 rfl (fun σ11 => ?_)
        refine gx_aload_n hX 0 173 dw_M_clear_172 rfl rfl rfl ?_
        refine gx_iconst hX 0 174 dw_M_clear_173 (by decide) rfl ?_
        refine mp_4 hX 177 tw_925 dw_M_clear_174 rfl (fun σ12 => ?_)
        refine gx_aload_n hX 0 178 dw_M_clear_177 rfl rfl rfl ?_
        refine gx_iconst hX 0 179 dw_M_clear_178 (by decide) rfl ?_
        refine mp_5 hX 182 tw_931 dw_M_clear_179 rfl (fun σ13 => ?_)
        refine gx_aload_n hX 0 183 dw_M_clear_182 rfl rfl rfl ?_
        refine gx_iconst hX 0 184 dw_M_clear_183 (by decide) rfl ?_
        refine mp_6 hX 187 tw_934 dw_M_clear_184 rfl (fun σ14 => ?_)
        refine gx_aload_n hX 0 188 dw_M_clear_187 rfl rfl rfl ?_
        refine gx_iconst hX 0 189 dw_M_clear_188 (by decide) rfl ?_
        refine mp_7 hX 192 tw_937 dw_M_clear_189 rfl (fun σ15 => ?_)
        refine gx_iconst hX 1 193 dw_M_clear_192 (by decide) rfl ?_
        exact gx_retz hX dw_M_clear_193
      · refine gx_iconst hX 0 123 dw_M_clear_122 (by decide) rfl ?_
        exact gx_retz hX dw_M_clear_123
    refine gx_pick (lv' := [(0, .ref (ob 0)), (1, .int L1), (2, .int L2), (3, .int S0), (4, .int 0)]) hX [2, 3, 4, 1, 0] rfl (gx_lpI (fun (f : gx_S → Int32 → Int32 → Int32 → Int32 → gx_R) => ∀ (σ16 : gx_S) (L1 : Int32) (L2 : Int32) (L3 : Int32) (L4 : Int32), gx_G (md_V D ob cI cB cS cZ) X (f σ16 L1 L2 L3 L4) σ16 33 [(0, .ref (ob 0)), (1, .int L1), (2, .int L2), (3, .int L3), (4, .int L4)] []) (fun _ _ _ _ _ => gx_none) (fun again33 ih33 σ16 L1 L2 L3 L4 => ?_) _ σ1 L1 L2 S0 0)
    refine gx_iload hX 4 35 dw_M_clear_33 rfl rfl ?_
    refine gx_iload_n hX 2 36 dw_M_clear_35 rfl rfl rfl ?_
    refine gx_icmp_ge hX 118 39 dw_M_clear_36 (by decide) rfl (fun _ => ?_) (fun _ => ?_)
    · exact gx_pick (lv' := [(0, .ref (ob 0)), (1, .int L1), (2, .int L2), (3, .int L3)]) hX [0, 1, 2, 3] rfl (h118 σ16 L1 L2 L3)
    · refine gx_iload_n hX 3 40 dw_M_clear_39 rfl rfl rfl ?_
      refine gx_if_eq hX 118 43 dw_M_clear_40 (by decide) rfl (fun _ => ?_) (fun _ => ?_)
      · exact gx_pick (lv' := [(0, .ref (ob 0)), (1, .int L1), (2, .int L2), (3, .int L3)]) hX [0, 1, 2, 3] rfl (h118 σ16 L1 L2 L3)
      · refine gx_aload_n hX 0 44 dw_M_clear_43 rfl rfl rfl ?_
        refine mg_0 hX 34 47 (by decide) tw_942 rfl dw_M_clear_44 rfl ?_
        refine gx_iload hX 4 49 dw_M_clear_47 rfl rfl ?_
        refine gf_zald (u := md_u ob cI cB cS cZ) hX 25 26 3 50 (show 25 < 52 by decide) rfl rfl dw_M_clear_49 rfl (fun r17 => ?_)
        refine gx_istore_n hX [(3, .int r17), (0, .ref (ob 0)), (1, .int L1), (2, .int L2), (4, .int L4)] 51 dw_M_clear_50 rfl (by decide) rfl rfl ?_
        refine gx_aload_n hX 1 52 dw_M_clear_51 rfl rfl rfl ?_
        refine mg_0 hX 31 55 (by decide) tw_939 rfl dw_M_clear_52 rfl ?_
        refine gx_iload hX 4 57 dw_M_clear_55 rfl rfl ?_
        refine gf_iald (u := md_u ob cI cB cS cZ) hX 22 23 0 58 (show 22 < 52 by decide) rfl rfl dw_M_clear_57 rfl (fun r18 => ?_)
        refine gx_istore hX [(5, .int r18), (3, .int r17), (0, .ref (ob 0)), (1, .int L1), (2, .int L2), (4, .int L4)] 60 dw_M_clear_58 (by decide) rfl rfl ?_
        refine gx_jnI (fun (j : gx_S → Int32 → Int32 → Int32 → Int32 → gx_R) => ∀ (σ19 : gx_S) (L1 : Int32) (L2 : Int32) (L3 : Int32) (L4 : Int32), gx_G (md_V D ob cI cB cS cZ) X (j σ19 L1 L2 L3 L4) σ19 112 [(0, .ref (ob 0)), (1, .int L1), (2, .int L2), (3, .int L3), (4, .int L4)] []) (fun σ19 L1 L2 L3 L4 => ?_) (fun j112 h112 => ?_)
        · refine gx_iincN hX (q := 4) (fun x20 => [(4, .int x20), (0, .ref (ob 0)), (1, .int L1), (2, .int L2), (3, .int L3)]) 115 dw_M_clear_112 rfl rfl (by decide) (fun _ => rfl) rfl (fun x20 => ?_)
          refine gx_goto hX 33 dw_M_clear_115 (by decide) ?_
          exact gx_pick (lv' := [(0, .ref (ob 0)), (1, .int L1), (2, .int L2), (3, .int L3), (4, .int x20)]) hX [1, 2, 3, 4, 0] rfl (ih33 σ19 L1 L2 L3 x20)
        refine gx_pick (lv' := [(0, .ref (ob 0)), (1, .int L1), (2, .int L2), (3, .int r17), (4, .int L4), (5, .int r18)]) hX [2, 3, 4, 1, 5, 0] rfl (gx_lpI (fun (f : gx_S → Int32 → Int32 → Int32 → Int32 → Int32 → gx_R) => ∀ (σ21 : gx_S) (L1 : Int32) (L2 : Int32) (L3 : Int32) (L4 : Int32) (L5 : Int32), gx_G (md_V D ob cI cB cS cZ) X (f σ21 L1 L2 L3 L4 L5) σ21 60 [(0, .ref (ob 0)), (1, .int L1), (2, .int L2), (3, .int L3), (4, .int L4), (5, .int L5)] []) (fun _ _ _ _ _ _ => gx_none) (fun again60 ih60 σ21 L1 L2 L3 L4 L5 => ?_) _ σ16 L1 L2 r17 L4 r18)
        refine gx_iload hX 5 62 dw_M_clear_60 rfl rfl ?_
        refine gx_aload_n hX 0 63 dw_M_clear_62 rfl rfl rfl ?_
        refine mg_0 hX 31 66 (by decide) tw_939 rfl dw_M_clear_63 rfl ?_
        refine gx_iload hX 4 68 dw_M_clear_66 rfl rfl ?_
        refine gx_iconst hX 1 69 dw_M_clear_68 (by decide) rfl ?_
        refine gx_iadd hX 70 dw_M_clear_69 rfl ?_
        refine gf_iald (u := md_u ob cI cB cS cZ) hX 22 23 0 71 (show 22 < 52 by decide) rfl rfl dw_M_clear_70 rfl (fun r22 => ?_)
        refine gx_icmp_ge hX 112 74 dw_M_clear_71 (by decide) rfl (fun _ => ?_) (fun _ => ?_)
        · exact gx_pick (lv' := [(0, .ref (ob 0)), (1, .int L1), (2, .int L2), (3, .int L3), (4, .int L4)]) hX [0, 1, 2, 3, 4] rfl (h112 σ21 L1 L2 L3 L4)
        · refine gx_iload_n hX 3 75 dw_M_clear_74 rfl rfl rfl ?_
          refine gx_jnI (fun (j : gx_S → Int32 → Int32 → Int32 → Int32 → Int32 → gx_R) => ∀ (σ23 : gx_S) (L1 : Int32) (L2 : Int32) (L4 : Int32) (L5 : Int32) (S0 : Int32), gx_G (md_V D ob cI cB cS cZ) X (j σ23 L1 L2 L4 L5 S0) σ23 105 [(0, .ref (ob 0)), (1, .int L1), (2, .int L2), (4, .int L4), (5, .int L5)] [.int S0]) (fun σ23 L1 L2 L4 L5 S0 => ?_) (fun j105 h105 => ?_)
          · refine gx_istore_n hX [(3, .int S0), (0, .ref (ob 0)), (1, .int L1), (2, .int L2), (4, .int L4), (5, .int L5)] 106 dw_M_clear_105 rfl (by decide) rfl rfl ?_
            refine gx_iincN hX (q := 5) (fun x24 => [(5, .int x24), (3, .int S0), (0, .ref (ob 0)), (1, .int L1), (2, .int L2), (4, .int L4)]) 109 dw_M_clear_106 rfl rfl (by decide) (fun _ => rfl) rfl (fun x24 => ?_)
            refine gx_goto hX 60 dw_M_clear_109 (by decide) ?_
            exact gx_pick (lv' := [(0, .ref (ob 0)), (1, .int L1), (2, .int L2), (3, .int S0), (4, .int L4), (5, .int x24)]) hX [2, 3, 4, 1, 5, 0] rfl (ih60 σ23 L1 L2 S0 L4 x24)
          refine gx_jnI (fun (j : gx_S → Int32 → Int32 → Int32 → Int32 → gx_R) => ∀ (σ25 : gx_S) (L1 : Int32) (L2 : Int32) (L4 : Int32) (L5 : Int32), gx_G (md_V D ob cI cB cS cZ) X (j σ25 L1 L2 L4 L5) σ25 104 [(0, .ref (ob 0)), (1, .int L1), (2, .int L2), (4, .int L4), (5, .int L5)] []) (fun σ25 L1 L2 L4 L5 => ?_) (fun j104 h104 => ?_)
          · refine gx_iconst hX 0 105 dw_M_clear_104 (by decide) rfl ?_
            exact gx_pick (lv' := [(0, .ref (ob 0)), (1, .int L1), (2, .int L2), (4, .int L4), (5, .int L5)]) hX [0, 1, 2, 3, 4] rfl (h105 σ25 L1 L2 L4 L5 0)
          refine gx_if_eq hX 104 78 dw_M_clear_75 (by decide) rfl (fun _ => ?_) (fun _ => ?_)
          · exact gx_pick (lv' := [(0, .ref (ob 0)), (1, .int L1), (2, .int L2), (4, .int L4), (5, .int L5)]) hX [0, 1, 2, 4, 5] rfl (h104 σ21 L1 L2 L4 L5)
          · refine gx_aload_n hX 0 79 dw_M_clear_78 rfl rfl rfl ?_
            refine mg_0 hX 36 82 (by decide) tw_944 rfl dw_M_clear_79 rfl ?_
            refine gx_iload hX 5 84 dw_M_clear_82 rfl rfl ?_
            refine gf_bald (u := md_u ob cI cB cS cZ) hX 26 27 1 85 (show 26 < 52 by decide) rfl rfl dw_M_clear_84 rfl (fun r26 => ?_)
            refine gx_iconst hX 2 86 dw_M_clear_85 (by decide) rfl ?_
            refine gx_jnI (fun (j : gx_S → Int32 → Int32 → Int32 → Int32 → gx_R) => ∀ (σ27 : gx_S) (L1 : Int32) (L2 : Int32) (L4 : Int32) (L5 : Int32), gx_G (md_V D ob cI cB cS cZ) X (j σ27 L1 L2 L4 L5) σ27 100 [(0, .ref (ob 0)), (1, .int L1), (2, .int L2), (4, .int L4), (5, .int L5)] []) (fun σ27 L1 L2 L4 L5 => ?_) (fun j100 h100 => ?_)
            · refine gx_iconst hX 1 101 dw_M_clear_100 (by decide) rfl ?_
              refine gx_goto hX 105 dw_M_clear_101 (by decide) ?_
              exact gx_pick (lv' := [(0, .ref (ob 0)), (1, .int L1), (2, .int L2), (4, .int L4), (5, .int L5)]) hX [0, 1, 2, 3, 4] rfl (h105 σ27 L1 L2 L4 L5 1)
            refine gx_icmp_ne hX 100 89 dw_M_clear_86 (by decide) rfl (fun _ => ?_) (fun _ => ?_)
            · exact gx_pick (lv' := [(0, .ref (ob 0)), (1, .int L1), (2, .int L2), (4, .int L4), (5, .int L5)]) hX [0, 1, 2, 4, 5] rfl (h100 σ21 L1 L2 L4 L5)
            · refine gx_aload_n hX 0 90 dw_M_clear_89 rfl rfl rfl ?_
              refine mg_0 hX 37 93 (by decide) tw_945 rfl dw_M_clear_90 rfl ?_
              refine gx_iload hX 5 95 dw_M_clear_93 rfl rfl ?_
              refine gf_iald (u := md_u ob cI cB cS cZ) hX 27 28 0 96 (show 27 < 52 by decide) rfl rfl dw_M_clear_95 rfl (fun r28 => ?_)
              refine gx_iload_n hX 1 97 dw_M_clear_96 rfl rfl rfl ?_
              refine gx_icmp_ge hX 104 100 dw_M_clear_97 (by decide) rfl (fun _ => ?_) (fun _ => ?_)
              · exact gx_pick (lv' := [(0, .ref (ob 0)), (1, .int L1), (2, .int L2), (4, .int L4), (5, .int L5)]) hX [0, 1, 2, 4, 5] rfl (h104 σ21 L1 L2 L4 L5)
              · exact gx_pick (lv' := [(0, .ref (ob 0)), (1, .int L1), (2, .int L2), (4, .int L4), (5, .int L5)]) hX [0, 1, 2, 4, 5] rfl (h100 σ21 L1 L2 L4 L5)
  refine gx_jnI (fun (j : gx_S → Int32 → Int32 → gx_R) => ∀ (σ29 : gx_S) (L1 : Int32) (L2 : Int32), gx_G (md_V D ob cI cB cS cZ) X (j σ29 L1 L2) σ29 28 [(0, .ref (ob 0)), (1, .int L1), (2, .int L2)] []) (fun σ29 L1 L2 => ?_) (fun j28 h28 => ?_)
  · refine gx_iconst hX 0 29 dw_M_clear_28 (by decide) rfl ?_
    exact gx_pick (lv' := [(0, .ref (ob 0)), (1, .int L1), (2, .int L2)]) hX [0, 1, 2] rfl (h29 σ29 L1 L2 0)
  refine gx_if_lt hX 28 4 dw_M_clear_1 (by decide) rfl (fun _ => ?_) (fun _ => ?_)
  · exact gx_pick (lv' := [(0, .ref (ob 0)), (1, .int L1), (2, .int L2)]) hX [0, 1, 2] rfl (h28 σ L1 L2)
  · refine gx_iload_n hX 1 5 dw_M_clear_4 rfl rfl rfl ?_
    refine gx_aload_n hX 0 6 dw_M_clear_5 rfl rfl rfl ?_
    refine mg_0 hX 0 9 (by decide) tw_908 rfl dw_M_clear_6 rfl ?_
    refine gx_icmp_gt hX 28 12 dw_M_clear_9 (by decide) rfl (fun _ => ?_) (fun _ => ?_)
    · exact gx_pick (lv' := [(0, .ref (ob 0)), (1, .int L1), (2, .int L2)]) hX [0, 1, 2] rfl (h28 σ L1 L2)
    · refine gx_iload_n hX 2 13 dw_M_clear_12 rfl rfl rfl ?_
      refine gx_if_lt hX 28 16 dw_M_clear_13 (by decide) rfl (fun _ => ?_) (fun _ => ?_)
      · exact gx_pick (lv' := [(0, .ref (ob 0)), (1, .int L1), (2, .int L2)]) hX [0, 1, 2] rfl (h28 σ L1 L2)
      · refine gx_iload_n hX 2 17 dw_M_clear_16 rfl rfl rfl ?_
        refine gx_aload_n hX 0 18 dw_M_clear_17 rfl rfl rfl ?_
        refine mg_0 hX 30 21 (by decide) tw_938 rfl dw_M_clear_18 rfl ?_
        refine gx_icmp_gt hX 28 24 dw_M_clear_21 (by decide) rfl (fun _ => ?_) (fun _ => ?_)
        · exact gx_pick (lv' := [(0, .ref (ob 0)), (1, .int L1), (2, .int L2)]) hX [0, 1, 2] rfl (h28 σ L1 L2)
        · refine gx_iconst hX 1 25 dw_M_clear_24 (by decide) rfl ?_
          refine gx_goto hX 29 dw_M_clear_25 (by decide) ?_
          exact gx_pick (lv' := [(0, .ref (ob 0)), (1, .int L1), (2, .int L2)]) hX [0, 1, 2] rfl (h29 σ L1 L2 1)
def my_M_clear : MethodName := ⟨"TypeLoomModel", "clear", "(II)Z"⟩
theorem hy_M_clear : (my_M_clear.cls ≠ "java/lang/invoke/MethodHandle" ∧ my_M_clear.cls ≠ "java/lang/invoke/VarHandle") ∧ (parseMethodDescriptor my_M_clear.desc).map (fun d => d.parameters.length) = some 2 := by decide +kernel
theorem tm_M_clear {D : va_G} {ob : Nat → Nat} {cI cB cS cZ : ClassId} (l : Launch) (σ : gx_S) (L1 : Int32) (L2 : Int32) : gx_C l (md_V D ob cI cB cS cZ) my_M_clear prog_11_method_59_code 6 (some .boolean) 0 0 [.ref (ob 0), .int L1, .int L2] σ (km_M_clear σ L1 L2) := gx_met (by decide) rfl (Nat.le_of_ble_eq_true rfl) rfl (fun X _ hX => tl_M_clear hX σ L1 L2)
theorem tr_M_clear {D : va_G} {ob : Nat → Nat} {cI cB cS cZ : ClassId} {X : gx_X} {cc : ByteArray} {own : String} {nL fr lo : Nat} {rt : Option FieldType} {σ : gx_S} {pc : Nat} {lv : List (Nat × Value)} {st : List Value} (hX : gx_K (md_V D ob cI cB cS cZ) X cc own nL fr lo rt) {idx : Nat} {L1 : Int32} {L2 : Int32} {k : gx_S → Int32 → gx_R} (n : Nat) (hlink : Cond.methodLink own idx ({ cls := "TypeLoomModel", name := "clear", desc := "(II)Z" } : Jvm.MethodName) ∈ gx_T) (hroom : 0 + 1 ≤ fr ∧ 8 + (6 + 11) + 0 ≤ lo) (hst : (st.map fun v => v.category).sum ≤ 8) (hd : decode cc pc = .ok (.invokevirtual idx, 3)) (hn : pc + 3 = n) (kk : ∀ σ' r, gx_G (md_V D ob cI cB cS cZ) X (k σ' r) σ' n lv (.int r :: st)) : gx_G (md_V D ob cI cB cS cZ) X (gx_bd (km_M_clear σ L1 L2) k) σ pc lv (.int L2 :: .int L1 :: .ref (ob 0) :: st) :=
  gx_callI hX [.int L1, .int L2] n rfl (tm_M_clear _ σ L1 L2) hy_M_clear tw_1364 hlink tw_1362 tw_1363 tw_79 (gf_recv 0 (show 0 < 1 by decide) rfl rfl) hroom hst hd hn rfl (fun σ' r _ => kk σ' r)
def km_M_count (σ : gx_S) (L1 : Int32) : gx_R :=
  if L1 = 0 then
    some (σ, (σ.1 0))
  else if L1 = 1 then
    some (σ, (σ.1 1))
  else if L1 = 2 then
    some (σ, (σ.1 6))
  else if L1 = 3 then
    some (σ, (σ.1 8))
  else if L1 = 4 then
    some (σ, (σ.1 2))
  else if L1 = 5 then
    some (σ, (σ.1 9))
  else if L1 = 6 then
    some (σ, (σ.1 10))
  else if L1 = 7 then
    some (σ, (σ.1 3))
  else if L1 = 8 then
    some (σ, (σ.1 7))
  else some (σ, (-1))
set_option maxRecDepth 100000 in
set_option maxHeartbeats 4000000 in
theorem tl_M_count {D : va_G} {ob : Nat → Nat} {cI cB cS cZ : ClassId} {X : gx_X} (hX : gx_K (md_V D ob cI cB cS cZ) X prog_11_method_60_code "TypeLoomModel" 2 0 0 (some .int)) (σ : gx_S) (L1 : Int32) : gx_G (md_V D ob cI cB cS cZ) X (km_M_count σ L1) σ 0 [(0, .ref (ob 0)), (1, .int L1)] [] := by
  unfold km_M_count
  refine gx_iload_n hX 1 1 dw_M_count_0 rfl rfl rfl ?_
  refine gx_tsw9 hX 52 57 62 67 72 77 82 87 92 97 dw_M_count_1 (by decide) (by decide) (by decide) (by decide) (by decide) (by decide) (by decide) (by decide) (by decide) (by decide) ?_ ?_ ?_ ?_ ?_ ?_ ?_ ?_ ?_ ?_
  · refine gx_aload_n hX 0 53 dw_M_count_52 rfl rfl rfl ?_
    refine mg_0 hX 0 56 (by decide) tw_908 rfl dw_M_count_53 rfl ?_
    exact gx_ret hX dw_M_count_56
  · refine gx_aload_n hX 0 58 dw_M_count_57 rfl rfl rfl ?_
    refine mg_0 hX 3 61 (by decide) tw_911 rfl dw_M_count_58 rfl ?_
    exact gx_ret hX dw_M_count_61
  · refine gx_aload_n hX 0 63 dw_M_count_62 rfl rfl rfl ?_
    refine mg_0 hX 26 66 (by decide) tw_934 rfl dw_M_count_63 rfl ?_
    exact gx_ret hX dw_M_count_66
  · refine gx_aload_n hX 0 68 dw_M_count_67 rfl rfl rfl ?_
    refine mg_0 hX 30 71 (by decide) tw_938 rfl dw_M_count_68 rfl ?_
    exact gx_ret hX dw_M_count_71
  · refine gx_aload_n hX 0 73 dw_M_count_72 rfl rfl rfl ?_
    refine mg_0 hX 13 76 (by decide) tw_921 rfl dw_M_count_73 rfl ?_
    exact gx_ret hX dw_M_count_76
  · refine gx_aload_n hX 0 78 dw_M_count_77 rfl rfl rfl ?_
    refine mg_0 hX 35 81 (by decide) tw_943 rfl dw_M_count_78 rfl ?_
    exact gx_ret hX dw_M_count_81
  · refine gx_aload_n hX 0 83 dw_M_count_82 rfl rfl rfl ?_
    refine mg_0 hX 40 86 (by decide) tw_948 rfl dw_M_count_83 rfl ?_
    exact gx_ret hX dw_M_count_86
  · refine gx_aload_n hX 0 88 dw_M_count_87 rfl rfl rfl ?_
    refine mg_0 hX 16 91 (by decide) tw_924 rfl dw_M_count_88 rfl ?_
    exact gx_ret hX dw_M_count_91
  · refine gx_aload_n hX 0 93 dw_M_count_92 rfl rfl rfl ?_
    refine mg_0 hX 29 96 (by decide) tw_937 rfl dw_M_count_93 rfl ?_
    exact gx_ret hX dw_M_count_96
  · refine gx_iconst hX (-1) 98 dw_M_count_97 (by decide) rfl ?_
    exact gx_ret hX dw_M_count_98
def my_M_count : MethodName := ⟨"TypeLoomModel", "count", "(I)I"⟩
theorem hy_M_count : (my_M_count.cls ≠ "java/lang/invoke/MethodHandle" ∧ my_M_count.cls ≠ "java/lang/invoke/VarHandle") ∧ (parseMethodDescriptor my_M_count.desc).map (fun d => d.parameters.length) = some 1 := by decide +kernel
theorem tm_M_count {D : va_G} {ob : Nat → Nat} {cI cB cS cZ : ClassId} (l : Launch) (σ : gx_S) (L1 : Int32) : gx_C l (md_V D ob cI cB cS cZ) my_M_count prog_11_method_60_code 2 (some .int) 0 0 [.ref (ob 0), .int L1] σ (km_M_count σ L1) := gx_met (by decide) rfl (Nat.le_of_ble_eq_true rfl) rfl (fun X _ hX => tl_M_count hX σ L1)
theorem tr_M_count {D : va_G} {ob : Nat → Nat} {cI cB cS cZ : ClassId} {X : gx_X} {cc : ByteArray} {own : String} {nL fr lo : Nat} {rt : Option FieldType} {σ : gx_S} {pc : Nat} {lv : List (Nat × Value)} {st : List Value} (hX : gx_K (md_V D ob cI cB cS cZ) X cc own nL fr lo rt) {idx : Nat} {L1 : Int32} {k : gx_S → Int32 → gx_R} (n : Nat) (hlink : Cond.methodLink own idx ({ cls := "TypeLoomModel", name := "count", desc := "(I)I" } : Jvm.MethodName) ∈ gx_T) (hroom : 0 + 1 ≤ fr ∧ 8 + (2 + 11) + 0 ≤ lo) (hst : (st.map fun v => v.category).sum ≤ 8) (hd : decode cc pc = .ok (.invokevirtual idx, 3)) (hn : pc + 3 = n) (kk : ∀ σ' r, gx_G (md_V D ob cI cB cS cZ) X (k σ' r) σ' n lv (.int r :: st)) : gx_G (md_V D ob cI cB cS cZ) X (gx_bd (km_M_count σ L1) k) σ pc lv (.int L1 :: .ref (ob 0) :: st) :=
  gx_callI hX [.int L1] n rfl (tm_M_count _ σ L1) hy_M_count tw_1368 hlink tw_1366 tw_1367 tw_79 (gf_recv 0 (show 0 < 1 by decide) rfl rfl) hroom hst hd hn rfl (fun σ' r _ => kk σ' r)
end
