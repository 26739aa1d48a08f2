theorem dw_Ints_at_0 : decode prog_3_method_2_code 0 = .ok (.iload_n 1, 1) := by decide +kernel
theorem dw_Ints_at_1 : decode prog_3_method_2_code 1 = .ok (.ifCond .lt 21, 3) := by decide +kernel
theorem dw_Ints_at_22 : decode prog_3_method_2_code 22 = .ok (.iconst 0, 1) := by decide +kernel
theorem dw_Ints_at_23 : decode prog_3_method_2_code 23 = .ok (.ireturn, 1) := by decide +kernel
theorem dw_Ints_at_4 : decode prog_3_method_2_code 4 = .ok (.iload_n 1, 1) := by decide +kernel
theorem dw_Ints_at_5 : decode prog_3_method_2_code 5 = .ok (.aload_n 0, 1) := by decide +kernel
theorem dw_Ints_at_6 : decode prog_3_method_2_code 6 = .ok (.getfield 9, 3) := by decide +kernel
theorem dw_Ints_at_9 : decode prog_3_method_2_code 9 = .ok (.arraylength, 1) := by decide +kernel
theorem dw_Ints_at_10 : decode prog_3_method_2_code 10 = .ok (.if_icmp .ge 12, 3) := by decide +kernel
theorem dw_Ints_at_13 : decode prog_3_method_2_code 13 = .ok (.aload_n 0, 1) := by decide +kernel
theorem dw_Ints_at_14 : decode prog_3_method_2_code 14 = .ok (.getfield 9, 3) := by decide +kernel
theorem dw_Ints_at_17 : decode prog_3_method_2_code 17 = .ok (.iload_n 1, 1) := by decide +kernel
theorem dw_Ints_at_18 : decode prog_3_method_2_code 18 = .ok (.iaload, 1) := by decide +kernel
theorem dw_Ints_at_19 : decode prog_3_method_2_code 19 = .ok (.goto 4, 3) := by decide +kernel
theorem dw_Ints_put_0 : decode prog_3_method_3_code 0 = .ok (.iload_n 1, 1) := by decide +kernel
theorem dw_Ints_put_1 : decode prog_3_method_3_code 1 = .ok (.ifCond .lt 11, 3) := by decide +kernel
theorem dw_Ints_put_12 : decode prog_3_method_3_code 12 = .ok (.return_, 1) := by decide +kernel
theorem dw_Ints_put_4 : decode prog_3_method_3_code 4 = .ok (.iload_n 1, 1) := by decide +kernel
theorem dw_Ints_put_5 : decode prog_3_method_3_code 5 = .ok (.aload_n 0, 1) := by decide +kernel
theorem dw_Ints_put_6 : decode prog_3_method_3_code 6 = .ok (.getfield 13, 3) := by decide +kernel
theorem dw_Ints_put_9 : decode prog_3_method_3_code 9 = .ok (.if_icmp .lt 4, 3) := by decide +kernel
theorem dw_Ints_put_13 : decode prog_3_method_3_code 13 = .ok (.iload_n 1, 1) := by decide +kernel
theorem dw_Ints_put_14 : decode prog_3_method_3_code 14 = .ok (.aload_n 0, 1) := by decide +kernel
theorem dw_Ints_put_15 : decode prog_3_method_3_code 15 = .ok (.getfield 9, 3) := by decide +kernel
theorem dw_Ints_put_18 : decode prog_3_method_3_code 18 = .ok (.arraylength, 1) := by decide +kernel
theorem dw_Ints_put_19 : decode prog_3_method_3_code 19 = .ok (.if_icmp .lt 34, 3) := by decide +kernel
theorem dw_Ints_put_53 : decode prog_3_method_3_code 53 = .ok (.aload_n 0, 1) := by decide +kernel
theorem dw_Ints_put_54 : decode prog_3_method_3_code 54 = .ok (.getfield 9, 3) := by decide +kernel
theorem dw_Ints_put_57 : decode prog_3_method_3_code 57 = .ok (.iload_n 1, 1) := by decide +kernel
theorem dw_Ints_put_58 : decode prog_3_method_3_code 58 = .ok (.iload_n 2, 1) := by decide +kernel
theorem dw_Ints_put_59 : decode prog_3_method_3_code 59 = .ok (.iastore, 1) := by decide +kernel
theorem dw_Ints_put_60 : decode prog_3_method_3_code 60 = .ok (.return_, 1) := by decide +kernel
theorem dw_Constructors_add_0 : decode prog_2_method_2_code 0 = .ok (.aload_n 0, 1) := by decide +kernel
theorem dw_Constructors_add_1 : decode prog_2_method_2_code 1 = .ok (.getfield 23, 3) := by decide +kernel
theorem dw_Constructors_add_4 : decode prog_2_method_2_code 4 = .ok (.sipush 2048, 3) := by decide +kernel
theorem dw_Constructors_add_7 : decode prog_2_method_2_code 7 = .ok (.if_icmp .lt 6, 3) := by decide +kernel
theorem dw_Constructors_add_13 : decode prog_2_method_2_code 13 = .ok (.aload_n 0, 1) := by decide +kernel
theorem dw_Constructors_add_14 : decode prog_2_method_2_code 14 = .ok (.getfield 14, 3) := by decide +kernel
theorem dw_Constructors_add_17 : decode prog_2_method_2_code 17 = .ok (.aload_n 0, 1) := by decide +kernel
theorem dw_Constructors_add_18 : decode prog_2_method_2_code 18 = .ok (.getfield 23, 3) := by decide +kernel
theorem dw_Constructors_add_21 : decode prog_2_method_2_code 21 = .ok (.iload_n 1, 1) := by decide +kernel
theorem dw_Constructors_add_22 : decode prog_2_method_2_code 22 = .ok (.invokevirtual 27, 3) := by decide +kernel
theorem dw_Constructors_add_25 : decode prog_2_method_2_code 25 = .ok (.aload_n 0, 1) := by decide +kernel
theorem dw_Constructors_add_26 : decode prog_2_method_2_code 26 = .ok (.getfield 20, 3) := by decide +kernel
theorem dw_Constructors_add_29 : decode prog_2_method_2_code 29 = .ok (.aload_n 0, 1) := by decide +kernel
theorem dw_Constructors_add_30 : decode prog_2_method_2_code 30 = .ok (.getfield 23, 3) := by decide +kernel
theorem dw_Constructors_add_33 : decode prog_2_method_2_code 33 = .ok (.iload_n 2, 1) := by decide +kernel
theorem dw_Constructors_add_34 : decode prog_2_method_2_code 34 = .ok (.invokevirtual 27, 3) := by decide +kernel
theorem dw_Constructors_add_37 : decode prog_2_method_2_code 37 = .ok (.aload_n 0, 1) := by decide +kernel
theorem dw_Constructors_add_38 : decode prog_2_method_2_code 38 = .ok (.dup, 1) := by decide +kernel
theorem dw_Constructors_add_39 : decode prog_2_method_2_code 39 = .ok (.getfield 23, 3) := by decide +kernel
theorem dw_Constructors_add_42 : decode prog_2_method_2_code 42 = .ok (.iconst 1, 1) := by decide +kernel
theorem dw_Constructors_add_43 : decode prog_2_method_2_code 43 = .ok (.iadd, 1) := by decide +kernel
theorem dw_Constructors_add_44 : decode prog_2_method_2_code 44 = .ok (.putfield 23, 3) := by decide +kernel
theorem dw_Constructors_add_47 : decode prog_2_method_2_code 47 = .ok (.aload_n 0, 1) := by decide +kernel
theorem dw_Constructors_add_48 : decode prog_2_method_2_code 48 = .ok (.getfield 23, 3) := by decide +kernel
theorem dw_Constructors_add_51 : decode prog_2_method_2_code 51 = .ok (.iconst 1, 1) := by decide +kernel
theorem dw_Constructors_add_52 : decode prog_2_method_2_code 52 = .ok (.isub, 1) := by decide +kernel
theorem dw_Constructors_add_53 : decode prog_2_method_2_code 53 = .ok (.ireturn, 1) := by decide +kernel
theorem dw_Constructors_add_10 : decode prog_2_method_2_code 10 = .ok (.bipush (-2), 2) := by decide +kernel
theorem dw_Constructors_add_12 : decode prog_2_method_2_code 12 = .ok (.ireturn, 1) := by decide +kernel
theorem dw_Constructors_has_0 : decode prog_2_method_3_code 0 = .ok (.iload_n 1, 1) := by decide +kernel
theorem dw_Constructors_has_1 : decode prog_2_method_3_code 1 = .ok (.ifCond .lt 15, 3) := by decide +kernel
theorem dw_Constructors_has_16 : decode prog_2_method_3_code 16 = .ok (.iconst 0, 1) := by decide +kernel
theorem dw_Constructors_has_17 : decode prog_2_method_3_code 17 = .ok (.ireturn, 1) := by decide +kernel
theorem dw_Constructors_has_4 : decode prog_2_method_3_code 4 = .ok (.iload_n 1, 1) := by decide +kernel
theorem dw_Constructors_has_5 : decode prog_2_method_3_code 5 = .ok (.aload_n 0, 1) := by decide +kernel
theorem dw_Constructors_has_6 : decode prog_2_method_3_code 6 = .ok (.getfield 23, 3) := by decide +kernel
theorem dw_Constructors_has_9 : decode prog_2_method_3_code 9 = .ok (.if_icmp .ge 7, 3) := by decide +kernel
theorem dw_Constructors_has_12 : decode prog_2_method_3_code 12 = .ok (.iconst 1, 1) := by decide +kernel
theorem dw_Constructors_has_13 : decode prog_2_method_3_code 13 = .ok (.goto 4, 3) := by decide +kernel
theorem dw_Constructors_mayBeSet_0 : decode prog_2_method_6_code 0 = .ok (.iconst 0, 1) := by decide +kernel
theorem dw_Constructors_mayBeSet_1 : decode prog_2_method_6_code 1 = .ok (.istore_n 3, 1) := by decide +kernel
theorem dw_Constructors_mayBeSet_2 : decode prog_2_method_6_code 2 = .ok (.iload_n 3, 1) := by decide +kernel
theorem dw_Constructors_mayBeSet_3 : decode prog_2_method_6_code 3 = .ok (.bipush 31, 2) := by decide +kernel
theorem dw_Constructors_mayBeSet_5 : decode prog_2_method_6_code 5 = .ok (.if_icmp .ge 65, 3) := by decide +kernel
theorem dw_Constructors_mayBeSet_70 : decode prog_2_method_6_code 70 = .ok (.iconst 1, 1) := by decide +kernel
theorem dw_Constructors_mayBeSet_71 : decode prog_2_method_6_code 71 = .ok (.ireturn, 1) := by decide +kernel
theorem dw_Constructors_mayBeSet_8 : decode prog_2_method_6_code 8 = .ok (.iload_n 1, 1) := by decide +kernel
theorem dw_Constructors_mayBeSet_9 : decode prog_2_method_6_code 9 = .ok (.iload_n 3, 1) := by decide +kernel
theorem dw_Constructors_mayBeSet_10 : decode prog_2_method_6_code 10 = .ok (.ishr, 1) := by decide +kernel
theorem dw_Constructors_mayBeSet_11 : decode prog_2_method_6_code 11 = .ok (.iconst 1, 1) := by decide +kernel
theorem dw_Constructors_mayBeSet_12 : decode prog_2_method_6_code 12 = .ok (.iand, 1) := by decide +kernel
theorem dw_Constructors_mayBeSet_13 : decode prog_2_method_6_code 13 = .ok (.ifCond .eq 7, 3) := by decide +kernel
theorem dw_Constructors_mayBeSet_21 : decode prog_2_method_6_code 21 = .ok (.istore 4, 2) := by decide +kernel
theorem dw_Constructors_mayBeSet_23 : decode prog_2_method_6_code 23 = .ok (.iload 4, 2) := by decide +kernel
theorem dw_Constructors_mayBeSet_25 : decode prog_2_method_6_code 25 = .ok (.ifCond .eq 39, 3) := by decide +kernel
theorem dw_Constructors_mayBeSet_64 : decode prog_2_method_6_code 64 = .ok (.iinc 3 1, 3) := by decide +kernel
theorem dw_Constructors_mayBeSet_67 : decode prog_2_method_6_code 67 = .ok (.goto (-65), 3) := by decide +kernel
theorem dw_Constructors_mayBeSet_28 : decode prog_2_method_6_code 28 = .ok (.aload_n 0, 1) := by decide +kernel
theorem dw_Constructors_mayBeSet_29 : decode prog_2_method_6_code 29 = .ok (.iload_n 3, 1) := by decide +kernel
theorem dw_Constructors_mayBeSet_30 : decode prog_2_method_6_code 30 = .ok (.invokevirtual 35, 3) := by decide +kernel
theorem dw_Constructors_mayBeSet_33 : decode prog_2_method_6_code 33 = .ok (.ifCond .eq 29, 3) := by decide +kernel
theorem dw_Constructors_mayBeSet_62 : decode prog_2_method_6_code 62 = .ok (.iconst 0, 1) := by decide +kernel
theorem dw_Constructors_mayBeSet_63 : decode prog_2_method_6_code 63 = .ok (.ireturn, 1) := by decide +kernel
theorem dw_Constructors_mayBeSet_36 : decode prog_2_method_6_code 36 = .ok (.aload_n 0, 1) := by decide +kernel
theorem dw_Constructors_mayBeSet_37 : decode prog_2_method_6_code 37 = .ok (.getfield 14, 3) := by decide +kernel
theorem dw_Constructors_mayBeSet_40 : decode prog_2_method_6_code 40 = .ok (.iload_n 3, 1) := by decide +kernel
theorem dw_Constructors_mayBeSet_41 : decode prog_2_method_6_code 41 = .ok (.invokevirtual 31, 3) := by decide +kernel
theorem dw_Constructors_mayBeSet_44 : decode prog_2_method_6_code 44 = .ok (.ifCond .ne 18, 3) := by decide +kernel
theorem dw_Constructors_mayBeSet_47 : decode prog_2_method_6_code 47 = .ok (.iload_n 2, 1) := by decide +kernel
theorem dw_Constructors_mayBeSet_48 : decode prog_2_method_6_code 48 = .ok (.ifCond .eq 16, 3) := by decide +kernel
theorem dw_Constructors_mayBeSet_51 : decode prog_2_method_6_code 51 = .ok (.aload_n 0, 1) := by decide +kernel
theorem dw_Constructors_mayBeSet_52 : decode prog_2_method_6_code 52 = .ok (.getfield 20, 3) := by decide +kernel
theorem dw_Constructors_mayBeSet_55 : decode prog_2_method_6_code 55 = .ok (.iload_n 3, 1) := by decide +kernel
theorem dw_Constructors_mayBeSet_56 : decode prog_2_method_6_code 56 = .ok (.invokevirtual 31, 3) := by decide +kernel
theorem dw_Constructors_mayBeSet_59 : decode prog_2_method_6_code 59 = .ok (.ifCond .ne 5, 3) := by decide +kernel
theorem dw_Constructors_mayBeSet_20 : decode prog_2_method_6_code 20 = .ok (.iconst 0, 1) := by decide +kernel
theorem dw_Constructors_mayBeSet_16 : decode prog_2_method_6_code 16 = .ok (.iconst 1, 1) := by decide +kernel
theorem dw_Constructors_mayBeSet_17 : decode prog_2_method_6_code 17 = .ok (.goto 4, 3) := by decide +kernel
theorem dw_Pushed_drop_0 : decode prog_4_method_4_code 0 = .ok (.aload_n 0, 1) := by decide +kernel
theorem dw_Pushed_drop_1 : decode prog_4_method_4_code 1 = .ok (.iconst 0, 1) := by decide +kernel
theorem dw_Pushed_drop_2 : decode prog_4_method_4_code 2 = .ok (.putfield 23, 3) := by decide +kernel
theorem dw_Pushed_drop_5 : decode prog_4_method_4_code 5 = .ok (.aload_n 0, 1) := by decide +kernel
theorem dw_Pushed_drop_6 : decode prog_4_method_4_code 6 = .ok (.iconst 0, 1) := by decide +kernel
theorem dw_Pushed_drop_7 : decode prog_4_method_4_code 7 = .ok (.putfield 27, 3) := by decide +kernel
theorem dw_Pushed_drop_10 : decode prog_4_method_4_code 10 = .ok (.return_, 1) := by decide +kernel
theorem dw_Web_isType_0 : decode prog_9_method_3_code 0 = .ok (.iload_n 1, 1) := by decide +kernel
theorem dw_Web_isType_1 : decode prog_9_method_3_code 1 = .ok (.ifCond .lt 15, 3) := by decide +kernel
theorem dw_Web_isType_16 : decode prog_9_method_3_code 16 = .ok (.iconst 0, 1) := by decide +kernel
theorem dw_Web_isType_17 : decode prog_9_method_3_code 17 = .ok (.ireturn, 1) := by decide +kernel
theorem dw_Web_isType_4 : decode prog_9_method_3_code 4 = .ok (.iload_n 1, 1) := by decide +kernel
theorem dw_Web_isType_5 : decode prog_9_method_3_code 5 = .ok (.aload_n 0, 1) := by decide +kernel
theorem dw_Web_isType_6 : decode prog_9_method_3_code 6 = .ok (.getfield 61, 3) := by decide +kernel
theorem dw_Web_isType_9 : decode prog_9_method_3_code 9 = .ok (.if_icmp .ge 7, 3) := by decide +kernel
theorem dw_Web_isType_12 : decode prog_9_method_3_code 12 = .ok (.iconst 1, 1) := by decide +kernel
theorem dw_Web_isType_13 : decode prog_9_method_3_code 13 = .ok (.goto 4, 3) := by decide +kernel
theorem dw_Web_hasRoom_0 : decode prog_9_method_5_code 0 = .ok (.aload_n 0, 1) := by decide +kernel
theorem dw_Web_hasRoom_1 : decode prog_9_method_5_code 1 = .ok (.getfield 61, 3) := by decide +kernel
theorem dw_Web_hasRoom_4 : decode prog_9_method_5_code 4 = .ok (.iload_n 1, 1) := by decide +kernel
theorem dw_Web_hasRoom_5 : decode prog_9_method_5_code 5 = .ok (.iadd, 1) := by decide +kernel
theorem dw_Web_hasRoom_6 : decode prog_9_method_5_code 6 = .ok (.sipush 24576, 3) := by decide +kernel
theorem dw_Web_hasRoom_9 : decode prog_9_method_5_code 9 = .ok (.if_icmp .gt 18, 3) := by decide +kernel
theorem dw_Web_hasRoom_27 : decode prog_9_method_5_code 27 = .ok (.iconst 0, 1) := by decide +kernel
theorem dw_Web_hasRoom_28 : decode prog_9_method_5_code 28 = .ok (.ireturn, 1) := by decide +kernel
theorem dw_Web_hasRoom_12 : decode prog_9_method_5_code 12 = .ok (.aload_n 0, 1) := by decide +kernel
theorem dw_Web_hasRoom_13 : decode prog_9_method_5_code 13 = .ok (.getfield 64, 3) := by decide +kernel
theorem dw_Web_hasRoom_16 : decode prog_9_method_5_code 16 = .ok (.iload_n 2, 1) := by decide +kernel
theorem dw_Web_hasRoom_17 : decode prog_9_method_5_code 17 = .ok (.iadd, 1) := by decide +kernel
theorem dw_Web_hasRoom_18 : decode prog_9_method_5_code 18 = .ok (.ldc 74, 2) := by decide +kernel
theorem dw_Web_hasRoom_20 : decode prog_9_method_5_code 20 = .ok (.if_icmp .gt 7, 3) := by decide +kernel
theorem dw_Web_hasRoom_23 : decode prog_9_method_5_code 23 = .ok (.iconst 1, 1) := by decide +kernel
theorem dw_Web_hasRoom_24 : decode prog_9_method_5_code 24 = .ok (.goto 4, 3) := by decide +kernel
theorem dw_Web_addNode_0 : decode prog_9_method_6_code 0 = .ok (.aload_n 0, 1) := by decide +kernel
theorem dw_Web_addNode_1 : decode prog_9_method_6_code 1 = .ok (.getfield 54, 3) := by decide +kernel
theorem dw_Web_addNode_4 : decode prog_9_method_6_code 4 = .ok (.istore 5, 2) := by decide +kernel
theorem dw_Web_addNode_6 : decode prog_9_method_6_code 6 = .ok (.aload_n 0, 1) := by decide +kernel
theorem dw_Web_addNode_7 : decode prog_9_method_6_code 7 = .ok (.getfield 14, 3) := by decide +kernel
theorem dw_Web_addNode_10 : decode prog_9_method_6_code 10 = .ok (.iload 5, 2) := by decide +kernel
theorem dw_Web_addNode_12 : decode prog_9_method_6_code 12 = .ok (.iload_n 1, 1) := by decide +kernel
theorem dw_Web_addNode_13 : decode prog_9_method_6_code 13 = .ok (.invokevirtual 75, 3) := by decide +kernel
theorem dw_Web_addNode_16 : decode prog_9_method_6_code 16 = .ok (.aload_n 0, 1) := by decide +kernel
theorem dw_Web_addNode_17 : decode prog_9_method_6_code 17 = .ok (.getfield 20, 3) := by decide +kernel
theorem dw_Web_addNode_20 : decode prog_9_method_6_code 20 = .ok (.iload 5, 2) := by decide +kernel
theorem dw_Web_addNode_22 : decode prog_9_method_6_code 22 = .ok (.iload_n 2, 1) := by decide +kernel
theorem dw_Web_addNode_23 : decode prog_9_method_6_code 23 = .ok (.invokevirtual 75, 3) := by decide +kernel
theorem dw_Web_addNode_26 : decode prog_9_method_6_code 26 = .ok (.aload_n 0, 1) := by decide +kernel
theorem dw_Web_addNode_27 : decode prog_9_method_6_code 27 = .ok (.getfield 23, 3) := by decide +kernel
theorem dw_Web_addNode_30 : decode prog_9_method_6_code 30 = .ok (.iload 5, 2) := by decide +kernel
theorem dw_Web_addNode_32 : decode prog_9_method_6_code 32 = .ok (.iload_n 3, 1) := by decide +kernel
theorem dw_Web_addNode_33 : decode prog_9_method_6_code 33 = .ok (.invokevirtual 75, 3) := by decide +kernel
theorem dw_Web_addNode_36 : decode prog_9_method_6_code 36 = .ok (.aload_n 0, 1) := by decide +kernel
theorem dw_Web_addNode_37 : decode prog_9_method_6_code 37 = .ok (.getfield 26, 3) := by decide +kernel
theorem dw_Web_addNode_40 : decode prog_9_method_6_code 40 = .ok (.iload 5, 2) := by decide +kernel
theorem dw_Web_addNode_42 : decode prog_9_method_6_code 42 = .ok (.iload 4, 2) := by decide +kernel
theorem dw_Web_addNode_44 : decode prog_9_method_6_code 44 = .ok (.invokevirtual 75, 3) := by decide +kernel
theorem dw_Web_addNode_47 : decode prog_9_method_6_code 47 = .ok (.aload_n 0, 1) := by decide +kernel
theorem dw_Web_addNode_48 : decode prog_9_method_6_code 48 = .ok (.getfield 29, 3) := by decide +kernel
theorem dw_Web_addNode_51 : decode prog_9_method_6_code 51 = .ok (.iload 5, 2) := by decide +kernel
theorem dw_Web_addNode_53 : decode prog_9_method_6_code 53 = .ok (.aload_n 0, 1) := by decide +kernel
theorem dw_Web_addNode_54 : decode prog_9_method_6_code 54 = .ok (.getfield 58, 3) := by decide +kernel
theorem dw_Web_addNode_57 : decode prog_9_method_6_code 57 = .ok (.invokevirtual 75, 3) := by decide +kernel
theorem dw_Web_addNode_60 : decode prog_9_method_6_code 60 = .ok (.aload_n 0, 1) := by decide +kernel
theorem dw_Web_addNode_61 : decode prog_9_method_6_code 61 = .ok (.getfield 32, 3) := by decide +kernel
theorem dw_Web_addNode_64 : decode prog_9_method_6_code 64 = .ok (.iload 5, 2) := by decide +kernel
theorem dw_Web_addNode_66 : decode prog_9_method_6_code 66 = .ok (.iconst 0, 1) := by decide +kernel
theorem dw_Web_addNode_67 : decode prog_9_method_6_code 67 = .ok (.invokevirtual 75, 3) := by decide +kernel
theorem dw_Web_addNode_70 : decode prog_9_method_6_code 70 = .ok (.aload_n 0, 1) := by decide +kernel
theorem dw_Web_addNode_71 : decode prog_9_method_6_code 71 = .ok (.getfield 35, 3) := by decide +kernel
theorem dw_Web_addNode_74 : decode prog_9_method_6_code 74 = .ok (.iload 5, 2) := by decide +kernel
theorem dw_Web_addNode_76 : decode prog_9_method_6_code 76 = .ok (.iconst (-1), 1) := by decide +kernel
theorem dw_Web_addNode_77 : decode prog_9_method_6_code 77 = .ok (.invokevirtual 75, 3) := by decide +kernel
theorem dw_Web_addNode_80 : decode prog_9_method_6_code 80 = .ok (.aload_n 0, 1) := by decide +kernel
theorem dw_Web_addNode_81 : decode prog_9_method_6_code 81 = .ok (.getfield 38, 3) := by decide +kernel
theorem dw_Web_addNode_84 : decode prog_9_method_6_code 84 = .ok (.iload 5, 2) := by decide +kernel
theorem dw_Web_addNode_86 : decode prog_9_method_6_code 86 = .ok (.iload 5, 2) := by decide +kernel
theorem dw_Web_addNode_88 : decode prog_9_method_6_code 88 = .ok (.invokevirtual 75, 3) := by decide +kernel
theorem dw_Web_addNode_91 : decode prog_9_method_6_code 91 = .ok (.aload_n 0, 1) := by decide +kernel
theorem dw_Web_addNode_92 : decode prog_9_method_6_code 92 = .ok (.getfield 41, 3) := by decide +kernel
theorem dw_Web_addNode_95 : decode prog_9_method_6_code 95 = .ok (.iload 5, 2) := by decide +kernel
theorem dw_Web_addNode_97 : decode prog_9_method_6_code 97 = .ok (.iconst 1, 1) := by decide +kernel
theorem dw_Web_addNode_98 : decode prog_9_method_6_code 98 = .ok (.invokevirtual 75, 3) := by decide +kernel
theorem dw_Web_addNode_101 : decode prog_9_method_6_code 101 = .ok (.aload_n 0, 1) := by decide +kernel
theorem dw_Web_addNode_102 : decode prog_9_method_6_code 102 = .ok (.dup, 1) := by decide +kernel
theorem dw_Web_addNode_103 : decode prog_9_method_6_code 103 = .ok (.getfield 54, 3) := by decide +kernel
theorem dw_Web_addNode_106 : decode prog_9_method_6_code 106 = .ok (.iconst 1, 1) := by decide +kernel
theorem dw_Web_addNode_107 : decode prog_9_method_6_code 107 = .ok (.iadd, 1) := by decide +kernel
theorem dw_Web_addNode_108 : decode prog_9_method_6_code 108 = .ok (.putfield 54, 3) := by decide +kernel
theorem dw_Web_addNode_111 : decode prog_9_method_6_code 111 = .ok (.iload 5, 2) := by decide +kernel
theorem dw_Web_addNode_113 : decode prog_9_method_6_code 113 = .ok (.ireturn, 1) := by decide +kernel
theorem dw_Web_addType_0 : decode prog_9_method_8_code 0 = .ok (.aload_n 0, 1) := by decide +kernel
theorem dw_Web_addType_1 : decode prog_9_method_8_code 1 = .ok (.getfield 51, 3) := by decide +kernel
theorem dw_Web_addType_4 : decode prog_9_method_8_code 4 = .ok (.aload_n 0, 1) := by decide +kernel
theorem dw_Web_addType_5 : decode prog_9_method_8_code 5 = .ok (.getfield 61, 3) := by decide +kernel
theorem dw_Web_addType_8 : decode prog_9_method_8_code 8 = .ok (.iload_n 1, 1) := by decide +kernel
theorem dw_Web_addType_9 : decode prog_9_method_8_code 9 = .ok (.invokevirtual 75, 3) := by decide +kernel
theorem dw_Web_addType_12 : decode prog_9_method_8_code 12 = .ok (.aload_n 0, 1) := by decide +kernel
theorem dw_Web_addType_13 : decode prog_9_method_8_code 13 = .ok (.dup, 1) := by decide +kernel
theorem dw_Web_addType_14 : decode prog_9_method_8_code 14 = .ok (.getfield 64, 3) := by decide +kernel
theorem dw_Web_addType_17 : decode prog_9_method_8_code 17 = .ok (.aload_n 0, 1) := by decide +kernel
theorem dw_Web_addType_18 : decode prog_9_method_8_code 18 = .ok (.getfield 32, 3) := by decide +kernel
theorem dw_Web_addType_21 : decode prog_9_method_8_code 21 = .ok (.iload_n 1, 1) := by decide +kernel
theorem dw_Web_addType_22 : decode prog_9_method_8_code 22 = .ok (.invokevirtual 70, 3) := by decide +kernel
theorem dw_Web_addType_25 : decode prog_9_method_8_code 25 = .ok (.iadd, 1) := by decide +kernel
theorem dw_Web_addType_26 : decode prog_9_method_8_code 26 = .ok (.putfield 64, 3) := by decide +kernel
theorem dw_Web_addType_29 : decode prog_9_method_8_code 29 = .ok (.aload_n 0, 1) := by decide +kernel
theorem dw_Web_addType_30 : decode prog_9_method_8_code 30 = .ok (.dup, 1) := by decide +kernel
theorem dw_Web_addType_31 : decode prog_9_method_8_code 31 = .ok (.getfield 61, 3) := by decide +kernel
theorem dw_Web_addType_34 : decode prog_9_method_8_code 34 = .ok (.iconst 1, 1) := by decide +kernel
theorem dw_Web_addType_35 : decode prog_9_method_8_code 35 = .ok (.iadd, 1) := by decide +kernel
theorem dw_Web_addType_36 : decode prog_9_method_8_code 36 = .ok (.putfield 61, 3) := by decide +kernel
theorem dw_Web_addType_39 : decode prog_9_method_8_code 39 = .ok (.aload_n 0, 1) := by decide +kernel
theorem dw_Web_addType_40 : decode prog_9_method_8_code 40 = .ok (.getfield 61, 3) := by decide +kernel
theorem dw_Web_addType_43 : decode prog_9_method_8_code 43 = .ok (.iconst 1, 1) := by decide +kernel
theorem dw_Web_addType_44 : decode prog_9_method_8_code 44 = .ok (.isub, 1) := by decide +kernel
theorem dw_Web_addType_45 : decode prog_9_method_8_code 45 = .ok (.ireturn, 1) := by decide +kernel
theorem dw_Web_drop_0 : decode prog_9_method_2_code 0 = .ok (.aload_n 0, 1) := by decide +kernel
theorem dw_Web_drop_1 : decode prog_9_method_2_code 1 = .ok (.iconst 0, 1) := by decide +kernel
theorem dw_Web_drop_2 : decode prog_9_method_2_code 2 = .ok (.putfield 54, 3) := by decide +kernel
theorem dw_Web_drop_5 : decode prog_9_method_2_code 5 = .ok (.aload_n 0, 1) := by decide +kernel
theorem dw_Web_drop_6 : decode prog_9_method_2_code 6 = .ok (.iconst 0, 1) := by decide +kernel
theorem dw_Web_drop_7 : decode prog_9_method_2_code 7 = .ok (.putfield 58, 3) := by decide +kernel
theorem dw_Web_drop_10 : decode prog_9_method_2_code 10 = .ok (.aload_n 0, 1) := by decide +kernel
theorem dw_Web_drop_11 : decode prog_9_method_2_code 11 = .ok (.iconst 0, 1) := by decide +kernel
theorem dw_Web_drop_12 : decode prog_9_method_2_code 12 = .ok (.putfield 61, 3) := by decide +kernel
theorem dw_Web_drop_15 : decode prog_9_method_2_code 15 = .ok (.aload_n 0, 1) := by decide +kernel
theorem dw_Web_drop_16 : decode prog_9_method_2_code 16 = .ok (.iconst 0, 1) := by decide +kernel
theorem dw_Web_drop_17 : decode prog_9_method_2_code 17 = .ok (.putfield 64, 3) := by decide +kernel
theorem dw_Web_drop_20 : decode prog_9_method_2_code 20 = .ok (.aload_n 0, 1) := by decide +kernel
theorem dw_Web_drop_21 : decode prog_9_method_2_code 21 = .ok (.iconst 0, 1) := by decide +kernel
theorem dw_Web_drop_22 : decode prog_9_method_2_code 22 = .ok (.putfield 67, 3) := by decide +kernel
theorem dw_Web_drop_25 : decode prog_9_method_2_code 25 = .ok (.return_, 1) := by decide +kernel
theorem dw_Web_follow_0 : decode prog_9_method_17_code 0 = .ok (.aload_n 0, 1) := by decide +kernel
theorem dw_Web_follow_1 : decode prog_9_method_17_code 1 = .ok (.iload_n 1, 1) := by decide +kernel
theorem dw_Web_follow_2 : decode prog_9_method_17_code 2 = .ok (.invokevirtual 93, 3) := by decide +kernel
theorem dw_Web_follow_5 : decode prog_9_method_17_code 5 = .ok (.ifCond .eq 18, 3) := by decide +kernel
theorem dw_Web_follow_24 : decode prog_9_method_17_code 24 = .ok (.istore 4, 2) := by decide +kernel
theorem dw_Web_follow_26 : decode prog_9_method_17_code 26 = .ok (.lload_n 2, 1) := by decide +kernel
theorem dw_Web_follow_27 : decode prog_9_method_17_code 27 = .ok (.lstore 5, 2) := by decide +kernel
theorem dw_Web_follow_29 : decode prog_9_method_17_code 29 = .ok (.iconst 0, 1) := by decide +kernel
theorem dw_Web_follow_30 : decode prog_9_method_17_code 30 = .ok (.istore 7, 2) := by decide +kernel
theorem dw_Web_follow_32 : decode prog_9_method_17_code 32 = .ok (.iload 7, 2) := by decide +kernel
theorem dw_Web_follow_34 : decode prog_9_method_17_code 34 = .ok (.bipush 8, 2) := by decide +kernel
theorem dw_Web_follow_36 : decode prog_9_method_17_code 36 = .ok (.if_icmp .ge 54, 3) := by decide +kernel
theorem dw_Web_follow_90 : decode prog_9_method_17_code 90 = .ok (.iload 4, 2) := by decide +kernel
theorem dw_Web_follow_92 : decode prog_9_method_17_code 92 = .ok (.ireturn, 1) := by decide +kernel
theorem dw_Web_follow_39 : decode prog_9_method_17_code 39 = .ok (.iload 4, 2) := by decide +kernel
theorem dw_Web_follow_41 : decode prog_9_method_17_code 41 = .ok (.iconst (-1), 1) := by decide +kernel
theorem dw_Web_follow_42 : decode prog_9_method_17_code 42 = .ok (.if_icmp .eq 48, 3) := by decide +kernel
theorem dw_Web_follow_45 : decode prog_9_method_17_code 45 = .ok (.lload 5, 2) := by decide +kernel
theorem dw_Web_follow_47 : decode prog_9_method_17_code 47 = .ok (.ldc2_w 96, 3) := by decide +kernel
theorem dw_Web_follow_50 : decode prog_9_method_17_code 50 = .ok (.land, 1) := by decide +kernel
theorem dw_Web_follow_51 : decode prog_9_method_17_code 51 = .ok (.lconst 0, 1) := by decide +kernel
theorem dw_Web_follow_52 : decode prog_9_method_17_code 52 = .ok (.lcmp, 1) := by decide +kernel
theorem dw_Web_follow_53 : decode prog_9_method_17_code 53 = .ok (.ifCond .eq 37, 3) := by decide +kernel
theorem dw_Web_follow_56 : decode prog_9_method_17_code 56 = .ok (.aload_n 0, 1) := by decide +kernel
theorem dw_Web_follow_57 : decode prog_9_method_17_code 57 = .ok (.aload_n 0, 1) := by decide +kernel
theorem dw_Web_follow_58 : decode prog_9_method_17_code 58 = .ok (.iload 4, 2) := by decide +kernel
theorem dw_Web_follow_60 : decode prog_9_method_17_code 60 = .ok (.lload 5, 2) := by decide +kernel
theorem dw_Web_follow_62 : decode prog_9_method_17_code 62 = .ok (.ldc2_w 96, 3) := by decide +kernel
theorem dw_Web_follow_65 : decode prog_9_method_17_code 65 = .ok (.land, 1) := by decide +kernel
theorem dw_Web_follow_66 : decode prog_9_method_17_code 66 = .ok (.l2i, 1) := by decide +kernel
theorem dw_Web_follow_67 : decode prog_9_method_17_code 67 = .ok (.iconst 1, 1) := by decide +kernel
theorem dw_Web_follow_68 : decode prog_9_method_17_code 68 = .ok (.isub, 1) := by decide +kernel
theorem dw_Web_follow_69 : decode prog_9_method_17_code 69 = .ok (.invokevirtual 98, 3) := by decide +kernel
theorem dw_Web_follow_23 : decode prog_9_method_17_code 23 = .ok (.iconst (-1), 1) := by decide +kernel
theorem dw_Web_follow_8 : decode prog_9_method_17_code 8 = .ok (.aload_n 0, 1) := by decide +kernel
theorem dw_Web_follow_9 : decode prog_9_method_17_code 9 = .ok (.aload_n 0, 1) := by decide +kernel
theorem dw_Web_follow_10 : decode prog_9_method_17_code 10 = .ok (.getfield 51, 3) := by decide +kernel
theorem dw_Web_follow_13 : decode prog_9_method_17_code 13 = .ok (.iload_n 1, 1) := by decide +kernel
theorem dw_Web_follow_14 : decode prog_9_method_17_code 14 = .ok (.invokevirtual 70, 3) := by decide +kernel
theorem dw_Web_follow_17 : decode prog_9_method_17_code 17 = .ok (.invokevirtual 83, 3) := by decide +kernel
theorem dw_Schemes_has_0 : decode prog_5_method_2_code 0 = .ok (.iload_n 1, 1) := by decide +kernel
theorem dw_Schemes_has_1 : decode prog_5_method_2_code 1 = .ok (.ifCond .lt 15, 3) := by decide +kernel
theorem dw_Schemes_has_16 : decode prog_5_method_2_code 16 = .ok (.iconst 0, 1) := by decide +kernel
theorem dw_Schemes_has_17 : decode prog_5_method_2_code 17 = .ok (.ireturn, 1) := by decide +kernel
theorem dw_Schemes_has_4 : decode prog_5_method_2_code 4 = .ok (.iload_n 1, 1) := by decide +kernel
theorem dw_Schemes_has_5 : decode prog_5_method_2_code 5 = .ok (.aload_n 0, 1) := by decide +kernel
theorem dw_Schemes_has_6 : decode prog_5_method_2_code 6 = .ok (.getfield 57, 3) := by decide +kernel
theorem dw_Schemes_has_9 : decode prog_5_method_2_code 9 = .ok (.if_icmp .ge 7, 3) := by decide +kernel
theorem dw_Schemes_has_12 : decode prog_5_method_2_code 12 = .ok (.iconst 1, 1) := by decide +kernel
theorem dw_Schemes_has_13 : decode prog_5_method_2_code 13 = .ok (.goto 4, 3) := by decide +kernel
theorem dw_Schemes_canKeep_0 : decode prog_5_method_12_code 0 = .ok (.iload_n 1, 1) := by decide +kernel
theorem dw_Schemes_canKeep_1 : decode prog_5_method_12_code 1 = .ok (.ifCond .lt 11, 3) := by decide +kernel
theorem dw_Schemes_canKeep_12 : decode prog_5_method_12_code 12 = .ok (.iconst 0, 1) := by decide +kernel
theorem dw_Schemes_canKeep_13 : decode prog_5_method_12_code 13 = .ok (.ireturn, 1) := by decide +kernel
theorem dw_Schemes_canKeep_4 : decode prog_5_method_12_code 4 = .ok (.iload_n 1, 1) := by decide +kernel
theorem dw_Schemes_canKeep_5 : decode prog_5_method_12_code 5 = .ok (.aload_n 0, 1) := by decide +kernel
theorem dw_Schemes_canKeep_6 : decode prog_5_method_12_code 6 = .ok (.getfield 57, 3) := by decide +kernel
theorem dw_Schemes_canKeep_9 : decode prog_5_method_12_code 9 = .ok (.if_icmp .le 5, 3) := by decide +kernel
theorem dw_Schemes_canKeep_14 : decode prog_5_method_12_code 14 = .ok (.iconst 0, 1) := by decide +kernel
theorem dw_Schemes_canKeep_15 : decode prog_5_method_12_code 15 = .ok (.istore_n 3, 1) := by decide +kernel
theorem dw_Schemes_canKeep_37 : decode prog_5_method_12_code 37 = .ok (.iconst 0, 1) := by decide +kernel
theorem dw_Schemes_canKeep_38 : decode prog_5_method_12_code 38 = .ok (.istore_n 3, 1) := by decide +kernel
theorem dw_Schemes_canKeep_39 : decode prog_5_method_12_code 39 = .ok (.iload_n 3, 1) := by decide +kernel
theorem dw_Schemes_canKeep_40 : decode prog_5_method_12_code 40 = .ok (.aload_n 0, 1) := by decide +kernel
theorem dw_Schemes_canKeep_41 : decode prog_5_method_12_code 41 = .ok (.getfield 36, 3) := by decide +kernel
theorem dw_Schemes_canKeep_44 : decode prog_5_method_12_code 44 = .ok (.iload_n 1, 1) := by decide +kernel
theorem dw_Schemes_canKeep_45 : decode prog_5_method_12_code 45 = .ok (.invokevirtual 75, 3) := by decide +kernel
theorem dw_Schemes_canKeep_48 : decode prog_5_method_12_code 48 = .ok (.if_icmp .ge 35, 3) := by decide +kernel
theorem dw_Schemes_canKeep_83 : decode prog_5_method_12_code 83 = .ok (.iconst 1, 1) := by decide +kernel
theorem dw_Schemes_canKeep_84 : decode prog_5_method_12_code 84 = .ok (.ireturn, 1) := by decide +kernel
theorem dw_Schemes_canKeep_51 : decode prog_5_method_12_code 51 = .ok (.aload_n 0, 1) := by decide +kernel
theorem dw_Schemes_canKeep_52 : decode prog_5_method_12_code 52 = .ok (.getfield 14, 3) := by decide +kernel
theorem dw_Schemes_canKeep_55 : decode prog_5_method_12_code 55 = .ok (.iload_n 3, 1) := by decide +kernel
theorem dw_Schemes_canKeep_56 : decode prog_5_method_12_code 56 = .ok (.invokevirtual 75, 3) := by decide +kernel
theorem dw_Schemes_canKeep_59 : decode prog_5_method_12_code 59 = .ok (.iconst 2, 1) := by decide +kernel
theorem dw_Schemes_canKeep_60 : decode prog_5_method_12_code 60 = .ok (.if_icmp .ne 17, 3) := by decide +kernel
theorem dw_Schemes_canKeep_77 : decode prog_5_method_12_code 77 = .ok (.iinc 3 1, 3) := by decide +kernel
theorem dw_Schemes_canKeep_80 : decode prog_5_method_12_code 80 = .ok (.goto (-41), 3) := by decide +kernel
theorem dw_Schemes_canKeep_63 : decode prog_5_method_12_code 63 = .ok (.aload_n 0, 1) := by decide +kernel
theorem dw_Schemes_canKeep_64 : decode prog_5_method_12_code 64 = .ok (.getfield 20, 3) := by decide +kernel
theorem dw_Schemes_canKeep_67 : decode prog_5_method_12_code 67 = .ok (.iload_n 3, 1) := by decide +kernel
theorem dw_Schemes_canKeep_68 : decode prog_5_method_12_code 68 = .ok (.invokevirtual 75, 3) := by decide +kernel
theorem dw_Schemes_canKeep_71 : decode prog_5_method_12_code 71 = .ok (.iload_n 2, 1) := by decide +kernel
theorem dw_Schemes_canKeep_72 : decode prog_5_method_12_code 72 = .ok (.if_icmp .lt 5, 3) := by decide +kernel
theorem dw_Schemes_canKeep_75 : decode prog_5_method_12_code 75 = .ok (.iconst 0, 1) := by decide +kernel
theorem dw_Schemes_canKeep_76 : decode prog_5_method_12_code 76 = .ok (.ireturn, 1) := by decide +kernel
theorem dw_Schemes_canKeep_16 : decode prog_5_method_12_code 16 = .ok (.iload_n 3, 1) := by decide +kernel
theorem dw_Schemes_canKeep_17 : decode prog_5_method_12_code 17 = .ok (.iload_n 1, 1) := by decide +kernel
theorem dw_Schemes_canKeep_18 : decode prog_5_method_12_code 18 = .ok (.if_icmp .ge 19, 3) := by decide +kernel
theorem dw_Schemes_canKeep_21 : decode prog_5_method_12_code 21 = .ok (.aload_n 0, 1) := by decide +kernel
theorem dw_Schemes_canKeep_22 : decode prog_5_method_12_code 22 = .ok (.iload_n 3, 1) := by decide +kernel
theorem dw_Schemes_canKeep_23 : decode prog_5_method_12_code 23 = .ok (.invokevirtual 144, 3) := by decide +kernel
theorem dw_Schemes_cutTo_0 : decode prog_5_method_13_code 0 = .ok (.aload_n 0, 1) := by decide +kernel
theorem dw_Schemes_cutTo_1 : decode prog_5_method_13_code 1 = .ok (.iload_n 1, 1) := by decide +kernel
theorem dw_Schemes_cutTo_2 : decode prog_5_method_13_code 2 = .ok (.putfield 57, 3) := by decide +kernel
theorem dw_Schemes_cutTo_5 : decode prog_5_method_13_code 5 = .ok (.aload_n 0, 1) := by decide +kernel
theorem dw_Schemes_cutTo_6 : decode prog_5_method_13_code 6 = .ok (.aload_n 0, 1) := by decide +kernel
theorem dw_Schemes_cutTo_7 : decode prog_5_method_13_code 7 = .ok (.getfield 36, 3) := by decide +kernel
theorem dw_Schemes_cutTo_10 : decode prog_5_method_13_code 10 = .ok (.iload_n 1, 1) := by decide +kernel
theorem dw_Schemes_cutTo_11 : decode prog_5_method_13_code 11 = .ok (.invokevirtual 75, 3) := by decide +kernel
theorem dw_Schemes_cutTo_14 : decode prog_5_method_13_code 14 = .ok (.putfield 61, 3) := by decide +kernel
theorem dw_Schemes_cutTo_17 : decode prog_5_method_13_code 17 = .ok (.aload_n 0, 1) := by decide +kernel
theorem dw_Schemes_cutTo_18 : decode prog_5_method_13_code 18 = .ok (.aload_n 0, 1) := by decide +kernel
theorem dw_Schemes_cutTo_19 : decode prog_5_method_13_code 19 = .ok (.getfield 26, 3) := by decide +kernel
theorem dw_Schemes_cutTo_22 : decode prog_5_method_13_code 22 = .ok (.aload_n 0, 1) := by decide +kernel
theorem dw_Schemes_cutTo_23 : decode prog_5_method_13_code 23 = .ok (.getfield 61, 3) := by decide +kernel
theorem dw_Schemes_cutTo_26 : decode prog_5_method_13_code 26 = .ok (.invokevirtual 75, 3) := by decide +kernel
theorem dw_Schemes_cutTo_29 : decode prog_5_method_13_code 29 = .ok (.putfield 64, 3) := by decide +kernel
theorem dw_Schemes_cutTo_32 : decode prog_5_method_13_code 32 = .ok (.return_, 1) := by decide +kernel
theorem dw_T_leaf_0 : decode prog_1_method_9_code 0 = .ok (.aload_n 0, 1) := by decide +kernel
theorem dw_T_leaf_1 : decode prog_1_method_9_code 1 = .ok (.getfield 26, 3) := by decide +kernel
theorem dw_T_leaf_4 : decode prog_1_method_9_code 4 = .ok (.iconst 1, 1) := by decide +kernel
theorem dw_T_leaf_5 : decode prog_1_method_9_code 5 = .ok (.iconst 0, 1) := by decide +kernel
theorem dw_T_leaf_6 : decode prog_1_method_9_code 6 = .ok (.invokevirtual 98, 3) := by decide +kernel
theorem dw_T_leaf_9 : decode prog_1_method_9_code 9 = .ok (.ifCond .ne 6, 3) := by decide +kernel
theorem dw_T_leaf_15 : decode prog_1_method_9_code 15 = .ok (.aload_n 0, 1) := by decide +kernel
theorem dw_T_leaf_16 : decode prog_1_method_9_code 16 = .ok (.getfield 26, 3) := by decide +kernel
theorem dw_T_leaf_19 : decode prog_1_method_9_code 19 = .ok (.aload_n 0, 1) := by decide +kernel
theorem dw_T_leaf_20 : decode prog_1_method_9_code 20 = .ok (.getfield 26, 3) := by decide +kernel
theorem dw_T_leaf_23 : decode prog_1_method_9_code 23 = .ok (.iload_n 1, 1) := by decide +kernel
theorem dw_T_leaf_24 : decode prog_1_method_9_code 24 = .ok (.iload_n 2, 1) := by decide +kernel
theorem dw_T_leaf_25 : decode prog_1_method_9_code 25 = .ok (.aload_n 0, 1) := by decide +kernel
theorem dw_T_leaf_26 : decode prog_1_method_9_code 26 = .ok (.getfield 66, 3) := by decide +kernel
theorem dw_T_leaf_29 : decode prog_1_method_9_code 29 = .ok (.iload_n 3, 1) := by decide +kernel
theorem dw_T_leaf_30 : decode prog_1_method_9_code 30 = .ok (.ifCond .eq 7, 3) := by decide +kernel
theorem dw_T_leaf_38 : decode prog_1_method_9_code 38 = .ok (.invokevirtual 102, 3) := by decide +kernel
theorem dw_T_leaf_41 : decode prog_1_method_9_code 41 = .ok (.invokevirtual 122, 3) := by decide +kernel
theorem dw_T_leaf_44 : decode prog_1_method_9_code 44 = .ok (.ireturn, 1) := by decide +kernel
theorem dw_T_leaf_37 : decode prog_1_method_9_code 37 = .ok (.iconst 0, 1) := by decide +kernel
theorem dw_T_leaf_33 : decode prog_1_method_9_code 33 = .ok (.iconst 1, 1) := by decide +kernel
theorem dw_T_leaf_34 : decode prog_1_method_9_code 34 = .ok (.goto 4, 3) := by decide +kernel
theorem dw_T_leaf_12 : decode prog_1_method_9_code 12 = .ok (.bipush (-2), 2) := by decide +kernel
theorem dw_T_leaf_14 : decode prog_1_method_9_code 14 = .ok (.ireturn, 1) := by decide +kernel
theorem dw_T_constructor_0 : decode prog_1_method_2_code 0 = .ok (.iload_n 1, 1) := by decide +kernel
theorem dw_T_constructor_1 : decode prog_1_method_2_code 1 = .ok (.ifCond .lt 18, 3) := by decide +kernel
theorem dw_T_constructor_19 : decode prog_1_method_2_code 19 = .ok (.iconst (-1), 1) := by decide +kernel
theorem dw_T_constructor_20 : decode prog_1_method_2_code 20 = .ok (.ireturn, 1) := by decide +kernel
theorem dw_T_constructor_4 : decode prog_1_method_2_code 4 = .ok (.iload_n 1, 1) := by decide +kernel
theorem dw_T_constructor_5 : decode prog_1_method_2_code 5 = .ok (.bipush 8, 2) := by decide +kernel
theorem dw_T_constructor_7 : decode prog_1_method_2_code 7 = .ok (.if_icmp .gt 12, 3) := by decide +kernel
theorem dw_T_constructor_10 : decode prog_1_method_2_code 10 = .ok (.iload_n 2, 1) := by decide +kernel
theorem dw_T_constructor_11 : decode prog_1_method_2_code 11 = .ok (.ifCond .lt 8, 3) := by decide +kernel
theorem dw_T_constructor_14 : decode prog_1_method_2_code 14 = .ok (.iload_n 2, 1) := by decide +kernel
theorem dw_T_constructor_15 : decode prog_1_method_2_code 15 = .ok (.iconst 2, 1) := by decide +kernel
theorem dw_T_constructor_16 : decode prog_1_method_2_code 16 = .ok (.if_icmp .le 5, 3) := by decide +kernel
theorem dw_T_constructor_21 : decode prog_1_method_2_code 21 = .ok (.aload_n 0, 1) := by decide +kernel
theorem dw_T_constructor_22 : decode prog_1_method_2_code 22 = .ok (.getfield 12, 3) := by decide +kernel
theorem dw_T_constructor_25 : decode prog_1_method_2_code 25 = .ok (.iload_n 1, 1) := by decide +kernel
theorem dw_T_constructor_26 : decode prog_1_method_2_code 26 = .ok (.iload_n 2, 1) := by decide +kernel
theorem dw_T_constructor_27 : decode prog_1_method_2_code 27 = .ok (.invokevirtual 70, 3) := by decide +kernel
theorem dw_T_constructor_30 : decode prog_1_method_2_code 30 = .ok (.ireturn, 1) := by decide +kernel
theorem dw_T_push_0 : decode prog_1_method_3_code 0 = .ok (.iload_n 1, 1) := by decide +kernel
theorem dw_T_push_1 : decode prog_1_method_3_code 1 = .ok (.iconst (-1), 1) := by decide +kernel
theorem dw_T_push_2 : decode prog_1_method_3_code 2 = .ok (.if_icmp .lt 32, 3) := by decide +kernel
theorem dw_T_push_34 : decode prog_1_method_3_code 34 = .ok (.iconst (-1), 1) := by decide +kernel
theorem dw_T_push_35 : decode prog_1_method_3_code 35 = .ok (.ireturn, 1) := by decide +kernel
theorem dw_T_push_5 : decode prog_1_method_3_code 5 = .ok (.iload_n 1, 1) := by decide +kernel
theorem dw_T_push_6 : decode prog_1_method_3_code 6 = .ok (.sipush 32767, 3) := by decide +kernel
theorem dw_T_push_9 : decode prog_1_method_3_code 9 = .ok (.if_icmp .gt 25, 3) := by decide +kernel
theorem dw_T_push_12 : decode prog_1_method_3_code 12 = .ok (.aload_n 0, 1) := by decide +kernel
theorem dw_T_push_13 : decode prog_1_method_3_code 13 = .ok (.getfield 26, 3) := by decide +kernel
theorem dw_T_push_16 : decode prog_1_method_3_code 16 = .ok (.iload_n 2, 1) := by decide +kernel
theorem dw_T_push_17 : decode prog_1_method_3_code 17 = .ok (.invokevirtual 74, 3) := by decide +kernel
theorem dw_T_push_20 : decode prog_1_method_3_code 20 = .ok (.ifCond .eq 14, 3) := by decide +kernel
theorem dw_T_push_23 : decode prog_1_method_3_code 23 = .ok (.aload_n 0, 1) := by decide +kernel
theorem dw_T_push_24 : decode prog_1_method_3_code 24 = .ok (.getfield 19, 3) := by decide +kernel
theorem dw_T_push_27 : decode prog_1_method_3_code 27 = .ok (.iload_n 1, 1) := by decide +kernel
theorem dw_T_push_28 : decode prog_1_method_3_code 28 = .ok (.invokevirtual 78, 3) := by decide +kernel
theorem dw_T_built_0 : decode prog_1_method_4_code 0 = .ok (.aload_n 0, 1) := by decide +kernel
theorem dw_T_built_1 : decode prog_1_method_4_code 1 = .ok (.getfield 12, 3) := by decide +kernel
theorem dw_T_built_4 : decode prog_1_method_4_code 4 = .ok (.iload_n 1, 1) := by decide +kernel
theorem dw_T_built_5 : decode prog_1_method_4_code 5 = .ok (.invokevirtual 86, 3) := by decide +kernel
theorem dw_T_built_8 : decode prog_1_method_4_code 8 = .ok (.ifCond .eq 31, 3) := by decide +kernel
theorem dw_T_built_39 : decode prog_1_method_4_code 39 = .ok (.iconst (-1), 1) := by decide +kernel
theorem dw_T_built_40 : decode prog_1_method_4_code 40 = .ok (.ireturn, 1) := by decide +kernel
theorem dw_T_built_11 : decode prog_1_method_4_code 11 = .ok (.aload_n 0, 1) := by decide +kernel
theorem dw_T_built_12 : decode prog_1_method_4_code 12 = .ok (.getfield 19, 3) := by decide +kernel
theorem dw_T_built_15 : decode prog_1_method_4_code 15 = .ok (.getfield 89, 3) := by decide +kernel
theorem dw_T_built_18 : decode prog_1_method_4_code 18 = .ok (.ifCond .gt 21, 3) := by decide +kernel
theorem dw_T_built_21 : decode prog_1_method_4_code 21 = .ok (.aload_n 0, 1) := by decide +kernel
theorem dw_T_built_22 : decode prog_1_method_4_code 22 = .ok (.getfield 19, 3) := by decide +kernel
theorem dw_T_built_25 : decode prog_1_method_4_code 25 = .ok (.getfield 92, 3) := by decide +kernel
theorem dw_T_built_28 : decode prog_1_method_4_code 28 = .ok (.aload_n 0, 1) := by decide +kernel
theorem dw_T_built_29 : decode prog_1_method_4_code 29 = .ok (.getfield 12, 3) := by decide +kernel
theorem dw_T_built_32 : decode prog_1_method_4_code 32 = .ok (.iload_n 1, 1) := by decide +kernel
theorem dw_T_built_33 : decode prog_1_method_4_code 33 = .ok (.invokevirtual 95, 3) := by decide +kernel
theorem dw_T_record_0 : decode prog_1_method_5_code 0 = .ok (.aload_n 0, 1) := by decide +kernel
theorem dw_T_record_1 : decode prog_1_method_5_code 1 = .ok (.getfield 19, 3) := by decide +kernel
theorem dw_T_record_4 : decode prog_1_method_5_code 4 = .ok (.getfield 89, 3) := by decide +kernel
theorem dw_T_record_7 : decode prog_1_method_5_code 7 = .ok (.aload_n 0, 1) := by decide +kernel
theorem dw_T_record_8 : decode prog_1_method_5_code 8 = .ok (.getfield 19, 3) := by decide +kernel
theorem dw_T_record_11 : decode prog_1_method_5_code 11 = .ok (.getfield 92, 3) := by decide +kernel
theorem dw_T_record_14 : decode prog_1_method_5_code 14 = .ok (.if_icmp .ge 5, 3) := by decide +kernel
theorem dw_T_record_19 : decode prog_1_method_5_code 19 = .ok (.aload_n 0, 1) := by decide +kernel
theorem dw_T_record_20 : decode prog_1_method_5_code 20 = .ok (.getfield 26, 3) := by decide +kernel
theorem dw_T_record_23 : decode prog_1_method_5_code 23 = .ok (.iconst 1, 1) := by decide +kernel
theorem dw_T_record_24 : decode prog_1_method_5_code 24 = .ok (.aload_n 0, 1) := by decide +kernel
theorem dw_T_record_25 : decode prog_1_method_5_code 25 = .ok (.getfield 19, 3) := by decide +kernel
theorem dw_T_record_28 : decode prog_1_method_5_code 28 = .ok (.getfield 92, 3) := by decide +kernel
theorem dw_T_record_31 : decode prog_1_method_5_code 31 = .ok (.invokevirtual 98, 3) := by decide +kernel
theorem dw_T_record_34 : decode prog_1_method_5_code 34 = .ok (.ifCond .eq 20, 3) := by decide +kernel
theorem dw_T_record_54 : decode prog_1_method_5_code 54 = .ok (.bipush (-2), 2) := by decide +kernel
theorem dw_T_record_56 : decode prog_1_method_5_code 56 = .ok (.ireturn, 1) := by decide +kernel
theorem dw_T_record_37 : decode prog_1_method_5_code 37 = .ok (.iload_n 1, 1) := by decide +kernel
theorem dw_T_record_38 : decode prog_1_method_5_code 38 = .ok (.ifCond .eq 19, 3) := by decide +kernel
theorem dw_T_record_57 : decode prog_1_method_5_code 57 = .ok (.aload_n 0, 1) := by decide +kernel
theorem dw_T_record_58 : decode prog_1_method_5_code 58 = .ok (.getfield 26, 3) := by decide +kernel
theorem dw_T_record_61 : decode prog_1_method_5_code 61 = .ok (.iconst 4, 1) := by decide +kernel
theorem dw_T_record_62 : decode prog_1_method_5_code 62 = .ok (.iconst 0, 1) := by decide +kernel
theorem dw_T_record_63 : decode prog_1_method_5_code 63 = .ok (.bipush 101, 2) := by decide +kernel
theorem dw_T_record_65 : decode prog_1_method_5_code 65 = .ok (.iconst 0, 1) := by decide +kernel
theorem dw_T_record_66 : decode prog_1_method_5_code 66 = .ok (.invokevirtual 102, 3) := by decide +kernel
theorem dw_T_record_69 : decode prog_1_method_5_code 69 = .ok (.istore_n 2, 1) := by decide +kernel
theorem dw_T_record_70 : decode prog_1_method_5_code 70 = .ok (.iconst 0, 1) := by decide +kernel
theorem dw_T_record_71 : decode prog_1_method_5_code 71 = .ok (.istore_n 3, 1) := by decide +kernel
theorem dw_T_record_119 : decode prog_1_method_5_code 119 = .ok (.aload_n 0, 1) := by decide +kernel
theorem dw_T_record_120 : decode prog_1_method_5_code 120 = .ok (.getfield 19, 3) := by decide +kernel
theorem dw_T_record_123 : decode prog_1_method_5_code 123 = .ok (.invokevirtual 119, 3) := by decide +kernel
theorem dw_T_record_126 : decode prog_1_method_5_code 126 = .ok (.iload_n 1, 1) := by decide +kernel
theorem dw_T_record_127 : decode prog_1_method_5_code 127 = .ok (.ifCond .eq 41, 3) := by decide +kernel
theorem dw_T_record_168 : decode prog_1_method_5_code 168 = .ok (.aload_n 0, 1) := by decide +kernel
theorem dw_T_record_169 : decode prog_1_method_5_code 169 = .ok (.getfield 26, 3) := by decide +kernel
theorem dw_T_record_172 : decode prog_1_method_5_code 172 = .ok (.iload_n 2, 1) := by decide +kernel
theorem dw_T_record_173 : decode prog_1_method_5_code 173 = .ok (.invokevirtual 122, 3) := by decide +kernel
theorem dw_T_record_176 : decode prog_1_method_5_code 176 = .ok (.ireturn, 1) := by decide +kernel
theorem dw_T_record_130 : decode prog_1_method_5_code 130 = .ok (.aload_n 0, 1) := by decide +kernel
theorem dw_T_record_131 : decode prog_1_method_5_code 131 = .ok (.getfield 26, 3) := by decide +kernel
theorem dw_T_record_134 : decode prog_1_method_5_code 134 = .ok (.getfield 131, 3) := by decide +kernel
theorem dw_T_record_137 : decode prog_1_method_5_code 137 = .ok (.iload_n 2, 1) := by decide +kernel
theorem dw_T_record_138 : decode prog_1_method_5_code 138 = .ok (.aload_n 0, 1) := by decide +kernel
theorem dw_T_record_139 : decode prog_1_method_5_code 139 = .ok (.getfield 26, 3) := by decide +kernel
theorem dw_T_record_142 : decode prog_1_method_5_code 142 = .ok (.iconst 5, 1) := by decide +kernel
theorem dw_T_record_143 : decode prog_1_method_5_code 143 = .ok (.iconst 0, 1) := by decide +kernel
theorem dw_T_record_144 : decode prog_1_method_5_code 144 = .ok (.aload_n 0, 1) := by decide +kernel
theorem dw_T_record_145 : decode prog_1_method_5_code 145 = .ok (.getfield 66, 3) := by decide +kernel
theorem dw_T_record_148 : decode prog_1_method_5_code 148 = .ok (.iconst 0, 1) := by decide +kernel
theorem dw_T_record_149 : decode prog_1_method_5_code 149 = .ok (.invokevirtual 102, 3) := by decide +kernel
theorem dw_T_record_152 : decode prog_1_method_5_code 152 = .ok (.invokevirtual 134, 3) := by decide +kernel
theorem dw_T_record_155 : decode prog_1_method_5_code 155 = .ok (.aload_n 0, 1) := by decide +kernel
theorem dw_T_record_156 : decode prog_1_method_5_code 156 = .ok (.getfield 26, 3) := by decide +kernel
theorem dw_T_record_159 : decode prog_1_method_5_code 159 = .ok (.dup, 1) := by decide +kernel
theorem dw_T_record_160 : decode prog_1_method_5_code 160 = .ok (.getfield 125, 3) := by decide +kernel
theorem dw_T_record_163 : decode prog_1_method_5_code 163 = .ok (.iconst 1, 1) := by decide +kernel
theorem dw_T_record_164 : decode prog_1_method_5_code 164 = .ok (.iadd, 1) := by decide +kernel
theorem dw_T_record_165 : decode prog_1_method_5_code 165 = .ok (.putfield 125, 3) := by decide +kernel
theorem dw_T_record_72 : decode prog_1_method_5_code 72 = .ok (.iload_n 3, 1) := by decide +kernel
theorem dw_T_record_73 : decode prog_1_method_5_code 73 = .ok (.aload_n 0, 1) := by decide +kernel
theorem dw_T_record_74 : decode prog_1_method_5_code 74 = .ok (.getfield 19, 3) := by decide +kernel
theorem dw_T_record_77 : decode prog_1_method_5_code 77 = .ok (.getfield 92, 3) := by decide +kernel
theorem dw_T_record_80 : decode prog_1_method_5_code 80 = .ok (.if_icmp .ge 39, 3) := by decide +kernel
theorem dw_T_record_83 : decode prog_1_method_5_code 83 = .ok (.aload_n 0, 1) := by decide +kernel
theorem dw_T_record_84 : decode prog_1_method_5_code 84 = .ok (.getfield 26, 3) := by decide +kernel
theorem dw_T_record_87 : decode prog_1_method_5_code 87 = .ok (.iload_n 2, 1) := by decide +kernel
theorem dw_T_record_88 : decode prog_1_method_5_code 88 = .ok (.aload_n 0, 1) := by decide +kernel
theorem dw_T_record_89 : decode prog_1_method_5_code 89 = .ok (.getfield 19, 3) := by decide +kernel
theorem dw_T_record_92 : decode prog_1_method_5_code 92 = .ok (.getfield 128, 3) := by decide +kernel
theorem dw_T_record_95 : decode prog_1_method_5_code 95 = .ok (.iload_n 3, 1) := by decide +kernel
theorem dw_T_record_96 : decode prog_1_method_5_code 96 = .ok (.invokevirtual 110, 3) := by decide +kernel
theorem dw_T_record_99 : decode prog_1_method_5_code 99 = .ok (.aload_n 0, 1) := by decide +kernel
theorem dw_T_record_100 : decode prog_1_method_5_code 100 = .ok (.getfield 19, 3) := by decide +kernel
theorem dw_T_record_103 : decode prog_1_method_5_code 103 = .ok (.getfield 106, 3) := by decide +kernel
theorem dw_T_record_106 : decode prog_1_method_5_code 106 = .ok (.iload_n 3, 1) := by decide +kernel
theorem dw_T_record_107 : decode prog_1_method_5_code 107 = .ok (.invokevirtual 110, 3) := by decide +kernel
theorem dw_T_record_110 : decode prog_1_method_5_code 110 = .ok (.invokevirtual 115, 3) := by decide +kernel
theorem dw_T_record_41 : decode prog_1_method_5_code 41 = .ok (.aload_n 0, 1) := by decide +kernel
theorem dw_T_record_42 : decode prog_1_method_5_code 42 = .ok (.getfield 26, 3) := by decide +kernel
theorem dw_T_record_45 : decode prog_1_method_5_code 45 = .ok (.getfield 125, 3) := by decide +kernel
theorem dw_T_record_48 : decode prog_1_method_5_code 48 = .ok (.sipush 512, 3) := by decide +kernel
theorem dw_T_record_51 : decode prog_1_method_5_code 51 = .ok (.if_icmp .lt 6, 3) := by decide +kernel
theorem dw_T_record_17 : decode prog_1_method_5_code 17 = .ok (.iconst (-1), 1) := by decide +kernel
theorem dw_T_record_18 : decode prog_1_method_5_code 18 = .ok (.ireturn, 1) := by decide +kernel
theorem dw_T_function_0 : decode prog_1_method_6_code 0 = .ok (.aload_n 0, 1) := by decide +kernel
theorem dw_T_function_1 : decode prog_1_method_6_code 1 = .ok (.getfield 26, 3) := by decide +kernel
theorem dw_T_function_4 : decode prog_1_method_6_code 4 = .ok (.iload_n 1, 1) := by decide +kernel
theorem dw_T_function_5 : decode prog_1_method_6_code 5 = .ok (.invokevirtual 74, 3) := by decide +kernel
theorem dw_T_function_8 : decode prog_1_method_6_code 8 = .ok (.ifCond .eq 14, 3) := by decide +kernel
theorem dw_T_function_22 : decode prog_1_method_6_code 22 = .ok (.iconst (-1), 1) := by decide +kernel
theorem dw_T_function_23 : decode prog_1_method_6_code 23 = .ok (.ireturn, 1) := by decide +kernel
theorem dw_T_function_11 : decode prog_1_method_6_code 11 = .ok (.aload_n 0, 1) := by decide +kernel
theorem dw_T_function_12 : decode prog_1_method_6_code 12 = .ok (.getfield 26, 3) := by decide +kernel
theorem dw_T_function_15 : decode prog_1_method_6_code 15 = .ok (.iload_n 2, 1) := by decide +kernel
theorem dw_T_function_16 : decode prog_1_method_6_code 16 = .ok (.invokevirtual 74, 3) := by decide +kernel
theorem dw_T_function_19 : decode prog_1_method_6_code 19 = .ok (.ifCond .ne 5, 3) := by decide +kernel
theorem dw_T_function_24 : decode prog_1_method_6_code 24 = .ok (.aload_n 0, 1) := by decide +kernel
theorem dw_T_function_25 : decode prog_1_method_6_code 25 = .ok (.getfield 26, 3) := by decide +kernel
theorem dw_T_function_28 : decode prog_1_method_6_code 28 = .ok (.iconst 1, 1) := by decide +kernel
theorem dw_T_function_29 : decode prog_1_method_6_code 29 = .ok (.iconst 2, 1) := by decide +kernel
theorem dw_T_function_30 : decode prog_1_method_6_code 30 = .ok (.invokevirtual 98, 3) := by decide +kernel
theorem dw_T_function_33 : decode prog_1_method_6_code 33 = .ok (.ifCond .ne 6, 3) := by decide +kernel
theorem dw_T_function_39 : decode prog_1_method_6_code 39 = .ok (.aload_n 0, 1) := by decide +kernel
theorem dw_T_function_40 : decode prog_1_method_6_code 40 = .ok (.getfield 26, 3) := by decide +kernel
theorem dw_T_function_43 : decode prog_1_method_6_code 43 = .ok (.iconst 3, 1) := by decide +kernel
theorem dw_T_function_44 : decode prog_1_method_6_code 44 = .ok (.iconst 0, 1) := by decide +kernel
theorem dw_T_function_45 : decode prog_1_method_6_code 45 = .ok (.bipush 101, 2) := by decide +kernel
theorem dw_T_function_47 : decode prog_1_method_6_code 47 = .ok (.iconst 0, 1) := by decide +kernel
theorem dw_T_function_48 : decode prog_1_method_6_code 48 = .ok (.invokevirtual 102, 3) := by decide +kernel
theorem dw_T_function_51 : decode prog_1_method_6_code 51 = .ok (.istore_n 3, 1) := by decide +kernel
theorem dw_T_function_52 : decode prog_1_method_6_code 52 = .ok (.aload_n 0, 1) := by decide +kernel
theorem dw_T_function_53 : decode prog_1_method_6_code 53 = .ok (.getfield 26, 3) := by decide +kernel
theorem dw_T_function_56 : decode prog_1_method_6_code 56 = .ok (.iload_n 3, 1) := by decide +kernel
theorem dw_T_function_57 : decode prog_1_method_6_code 57 = .ok (.iconst 0, 1) := by decide +kernel
theorem dw_T_function_58 : decode prog_1_method_6_code 58 = .ok (.aload_n 0, 1) := by decide +kernel
theorem dw_T_function_59 : decode prog_1_method_6_code 59 = .ok (.getfield 26, 3) := by decide +kernel
theorem dw_T_function_62 : decode prog_1_method_6_code 62 = .ok (.iload_n 1, 1) := by decide +kernel
theorem dw_T_function_63 : decode prog_1_method_6_code 63 = .ok (.invokevirtual 81, 3) := by decide +kernel
theorem dw_T_function_36 : decode prog_1_method_6_code 36 = .ok (.bipush (-2), 2) := by decide +kernel
theorem dw_T_function_38 : decode prog_1_method_6_code 38 = .ok (.ireturn, 1) := by decide +kernel
theorem dw_T_variable_0 : decode prog_1_method_7_code 0 = .ok (.iload_n 2, 1) := by decide +kernel
theorem dw_T_variable_1 : decode prog_1_method_7_code 1 = .ok (.ifCond .lt 15, 3) := by decide +kernel
theorem dw_T_variable_16 : decode prog_1_method_7_code 16 = .ok (.iconst (-1), 1) := by decide +kernel
theorem dw_T_variable_17 : decode prog_1_method_7_code 17 = .ok (.ireturn, 1) := by decide +kernel
theorem dw_T_variable_4 : decode prog_1_method_7_code 4 = .ok (.aload_n 0, 1) := by decide +kernel
theorem dw_T_variable_5 : decode prog_1_method_7_code 5 = .ok (.getfield 12, 3) := by decide +kernel
theorem dw_T_variable_8 : decode prog_1_method_7_code 8 = .ok (.iload_n 2, 1) := by decide +kernel
theorem dw_T_variable_9 : decode prog_1_method_7_code 9 = .ok (.iload_n 1, 1) := by decide +kernel
theorem dw_T_variable_10 : decode prog_1_method_7_code 10 = .ok (.invokevirtual 138, 3) := by decide +kernel
theorem dw_T_variable_13 : decode prog_1_method_7_code 13 = .ok (.ifCond .ne 5, 3) := by decide +kernel
theorem dw_T_variable_18 : decode prog_1_method_7_code 18 = .ok (.aload_n 0, 1) := by decide +kernel
theorem dw_T_variable_19 : decode prog_1_method_7_code 19 = .ok (.iconst 0, 1) := by decide +kernel
theorem dw_T_variable_20 : decode prog_1_method_7_code 20 = .ok (.iload_n 2, 1) := by decide +kernel
theorem dw_T_variable_21 : decode prog_1_method_7_code 21 = .ok (.iload_n 1, 1) := by decide +kernel
theorem dw_T_variable_22 : decode prog_1_method_7_code 22 = .ok (.invokevirtual 142, 3) := by decide +kernel
theorem dw_T_variable_25 : decode prog_1_method_7_code 25 = .ok (.ireturn, 1) := by decide +kernel
theorem dw_T_rigid_0 : decode prog_1_method_8_code 0 = .ok (.aload_n 0, 1) := by decide +kernel
theorem dw_T_rigid_1 : decode prog_1_method_8_code 1 = .ok (.iconst 1, 1) := by decide +kernel
theorem dw_T_rigid_2 : decode prog_1_method_8_code 2 = .ok (.iconst 0, 1) := by decide +kernel
theorem dw_T_rigid_3 : decode prog_1_method_8_code 3 = .ok (.iload_n 1, 1) := by decide +kernel
theorem dw_T_rigid_4 : decode prog_1_method_8_code 4 = .ok (.invokevirtual 142, 3) := by decide +kernel
theorem dw_T_rigid_7 : decode prog_1_method_8_code 7 = .ok (.ireturn, 1) := by decide +kernel
theorem dw_T_level_0 : decode prog_1_method_10_code 0 = .ok (.iload_n 1, 1) := by decide +kernel
theorem dw_T_level_1 : decode prog_1_method_10_code 1 = .ok (.ifCond .lt 9, 3) := by decide +kernel
theorem dw_T_level_10 : decode prog_1_method_10_code 10 = .ok (.iconst (-1), 1) := by decide +kernel
theorem dw_T_level_11 : decode prog_1_method_10_code 11 = .ok (.ireturn, 1) := by decide +kernel
theorem dw_T_level_4 : decode prog_1_method_10_code 4 = .ok (.iload_n 1, 1) := by decide +kernel
theorem dw_T_level_5 : decode prog_1_method_10_code 5 = .ok (.bipush 100, 2) := by decide +kernel
theorem dw_T_level_7 : decode prog_1_method_10_code 7 = .ok (.if_icmp .le 5, 3) := by decide +kernel
theorem dw_T_level_12 : decode prog_1_method_10_code 12 = .ok (.aload_n 0, 1) := by decide +kernel
theorem dw_T_level_13 : decode prog_1_method_10_code 13 = .ok (.getfield 66, 3) := by decide +kernel
theorem dw_T_level_16 : decode prog_1_method_10_code 16 = .ok (.istore_n 2, 1) := by decide +kernel
theorem dw_T_level_17 : decode prog_1_method_10_code 17 = .ok (.aload_n 0, 1) := by decide +kernel
theorem dw_T_level_18 : decode prog_1_method_10_code 18 = .ok (.iload_n 1, 1) := by decide +kernel
theorem dw_T_level_19 : decode prog_1_method_10_code 19 = .ok (.putfield 66, 3) := by decide +kernel
theorem dw_T_level_22 : decode prog_1_method_10_code 22 = .ok (.iload_n 2, 1) := by decide +kernel
theorem dw_T_level_23 : decode prog_1_method_10_code 23 = .ok (.ireturn, 1) := by decide +kernel
theorem dw_T_unify_0 : decode prog_1_method_11_code 0 = .ok (.aload_n 0, 1) := by decide +kernel
theorem dw_T_unify_1 : decode prog_1_method_11_code 1 = .ok (.getfield 26, 3) := by decide +kernel
theorem dw_T_unify_4 : decode prog_1_method_11_code 4 = .ok (.iload_n 1, 1) := by decide +kernel
theorem dw_T_unify_5 : decode prog_1_method_11_code 5 = .ok (.invokevirtual 74, 3) := by decide +kernel
theorem dw_T_unify_8 : decode prog_1_method_11_code 8 = .ok (.ifCond .eq 44, 3) := by decide +kernel
theorem dw_T_unify_52 : decode prog_1_method_11_code 52 = .ok (.iconst 0, 1) := by decide +kernel
theorem dw_T_unify_53 : decode prog_1_method_11_code 53 = .ok (.ireturn, 1) := by decide +kernel
theorem dw_T_unify_11 : decode prog_1_method_11_code 11 = .ok (.aload_n 0, 1) := by decide +kernel
theorem dw_T_unify_12 : decode prog_1_method_11_code 12 = .ok (.getfield 26, 3) := by decide +kernel
theorem dw_T_unify_15 : decode prog_1_method_11_code 15 = .ok (.iload_n 2, 1) := by decide +kernel
theorem dw_T_unify_16 : decode prog_1_method_11_code 16 = .ok (.invokevirtual 74, 3) := by decide +kernel
theorem dw_T_unify_19 : decode prog_1_method_11_code 19 = .ok (.ifCond .eq 33, 3) := by decide +kernel
theorem dw_T_unify_22 : decode prog_1_method_11_code 22 = .ok (.aload_n 0, 1) := by decide +kernel
theorem dw_T_unify_23 : decode prog_1_method_11_code 23 = .ok (.getfield 53, 3) := by decide +kernel
theorem dw_T_unify_26 : decode prog_1_method_11_code 26 = .ok (.aload_n 0, 1) := by decide +kernel
theorem dw_T_unify_27 : decode prog_1_method_11_code 27 = .ok (.getfield 26, 3) := by decide +kernel
theorem dw_T_unify_30 : decode prog_1_method_11_code 30 = .ok (.iload_n 1, 1) := by decide +kernel
theorem dw_T_unify_31 : decode prog_1_method_11_code 31 = .ok (.invokevirtual 81, 3) := by decide +kernel
theorem dw_T_same_0 : decode prog_1_method_12_code 0 = .ok (.aload_n 0, 1) := by decide +kernel
theorem dw_T_same_1 : decode prog_1_method_12_code 1 = .ok (.getfield 26, 3) := by decide +kernel
theorem dw_T_same_4 : decode prog_1_method_12_code 4 = .ok (.iload_n 1, 1) := by decide +kernel
theorem dw_T_same_5 : decode prog_1_method_12_code 5 = .ok (.lload_n 2, 1) := by decide +kernel
theorem dw_T_same_6 : decode prog_1_method_12_code 6 = .ok (.invokevirtual 149, 3) := by decide +kernel
theorem dw_T_same_9 : decode prog_1_method_12_code 9 = .ok (.istore 7, 2) := by decide +kernel
theorem dw_T_same_11 : decode prog_1_method_12_code 11 = .ok (.aload_n 0, 1) := by decide +kernel
theorem dw_T_same_12 : decode prog_1_method_12_code 12 = .ok (.getfield 26, 3) := by decide +kernel
theorem dw_T_same_15 : decode prog_1_method_12_code 15 = .ok (.iload 4, 2) := by decide +kernel
theorem dw_T_same_17 : decode prog_1_method_12_code 17 = .ok (.lload 5, 2) := by decide +kernel
theorem dw_T_same_19 : decode prog_1_method_12_code 19 = .ok (.invokevirtual 149, 3) := by decide +kernel
theorem dw_T_same_22 : decode prog_1_method_12_code 22 = .ok (.istore 8, 2) := by decide +kernel
theorem dw_T_same_24 : decode prog_1_method_12_code 24 = .ok (.iload 7, 2) := by decide +kernel
theorem dw_T_same_26 : decode prog_1_method_12_code 26 = .ok (.iconst (-1), 1) := by decide +kernel
theorem dw_T_same_27 : decode prog_1_method_12_code 27 = .ok (.if_icmp .eq 36, 3) := by decide +kernel
theorem dw_T_same_63 : decode prog_1_method_12_code 63 = .ok (.iconst 0, 1) := by decide +kernel
theorem dw_T_same_64 : decode prog_1_method_12_code 64 = .ok (.ireturn, 1) := by decide +kernel
theorem dw_T_same_30 : decode prog_1_method_12_code 30 = .ok (.iload 8, 2) := by decide +kernel
theorem dw_T_same_32 : decode prog_1_method_12_code 32 = .ok (.iconst (-1), 1) := by decide +kernel
theorem dw_T_same_33 : decode prog_1_method_12_code 33 = .ok (.if_icmp .eq 30, 3) := by decide +kernel
theorem dw_T_same_36 : decode prog_1_method_12_code 36 = .ok (.aload_n 0, 1) := by decide +kernel
theorem dw_T_same_37 : decode prog_1_method_12_code 37 = .ok (.getfield 26, 3) := by decide +kernel
theorem dw_T_same_40 : decode prog_1_method_12_code 40 = .ok (.getfield 153, 3) := by decide +kernel
theorem dw_T_same_43 : decode prog_1_method_12_code 43 = .ok (.iload 7, 2) := by decide +kernel
theorem dw_T_same_45 : decode prog_1_method_12_code 45 = .ok (.invokevirtual 110, 3) := by decide +kernel
theorem dw_T_same_48 : decode prog_1_method_12_code 48 = .ok (.aload_n 0, 1) := by decide +kernel
theorem dw_T_same_49 : decode prog_1_method_12_code 49 = .ok (.getfield 26, 3) := by decide +kernel
theorem dw_T_same_52 : decode prog_1_method_12_code 52 = .ok (.getfield 153, 3) := by decide +kernel
theorem dw_T_same_55 : decode prog_1_method_12_code 55 = .ok (.iload 8, 2) := by decide +kernel
theorem dw_T_same_57 : decode prog_1_method_12_code 57 = .ok (.invokevirtual 110, 3) := by decide +kernel
theorem dw_T_same_60 : decode prog_1_method_12_code 60 = .ok (.if_icmp .eq 5, 3) := by decide +kernel
theorem dw_T_same_65 : decode prog_1_method_12_code 65 = .ok (.aload_n 0, 1) := by decide +kernel
theorem dw_T_same_66 : decode prog_1_method_12_code 66 = .ok (.getfield 44, 3) := by decide +kernel
theorem dw_T_same_69 : decode prog_1_method_12_code 69 = .ok (.iload 7, 2) := by decide +kernel
theorem dw_T_same_71 : decode prog_1_method_12_code 71 = .ok (.iload 8, 2) := by decide +kernel
theorem dw_T_same_73 : decode prog_1_method_12_code 73 = .ok (.invokevirtual 156, 3) := by decide +kernel
theorem dw_T_look_0 : decode prog_1_method_13_code 0 = .ok (.aload_n 0, 1) := by decide +kernel
theorem dw_T_look_1 : decode prog_1_method_13_code 1 = .ok (.getfield 26, 3) := by decide +kernel
theorem dw_T_look_4 : decode prog_1_method_13_code 4 = .ok (.iload_n 1, 1) := by decide +kernel
theorem dw_T_look_5 : decode prog_1_method_13_code 5 = .ok (.lload_n 2, 1) := by decide +kernel
theorem dw_T_look_6 : decode prog_1_method_13_code 6 = .ok (.invokevirtual 149, 3) := by decide +kernel
theorem dw_T_look_9 : decode prog_1_method_13_code 9 = .ok (.istore 5, 2) := by decide +kernel
theorem dw_T_look_11 : decode prog_1_method_13_code 11 = .ok (.iload 5, 2) := by decide +kernel
theorem dw_T_look_13 : decode prog_1_method_13_code 13 = .ok (.iconst (-1), 1) := by decide +kernel
theorem dw_T_look_14 : decode prog_1_method_13_code 14 = .ok (.if_icmp .ne 5, 3) := by decide +kernel
theorem dw_T_look_19 : decode prog_1_method_13_code 19 = .ok (.aload_n 0, 1) := by decide +kernel
theorem dw_T_look_20 : decode prog_1_method_13_code 20 = .ok (.getfield 26, 3) := by decide +kernel
theorem dw_T_look_23 : decode prog_1_method_13_code 23 = .ok (.getfield 153, 3) := by decide +kernel
theorem dw_T_look_26 : decode prog_1_method_13_code 26 = .ok (.iload 5, 2) := by decide +kernel
theorem dw_T_look_28 : decode prog_1_method_13_code 28 = .ok (.invokevirtual 110, 3) := by decide +kernel
theorem dw_T_look_31 : decode prog_1_method_13_code 31 = .ok (.istore 6, 2) := by decide +kernel
theorem dw_T_look_33 : decode prog_1_method_13_code 33 = .ok (.iload 4, 2) := by decide +kernel
theorem dw_T_look_35 : decode prog_1_method_13_code 35 = .ok (.tableswitch 153 0 6 #[41, 44, 67, 77, 95, 102, 124], 41) := by decide +kernel
theorem dw_T_look_188 : decode prog_1_method_13_code 188 = .ok (.iconst (-1), 1) := by decide +kernel
theorem dw_T_look_189 : decode prog_1_method_13_code 189 = .ok (.ireturn, 1) := by decide +kernel
theorem dw_T_look_76 : decode prog_1_method_13_code 76 = .ok (.iload 6, 2) := by decide +kernel
theorem dw_T_look_78 : decode prog_1_method_13_code 78 = .ok (.ireturn, 1) := by decide +kernel
theorem dw_T_look_79 : decode prog_1_method_13_code 79 = .ok (.iload 6, 2) := by decide +kernel
theorem dw_T_look_81 : decode prog_1_method_13_code 81 = .ok (.iconst 2, 1) := by decide +kernel
theorem dw_T_look_82 : decode prog_1_method_13_code 82 = .ok (.if_icmp .ne 18, 3) := by decide +kernel
theorem dw_T_look_100 : decode prog_1_method_13_code 100 = .ok (.iconst (-1), 1) := by decide +kernel
theorem dw_T_look_101 : decode prog_1_method_13_code 101 = .ok (.ireturn, 1) := by decide +kernel
theorem dw_T_look_85 : decode prog_1_method_13_code 85 = .ok (.aload_n 0, 1) := by decide +kernel
theorem dw_T_look_86 : decode prog_1_method_13_code 86 = .ok (.getfield 26, 3) := by decide +kernel
theorem dw_T_look_89 : decode prog_1_method_13_code 89 = .ok (.getfield 162, 3) := by decide +kernel
theorem dw_T_look_92 : decode prog_1_method_13_code 92 = .ok (.iload 5, 2) := by decide +kernel
theorem dw_T_look_94 : decode prog_1_method_13_code 94 = .ok (.invokevirtual 110, 3) := by decide +kernel
theorem dw_T_look_97 : decode prog_1_method_13_code 97 = .ok (.goto 4, 3) := by decide +kernel
theorem dw_T_look_102 : decode prog_1_method_13_code 102 = .ok (.aload_n 0, 1) := by decide +kernel
theorem dw_T_look_103 : decode prog_1_method_13_code 103 = .ok (.getfield 26, 3) := by decide +kernel
theorem dw_T_look_106 : decode prog_1_method_13_code 106 = .ok (.iload 5, 2) := by decide +kernel
theorem dw_T_look_108 : decode prog_1_method_13_code 108 = .ok (.invokevirtual 165, 3) := by decide +kernel
theorem dw_T_look_112 : decode prog_1_method_13_code 112 = .ok (.aload_n 0, 1) := by decide +kernel
theorem dw_T_look_113 : decode prog_1_method_13_code 113 = .ok (.getfield 35, 3) := by decide +kernel
theorem dw_T_look_116 : decode prog_1_method_13_code 116 = .ok (.iload 5, 2) := by decide +kernel
theorem dw_T_look_118 : decode prog_1_method_13_code 118 = .ok (.invokevirtual 168, 3) := by decide +kernel
theorem dw_T_look_130 : decode prog_1_method_13_code 130 = .ok (.aload_n 0, 1) := by decide +kernel
theorem dw_T_look_131 : decode prog_1_method_13_code 131 = .ok (.iload 5, 2) := by decide +kernel
theorem dw_T_look_133 : decode prog_1_method_13_code 133 = .ok (.invokevirtual 171, 3) := by decide +kernel
theorem dw_T_look_137 : decode prog_1_method_13_code 137 = .ok (.iload 6, 2) := by decide +kernel
theorem dw_T_look_139 : decode prog_1_method_13_code 139 = .ok (.ifCond .ne 18, 3) := by decide +kernel
theorem dw_T_look_157 : decode prog_1_method_13_code 157 = .ok (.iconst (-1), 1) := by decide +kernel
theorem dw_T_look_158 : decode prog_1_method_13_code 158 = .ok (.ireturn, 1) := by decide +kernel
theorem dw_T_look_142 : decode prog_1_method_13_code 142 = .ok (.aload_n 0, 1) := by decide +kernel
theorem dw_T_look_143 : decode prog_1_method_13_code 143 = .ok (.getfield 26, 3) := by decide +kernel
theorem dw_T_look_146 : decode prog_1_method_13_code 146 = .ok (.getfield 162, 3) := by decide +kernel
theorem dw_T_look_149 : decode prog_1_method_13_code 149 = .ok (.iload 5, 2) := by decide +kernel
theorem dw_T_look_151 : decode prog_1_method_13_code 151 = .ok (.invokevirtual 110, 3) := by decide +kernel
theorem dw_T_look_154 : decode prog_1_method_13_code 154 = .ok (.goto 4, 3) := by decide +kernel
theorem dw_T_look_159 : decode prog_1_method_13_code 159 = .ok (.iload 6, 2) := by decide +kernel
theorem dw_T_look_161 : decode prog_1_method_13_code 161 = .ok (.iconst 4, 1) := by decide +kernel
theorem dw_T_look_162 : decode prog_1_method_13_code 162 = .ok (.if_icmp .eq 7, 3) := by decide +kernel
theorem dw_T_look_169 : decode prog_1_method_13_code 169 = .ok (.aload_n 0, 1) := by decide +kernel
theorem dw_T_look_170 : decode prog_1_method_13_code 170 = .ok (.getfield 26, 3) := by decide +kernel
theorem dw_T_look_173 : decode prog_1_method_13_code 173 = .ok (.iload 5, 2) := by decide +kernel
theorem dw_T_look_175 : decode prog_1_method_13_code 175 = .ok (.invokevirtual 174, 3) := by decide +kernel
theorem dw_T_look_165 : decode prog_1_method_13_code 165 = .ok (.iconst (-1), 1) := by decide +kernel
theorem dw_T_look_166 : decode prog_1_method_13_code 166 = .ok (.goto 21, 3) := by decide +kernel
theorem dw_T_look_187 : decode prog_1_method_13_code 187 = .ok (.ireturn, 1) := by decide +kernel
theorem dw_T_look_17 : decode prog_1_method_13_code 17 = .ok (.iconst (-1), 1) := by decide +kernel
theorem dw_T_look_18 : decode prog_1_method_13_code 18 = .ok (.ireturn, 1) := by decide +kernel
theorem dw_T_label_0 : decode prog_1_method_15_code 0 = .ok (.aload_n 0, 1) := by decide +kernel
theorem dw_T_label_1 : decode prog_1_method_15_code 1 = .ok (.getfield 26, 3) := by decide +kernel
theorem dw_T_label_4 : decode prog_1_method_15_code 4 = .ok (.iload_n 1, 1) := by decide +kernel
theorem dw_T_label_5 : decode prog_1_method_15_code 5 = .ok (.lload_n 2, 1) := by decide +kernel
theorem dw_T_label_6 : decode prog_1_method_15_code 6 = .ok (.invokevirtual 149, 3) := by decide +kernel
theorem dw_T_label_9 : decode prog_1_method_15_code 9 = .ok (.istore 5, 2) := by decide +kernel
theorem dw_T_label_11 : decode prog_1_method_15_code 11 = .ok (.iload 5, 2) := by decide +kernel
theorem dw_T_label_13 : decode prog_1_method_15_code 13 = .ok (.iconst (-1), 1) := by decide +kernel
theorem dw_T_label_14 : decode prog_1_method_15_code 14 = .ok (.if_icmp .eq 19, 3) := by decide +kernel
theorem dw_T_label_33 : decode prog_1_method_15_code 33 = .ok (.iconst (-1), 1) := by decide +kernel
theorem dw_T_label_34 : decode prog_1_method_15_code 34 = .ok (.ireturn, 1) := by decide +kernel
theorem dw_T_label_17 : decode prog_1_method_15_code 17 = .ok (.aload_n 0, 1) := by decide +kernel
theorem dw_T_label_18 : decode prog_1_method_15_code 18 = .ok (.getfield 26, 3) := by decide +kernel
theorem dw_T_label_21 : decode prog_1_method_15_code 21 = .ok (.getfield 153, 3) := by decide +kernel
theorem dw_T_label_24 : decode prog_1_method_15_code 24 = .ok (.iload 5, 2) := by decide +kernel
theorem dw_T_label_26 : decode prog_1_method_15_code 26 = .ok (.invokevirtual 110, 3) := by decide +kernel
theorem dw_T_label_29 : decode prog_1_method_15_code 29 = .ok (.iconst 4, 1) := by decide +kernel
theorem dw_T_label_30 : decode prog_1_method_15_code 30 = .ok (.if_icmp .eq 5, 3) := by decide +kernel
theorem dw_T_label_35 : decode prog_1_method_15_code 35 = .ok (.aload_n 0, 1) := by decide +kernel
theorem dw_T_label_36 : decode prog_1_method_15_code 36 = .ok (.getfield 26, 3) := by decide +kernel
theorem dw_T_label_39 : decode prog_1_method_15_code 39 = .ok (.iload 5, 2) := by decide +kernel
theorem dw_T_label_41 : decode prog_1_method_15_code 41 = .ok (.iload 4, 2) := by decide +kernel
theorem dw_T_label_43 : decode prog_1_method_15_code 43 = .ok (.invokevirtual 180, 3) := by decide +kernel
theorem dw_T_scheme_0 : decode prog_1_method_16_code 0 = .ok (.aload_n 0, 1) := by decide +kernel
theorem dw_T_scheme_1 : decode prog_1_method_16_code 1 = .ok (.getfield 26, 3) := by decide +kernel
theorem dw_T_scheme_4 : decode prog_1_method_16_code 4 = .ok (.iload_n 1, 1) := by decide +kernel
theorem dw_T_scheme_5 : decode prog_1_method_16_code 5 = .ok (.invokevirtual 74, 3) := by decide +kernel
theorem dw_T_scheme_8 : decode prog_1_method_16_code 8 = .ok (.ifCond .ne 5, 3) := by decide +kernel
theorem dw_T_scheme_13 : decode prog_1_method_16_code 13 = .ok (.aload_n 0, 1) := by decide +kernel
theorem dw_T_scheme_14 : decode prog_1_method_16_code 14 = .ok (.getfield 26, 3) := by decide +kernel
theorem dw_T_scheme_17 : decode prog_1_method_16_code 17 = .ok (.aload_n 0, 1) := by decide +kernel
theorem dw_T_scheme_18 : decode prog_1_method_16_code 18 = .ok (.getfield 26, 3) := by decide +kernel
theorem dw_T_scheme_21 : decode prog_1_method_16_code 21 = .ok (.iload_n 1, 1) := by decide +kernel
theorem dw_T_scheme_22 : decode prog_1_method_16_code 22 = .ok (.invokevirtual 81, 3) := by decide +kernel
theorem dw_T_scheme_11 : decode prog_1_method_16_code 11 = .ok (.iconst (-1), 1) := by decide +kernel
theorem dw_T_scheme_12 : decode prog_1_method_16_code 12 = .ok (.ireturn, 1) := by decide +kernel
theorem dw_T_quantified_0 : decode prog_1_method_17_code 0 = .ok (.aload_n 0, 1) := by decide +kernel
theorem dw_T_quantified_1 : decode prog_1_method_17_code 1 = .ok (.getfield 62, 3) := by decide +kernel
theorem dw_T_quantified_4 : decode prog_1_method_17_code 4 = .ok (.iload_n 1, 1) := by decide +kernel
theorem dw_T_quantified_5 : decode prog_1_method_17_code 5 = .ok (.invokevirtual 190, 3) := by decide +kernel
theorem dw_T_quantified_8 : decode prog_1_method_17_code 8 = .ok (.ifCond .ne 5, 3) := by decide +kernel
theorem dw_T_quantified_13 : decode prog_1_method_17_code 13 = .ok (.iload_n 2, 1) := by decide +kernel
theorem dw_T_quantified_14 : decode prog_1_method_17_code 14 = .ok (.tableswitch 67 0 2 #[26, 38, 55], 26) := by decide +kernel
theorem dw_T_quantified_81 : decode prog_1_method_17_code 81 = .ok (.iconst (-1), 1) := by decide +kernel
theorem dw_T_quantified_82 : decode prog_1_method_17_code 82 = .ok (.ireturn, 1) := by decide +kernel
theorem dw_T_quantified_40 : decode prog_1_method_17_code 40 = .ok (.aload_n 0, 1) := by decide +kernel
theorem dw_T_quantified_41 : decode prog_1_method_17_code 41 = .ok (.getfield 62, 3) := by decide +kernel
theorem dw_T_quantified_44 : decode prog_1_method_17_code 44 = .ok (.getfield 191, 3) := by decide +kernel
theorem dw_T_quantified_47 : decode prog_1_method_17_code 47 = .ok (.iload_n 1, 1) := by decide +kernel
theorem dw_T_quantified_48 : decode prog_1_method_17_code 48 = .ok (.invokevirtual 110, 3) := by decide +kernel
theorem dw_T_quantified_51 : decode prog_1_method_17_code 51 = .ok (.ireturn, 1) := by decide +kernel
theorem dw_T_quantified_52 : decode prog_1_method_17_code 52 = .ok (.aload_n 0, 1) := by decide +kernel
theorem dw_T_quantified_53 : decode prog_1_method_17_code 53 = .ok (.getfield 62, 3) := by decide +kernel
theorem dw_T_quantified_56 : decode prog_1_method_17_code 56 = .ok (.iload_n 1, 1) := by decide +kernel
theorem dw_T_quantified_57 : decode prog_1_method_17_code 57 = .ok (.invokevirtual 194, 3) := by decide +kernel
theorem dw_T_quantified_69 : decode prog_1_method_17_code 69 = .ok (.aload_n 0, 1) := by decide +kernel
theorem dw_T_quantified_70 : decode prog_1_method_17_code 70 = .ok (.getfield 62, 3) := by decide +kernel
theorem dw_T_quantified_73 : decode prog_1_method_17_code 73 = .ok (.getfield 197, 3) := by decide +kernel
theorem dw_T_quantified_76 : decode prog_1_method_17_code 76 = .ok (.iload_n 1, 1) := by decide +kernel
theorem dw_T_quantified_77 : decode prog_1_method_17_code 77 = .ok (.invokevirtual 110, 3) := by decide +kernel
theorem dw_T_quantified_80 : decode prog_1_method_17_code 80 = .ok (.ireturn, 1) := by decide +kernel
theorem dw_T_quantified_11 : decode prog_1_method_17_code 11 = .ok (.iconst (-1), 1) := by decide +kernel
theorem dw_T_quantified_12 : decode prog_1_method_17_code 12 = .ok (.ireturn, 1) := by decide +kernel
theorem dw_T_instance_0 : decode prog_1_method_18_code 0 = .ok (.aload_n 0, 1) := by decide +kernel
theorem dw_T_instance_1 : decode prog_1_method_18_code 1 = .ok (.getfield 62, 3) := by decide +kernel
theorem dw_T_instance_4 : decode prog_1_method_18_code 4 = .ok (.iload_n 1, 1) := by decide +kernel
theorem dw_T_instance_5 : decode prog_1_method_18_code 5 = .ok (.invokevirtual 190, 3) := by decide +kernel
theorem dw_T_instance_8 : decode prog_1_method_18_code 8 = .ok (.ifCond .eq 18, 3) := by decide +kernel
theorem dw_T_instance_26 : decode prog_1_method_18_code 26 = .ok (.iconst (-1), 1) := by decide +kernel
theorem dw_T_instance_27 : decode prog_1_method_18_code 27 = .ok (.ireturn, 1) := by decide +kernel
theorem dw_T_instance_11 : decode prog_1_method_18_code 11 = .ok (.aload_n 0, 1) := by decide +kernel
theorem dw_T_instance_12 : decode prog_1_method_18_code 12 = .ok (.getfield 62, 3) := by decide +kernel
theorem dw_T_instance_15 : decode prog_1_method_18_code 15 = .ok (.iload_n 1, 1) := by decide +kernel
theorem dw_T_instance_16 : decode prog_1_method_18_code 16 = .ok (.aload_n 0, 1) := by decide +kernel
theorem dw_T_instance_17 : decode prog_1_method_18_code 17 = .ok (.getfield 66, 3) := by decide +kernel
theorem dw_T_instance_20 : decode prog_1_method_18_code 20 = .ok (.invokevirtual 200, 3) := by decide +kernel
theorem dw_T_alike_0 : decode prog_1_method_19_code 0 = .ok (.aload_n 0, 1) := by decide +kernel
theorem dw_T_alike_1 : decode prog_1_method_19_code 1 = .ok (.getfield 62, 3) := by decide +kernel
theorem dw_T_alike_4 : decode prog_1_method_19_code 4 = .ok (.iload_n 1, 1) := by decide +kernel
theorem dw_T_alike_5 : decode prog_1_method_19_code 5 = .ok (.invokevirtual 190, 3) := by decide +kernel
theorem dw_T_alike_8 : decode prog_1_method_19_code 8 = .ok (.ifCond .eq 52, 3) := by decide +kernel
theorem dw_T_alike_60 : decode prog_1_method_19_code 60 = .ok (.iconst 0, 1) := by decide +kernel
theorem dw_T_alike_61 : decode prog_1_method_19_code 61 = .ok (.ireturn, 1) := by decide +kernel
theorem dw_T_alike_11 : decode prog_1_method_19_code 11 = .ok (.aload_n 0, 1) := by decide +kernel
theorem dw_T_alike_12 : decode prog_1_method_19_code 12 = .ok (.getfield 62, 3) := by decide +kernel
theorem dw_T_alike_15 : decode prog_1_method_19_code 15 = .ok (.iload_n 2, 1) := by decide +kernel
theorem dw_T_alike_16 : decode prog_1_method_19_code 16 = .ok (.invokevirtual 190, 3) := by decide +kernel
theorem dw_T_alike_19 : decode prog_1_method_19_code 19 = .ok (.ifCond .eq 41, 3) := by decide +kernel
theorem dw_T_alike_22 : decode prog_1_method_19_code 22 = .ok (.aload_n 0, 1) := by decide +kernel
theorem dw_T_alike_23 : decode prog_1_method_19_code 23 = .ok (.getfield 62, 3) := by decide +kernel
theorem dw_T_alike_26 : decode prog_1_method_19_code 26 = .ok (.iload_n 1, 1) := by decide +kernel
theorem dw_T_alike_27 : decode prog_1_method_19_code 27 = .ok (.invokevirtual 194, 3) := by decide +kernel
theorem dw_T_clear_0 : decode prog_1_method_20_code 0 = .ok (.iload_n 1, 1) := by decide +kernel
theorem dw_T_clear_1 : decode prog_1_method_20_code 1 = .ok (.ifCond .lt 26, 3) := by decide +kernel
theorem dw_T_clear_27 : decode prog_1_method_20_code 27 = .ok (.iconst 0, 1) := by decide +kernel
theorem dw_T_clear_28 : decode prog_1_method_20_code 28 = .ok (.ireturn, 1) := by decide +kernel
theorem dw_T_clear_4 : decode prog_1_method_20_code 4 = .ok (.iload_n 1, 1) := by decide +kernel
theorem dw_T_clear_5 : decode prog_1_method_20_code 5 = .ok (.aload_n 0, 1) := by decide +kernel
theorem dw_T_clear_6 : decode prog_1_method_20_code 6 = .ok (.getfield 12, 3) := by decide +kernel
theorem dw_T_clear_9 : decode prog_1_method_20_code 9 = .ok (.getfield 206, 3) := by decide +kernel
theorem dw_T_clear_12 : decode prog_1_method_20_code 12 = .ok (.if_icmp .gt 15, 3) := by decide +kernel
theorem dw_T_clear_15 : decode prog_1_method_20_code 15 = .ok (.aload_n 0, 1) := by decide +kernel
theorem dw_T_clear_16 : decode prog_1_method_20_code 16 = .ok (.getfield 62, 3) := by decide +kernel
theorem dw_T_clear_19 : decode prog_1_method_20_code 19 = .ok (.iload_n 2, 1) := by decide +kernel
theorem dw_T_clear_20 : decode prog_1_method_20_code 20 = .ok (.iload_n 1, 1) := by decide +kernel
theorem dw_T_clear_21 : decode prog_1_method_20_code 21 = .ok (.invokevirtual 207, 3) := by decide +kernel
theorem dw_T_clear_24 : decode prog_1_method_20_code 24 = .ok (.ifCond .ne 5, 3) := by decide +kernel
theorem dw_T_clear_29 : decode prog_1_method_20_code 29 = .ok (.aload_n 0, 1) := by decide +kernel
theorem dw_T_clear_30 : decode prog_1_method_20_code 30 = .ok (.getfield 12, 3) := by decide +kernel
theorem dw_T_clear_33 : decode prog_1_method_20_code 33 = .ok (.iload_n 1, 1) := by decide +kernel
theorem dw_T_clear_34 : decode prog_1_method_20_code 34 = .ok (.putfield 206, 3) := by decide +kernel
theorem dw_T_clear_37 : decode prog_1_method_20_code 37 = .ok (.aload_n 0, 1) := by decide +kernel
theorem dw_T_clear_38 : decode prog_1_method_20_code 38 = .ok (.getfield 62, 3) := by decide +kernel
theorem dw_T_clear_41 : decode prog_1_method_20_code 41 = .ok (.iload_n 2, 1) := by decide +kernel
theorem dw_T_clear_42 : decode prog_1_method_20_code 42 = .ok (.invokevirtual 210, 3) := by decide +kernel
theorem dw_T_clear_45 : decode prog_1_method_20_code 45 = .ok (.aload_n 0, 1) := by decide +kernel
theorem dw_T_clear_46 : decode prog_1_method_20_code 46 = .ok (.getfield 26, 3) := by decide +kernel
theorem dw_T_clear_49 : decode prog_1_method_20_code 49 = .ok (.invokevirtual 214, 3) := by decide +kernel
theorem dw_T_clear_52 : decode prog_1_method_20_code 52 = .ok (.aload_n 0, 1) := by decide +kernel
theorem dw_T_clear_53 : decode prog_1_method_20_code 53 = .ok (.getfield 19, 3) := by decide +kernel
theorem dw_T_clear_56 : decode prog_1_method_20_code 56 = .ok (.invokevirtual 119, 3) := by decide +kernel
theorem dw_T_clear_59 : decode prog_1_method_20_code 59 = .ok (.aload_n 0, 1) := by decide +kernel
theorem dw_T_clear_60 : decode prog_1_method_20_code 60 = .ok (.iconst 0, 1) := by decide +kernel
theorem dw_T_clear_61 : decode prog_1_method_20_code 61 = .ok (.putfield 66, 3) := by decide +kernel
theorem dw_T_clear_64 : decode prog_1_method_20_code 64 = .ok (.iconst 1, 1) := by decide +kernel
theorem dw_T_clear_65 : decode prog_1_method_20_code 65 = .ok (.ireturn, 1) := by decide +kernel
theorem dw_T_count_0 : decode prog_1_method_21_code 0 = .ok (.iload_n 1, 1) := by decide +kernel
theorem dw_T_count_1 : decode prog_1_method_21_code 1 = .ok (.tableswitch 120 0 8 #[51, 59, 67, 75, 83, 91, 99, 107, 115], 51) := by decide +kernel
theorem dw_T_count_121 : decode prog_1_method_21_code 121 = .ok (.iconst (-1), 1) := by decide +kernel
theorem dw_T_count_122 : decode prog_1_method_21_code 122 = .ok (.ireturn, 1) := by decide +kernel
theorem dw_T_count_52 : decode prog_1_method_21_code 52 = .ok (.aload_n 0, 1) := by decide +kernel
theorem dw_T_count_53 : decode prog_1_method_21_code 53 = .ok (.getfield 12, 3) := by decide +kernel
theorem dw_T_count_56 : decode prog_1_method_21_code 56 = .ok (.getfield 206, 3) := by decide +kernel
theorem dw_T_count_59 : decode prog_1_method_21_code 59 = .ok (.ireturn, 1) := by decide +kernel
theorem dw_T_count_60 : decode prog_1_method_21_code 60 = .ok (.aload_n 0, 1) := by decide +kernel
theorem dw_T_count_61 : decode prog_1_method_21_code 61 = .ok (.getfield 26, 3) := by decide +kernel
theorem dw_T_count_64 : decode prog_1_method_21_code 64 = .ok (.getfield 215, 3) := by decide +kernel
theorem dw_T_count_67 : decode prog_1_method_21_code 67 = .ok (.ireturn, 1) := by decide +kernel
theorem dw_T_count_68 : decode prog_1_method_21_code 68 = .ok (.aload_n 0, 1) := by decide +kernel
theorem dw_T_count_69 : decode prog_1_method_21_code 69 = .ok (.getfield 19, 3) := by decide +kernel
theorem dw_T_count_72 : decode prog_1_method_21_code 72 = .ok (.getfield 92, 3) := by decide +kernel
theorem dw_T_count_75 : decode prog_1_method_21_code 75 = .ok (.ireturn, 1) := by decide +kernel
theorem dw_T_count_76 : decode prog_1_method_21_code 76 = .ok (.aload_n 0, 1) := by decide +kernel
theorem dw_T_count_77 : decode prog_1_method_21_code 77 = .ok (.getfield 62, 3) := by decide +kernel
theorem dw_T_count_80 : decode prog_1_method_21_code 80 = .ok (.getfield 218, 3) := by decide +kernel
theorem dw_T_count_83 : decode prog_1_method_21_code 83 = .ok (.ireturn, 1) := by decide +kernel
theorem dw_T_count_84 : decode prog_1_method_21_code 84 = .ok (.aload_n 0, 1) := by decide +kernel
theorem dw_T_count_85 : decode prog_1_method_21_code 85 = .ok (.getfield 26, 3) := by decide +kernel
theorem dw_T_count_88 : decode prog_1_method_21_code 88 = .ok (.getfield 219, 3) := by decide +kernel
theorem dw_T_count_91 : decode prog_1_method_21_code 91 = .ok (.ireturn, 1) := by decide +kernel
theorem dw_T_count_92 : decode prog_1_method_21_code 92 = .ok (.aload_n 0, 1) := by decide +kernel
theorem dw_T_count_93 : decode prog_1_method_21_code 93 = .ok (.getfield 62, 3) := by decide +kernel
theorem dw_T_count_96 : decode prog_1_method_21_code 96 = .ok (.getfield 222, 3) := by decide +kernel
theorem dw_T_count_99 : decode prog_1_method_21_code 99 = .ok (.ireturn, 1) := by decide +kernel
theorem dw_T_count_100 : decode prog_1_method_21_code 100 = .ok (.aload_n 0, 1) := by decide +kernel
theorem dw_T_count_101 : decode prog_1_method_21_code 101 = .ok (.getfield 62, 3) := by decide +kernel
theorem dw_T_count_104 : decode prog_1_method_21_code 104 = .ok (.getfield 223, 3) := by decide +kernel
theorem dw_T_count_107 : decode prog_1_method_21_code 107 = .ok (.ireturn, 1) := by decide +kernel
theorem dw_T_count_108 : decode prog_1_method_21_code 108 = .ok (.aload_n 0, 1) := by decide +kernel
theorem dw_T_count_109 : decode prog_1_method_21_code 109 = .ok (.getfield 26, 3) := by decide +kernel
theorem dw_T_count_112 : decode prog_1_method_21_code 112 = .ok (.getfield 125, 3) := by decide +kernel
theorem dw_T_count_115 : decode prog_1_method_21_code 115 = .ok (.ireturn, 1) := by decide +kernel
theorem dw_T_count_116 : decode prog_1_method_21_code 116 = .ok (.aload_n 0, 1) := by decide +kernel
theorem dw_T_count_117 : decode prog_1_method_21_code 117 = .ok (.getfield 66, 3) := by decide +kernel
theorem dw_T_count_120 : decode prog_1_method_21_code 120 = .ok (.ireturn, 1) := by decide +kernel
