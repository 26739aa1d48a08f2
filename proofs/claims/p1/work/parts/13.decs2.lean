theorem dw_M_isType_0 : decode prog_11_method_3_code 0 = .ok (.iload_n 1, 1) := by decide +kernel
theorem dw_M_isType_1 : decode prog_11_method_3_code 1 = .ok (.ifCond .lt 15, 3) := by decide +kernel
theorem dw_M_isType_16 : decode prog_11_method_3_code 16 = .ok (.iconst 0, 1) := by decide +kernel
theorem dw_M_isType_17 : decode prog_11_method_3_code 17 = .ok (.ireturn, 1) := by decide +kernel
theorem dw_M_isType_4 : decode prog_11_method_3_code 4 = .ok (.iload_n 1, 1) := by decide +kernel
theorem dw_M_isType_5 : decode prog_11_method_3_code 5 = .ok (.aload_n 0, 1) := by decide +kernel
theorem dw_M_isType_6 : decode prog_11_method_3_code 6 = .ok (.getfield 177, 3) := by decide +kernel
theorem dw_M_isType_9 : decode prog_11_method_3_code 9 = .ok (.if_icmp .ge 7, 3) := by decide +kernel
theorem dw_M_isType_12 : decode prog_11_method_3_code 12 = .ok (.iconst 1, 1) := by decide +kernel
theorem dw_M_isType_13 : decode prog_11_method_3_code 13 = .ok (.goto 4, 3) := by decide +kernel
theorem dw_M_make_0 : decode prog_11_method_4_code 0 = .ok (.aload_n 0, 1) := by decide +kernel
theorem dw_M_make_1 : decode prog_11_method_4_code 1 = .ok (.getfield 177, 3) := by decide +kernel
theorem dw_M_make_4 : decode prog_11_method_4_code 4 = .ok (.istore_n 3, 1) := by decide +kernel
theorem dw_M_make_5 : decode prog_11_method_4_code 5 = .ok (.aload_n 0, 1) := by decide +kernel
theorem dw_M_make_6 : decode prog_11_method_4_code 6 = .ok (.dup, 1) := by decide +kernel
theorem dw_M_make_7 : decode prog_11_method_4_code 7 = .ok (.getfield 177, 3) := by decide +kernel
theorem dw_M_make_10 : decode prog_11_method_4_code 10 = .ok (.iconst 1, 1) := by decide +kernel
theorem dw_M_make_11 : decode prog_11_method_4_code 11 = .ok (.iadd, 1) := by decide +kernel
theorem dw_M_make_12 : decode prog_11_method_4_code 12 = .ok (.putfield 177, 3) := by decide +kernel
theorem dw_M_make_15 : decode prog_11_method_4_code 15 = .ok (.aload_n 0, 1) := by decide +kernel
theorem dw_M_make_16 : decode prog_11_method_4_code 16 = .ok (.getfield 16, 3) := by decide +kernel
theorem dw_M_make_19 : decode prog_11_method_4_code 19 = .ok (.iload_n 3, 1) := by decide +kernel
theorem dw_M_make_20 : decode prog_11_method_4_code 20 = .ok (.iload_n 1, 1) := by decide +kernel
theorem dw_M_make_21 : decode prog_11_method_4_code 21 = .ok (.i2b, 1) := by decide +kernel
theorem dw_M_make_22 : decode prog_11_method_4_code 22 = .ok (.bastore, 1) := by decide +kernel
theorem dw_M_make_23 : decode prog_11_method_4_code 23 = .ok (.aload_n 0, 1) := by decide +kernel
theorem dw_M_make_24 : decode prog_11_method_4_code 24 = .ok (.getfield 19, 3) := by decide +kernel
theorem dw_M_make_27 : decode prog_11_method_4_code 27 = .ok (.iload_n 3, 1) := by decide +kernel
theorem dw_M_make_28 : decode prog_11_method_4_code 28 = .ok (.iload_n 2, 1) := by decide +kernel
theorem dw_M_make_29 : decode prog_11_method_4_code 29 = .ok (.iastore, 1) := by decide +kernel
theorem dw_M_make_30 : decode prog_11_method_4_code 30 = .ok (.aload_n 0, 1) := by decide +kernel
theorem dw_M_make_31 : decode prog_11_method_4_code 31 = .ok (.getfield 23, 3) := by decide +kernel
theorem dw_M_make_34 : decode prog_11_method_4_code 34 = .ok (.iload_n 3, 1) := by decide +kernel
theorem dw_M_make_35 : decode prog_11_method_4_code 35 = .ok (.aload_n 0, 1) := by decide +kernel
theorem dw_M_make_36 : decode prog_11_method_4_code 36 = .ok (.getfield 180, 3) := by decide +kernel
theorem dw_M_make_39 : decode prog_11_method_4_code 39 = .ok (.iastore, 1) := by decide +kernel
theorem dw_M_make_40 : decode prog_11_method_4_code 40 = .ok (.aload_n 0, 1) := by decide +kernel
theorem dw_M_make_41 : decode prog_11_method_4_code 41 = .ok (.getfield 26, 3) := by decide +kernel
theorem dw_M_make_44 : decode prog_11_method_4_code 44 = .ok (.iload_n 3, 1) := by decide +kernel
theorem dw_M_make_45 : decode prog_11_method_4_code 45 = .ok (.iconst 0, 1) := by decide +kernel
theorem dw_M_make_46 : decode prog_11_method_4_code 46 = .ok (.sastore, 1) := by decide +kernel
theorem dw_M_make_47 : decode prog_11_method_4_code 47 = .ok (.aload_n 0, 1) := by decide +kernel
theorem dw_M_make_48 : decode prog_11_method_4_code 48 = .ok (.getfield 30, 3) := by decide +kernel
theorem dw_M_make_51 : decode prog_11_method_4_code 51 = .ok (.iload_n 3, 1) := by decide +kernel
theorem dw_M_make_52 : decode prog_11_method_4_code 52 = .ok (.iconst (-1), 1) := by decide +kernel
theorem dw_M_make_53 : decode prog_11_method_4_code 53 = .ok (.iastore, 1) := by decide +kernel
theorem dw_M_make_54 : decode prog_11_method_4_code 54 = .ok (.aload_n 0, 1) := by decide +kernel
theorem dw_M_make_55 : decode prog_11_method_4_code 55 = .ok (.getfield 33, 3) := by decide +kernel
theorem dw_M_make_58 : decode prog_11_method_4_code 58 = .ok (.iload_n 3, 1) := by decide +kernel
theorem dw_M_make_59 : decode prog_11_method_4_code 59 = .ok (.aload_n 0, 1) := by decide +kernel
theorem dw_M_make_60 : decode prog_11_method_4_code 60 = .ok (.getfield 183, 3) := by decide +kernel
theorem dw_M_make_63 : decode prog_11_method_4_code 63 = .ok (.i2b, 1) := by decide +kernel
theorem dw_M_make_64 : decode prog_11_method_4_code 64 = .ok (.bastore, 1) := by decide +kernel
theorem dw_M_make_65 : decode prog_11_method_4_code 65 = .ok (.aload_n 0, 1) := by decide +kernel
theorem dw_M_make_66 : decode prog_11_method_4_code 66 = .ok (.getfield 36, 3) := by decide +kernel
theorem dw_M_make_69 : decode prog_11_method_4_code 69 = .ok (.iload_n 3, 1) := by decide +kernel
theorem dw_M_make_70 : decode prog_11_method_4_code 70 = .ok (.iconst 0, 1) := by decide +kernel
theorem dw_M_make_71 : decode prog_11_method_4_code 71 = .ok (.bastore, 1) := by decide +kernel
theorem dw_M_make_72 : decode prog_11_method_4_code 72 = .ok (.aload_n 0, 1) := by decide +kernel
theorem dw_M_make_73 : decode prog_11_method_4_code 73 = .ok (.getfield 40, 3) := by decide +kernel
theorem dw_M_make_76 : decode prog_11_method_4_code 76 = .ok (.iload_n 3, 1) := by decide +kernel
theorem dw_M_make_77 : decode prog_11_method_4_code 77 = .ok (.iconst 0, 1) := by decide +kernel
theorem dw_M_make_78 : decode prog_11_method_4_code 78 = .ok (.iastore, 1) := by decide +kernel
theorem dw_M_make_79 : decode prog_11_method_4_code 79 = .ok (.aload_n 0, 1) := by decide +kernel
theorem dw_M_make_80 : decode prog_11_method_4_code 80 = .ok (.getfield 43, 3) := by decide +kernel
theorem dw_M_make_83 : decode prog_11_method_4_code 83 = .ok (.iload_n 3, 1) := by decide +kernel
theorem dw_M_make_84 : decode prog_11_method_4_code 84 = .ok (.iconst (-1), 1) := by decide +kernel
theorem dw_M_make_85 : decode prog_11_method_4_code 85 = .ok (.iastore, 1) := by decide +kernel
theorem dw_M_make_86 : decode prog_11_method_4_code 86 = .ok (.iload_n 3, 1) := by decide +kernel
theorem dw_M_make_87 : decode prog_11_method_4_code 87 = .ok (.ireturn, 1) := by decide +kernel
theorem dw_M_addPart_0 : decode prog_11_method_5_code 0 = .ok (.aload_n 0, 1) := by decide +kernel
theorem dw_M_addPart_1 : decode prog_11_method_5_code 1 = .ok (.getfield 47, 3) := by decide +kernel
theorem dw_M_addPart_4 : decode prog_11_method_5_code 4 = .ok (.aload_n 0, 1) := by decide +kernel
theorem dw_M_addPart_5 : decode prog_11_method_5_code 5 = .ok (.getfield 180, 3) := by decide +kernel
theorem dw_M_addPart_8 : decode prog_11_method_5_code 8 = .ok (.iload_n 3, 1) := by decide +kernel
theorem dw_M_addPart_9 : decode prog_11_method_5_code 9 = .ok (.i2s, 1) := by decide +kernel
theorem dw_M_addPart_10 : decode prog_11_method_5_code 10 = .ok (.sastore, 1) := by decide +kernel
theorem dw_M_addPart_11 : decode prog_11_method_5_code 11 = .ok (.aload_n 0, 1) := by decide +kernel
theorem dw_M_addPart_12 : decode prog_11_method_5_code 12 = .ok (.getfield 50, 3) := by decide +kernel
theorem dw_M_addPart_15 : decode prog_11_method_5_code 15 = .ok (.aload_n 0, 1) := by decide +kernel
theorem dw_M_addPart_16 : decode prog_11_method_5_code 16 = .ok (.getfield 180, 3) := by decide +kernel
theorem dw_M_addPart_19 : decode prog_11_method_5_code 19 = .ok (.iload_n 2, 1) := by decide +kernel
theorem dw_M_addPart_20 : decode prog_11_method_5_code 20 = .ok (.i2s, 1) := by decide +kernel
theorem dw_M_addPart_21 : decode prog_11_method_5_code 21 = .ok (.sastore, 1) := by decide +kernel
theorem dw_M_addPart_22 : decode prog_11_method_5_code 22 = .ok (.aload_n 0, 1) := by decide +kernel
theorem dw_M_addPart_23 : decode prog_11_method_5_code 23 = .ok (.dup, 1) := by decide +kernel
theorem dw_M_addPart_24 : decode prog_11_method_5_code 24 = .ok (.getfield 180, 3) := by decide +kernel
theorem dw_M_addPart_27 : decode prog_11_method_5_code 27 = .ok (.iconst 1, 1) := by decide +kernel
theorem dw_M_addPart_28 : decode prog_11_method_5_code 28 = .ok (.iadd, 1) := by decide +kernel
theorem dw_M_addPart_29 : decode prog_11_method_5_code 29 = .ok (.putfield 180, 3) := by decide +kernel
theorem dw_M_addPart_32 : decode prog_11_method_5_code 32 = .ok (.aload_n 0, 1) := by decide +kernel
theorem dw_M_addPart_33 : decode prog_11_method_5_code 33 = .ok (.getfield 26, 3) := by decide +kernel
theorem dw_M_addPart_36 : decode prog_11_method_5_code 36 = .ok (.iload_n 1, 1) := by decide +kernel
theorem dw_M_addPart_37 : decode prog_11_method_5_code 37 = .ok (.dup2, 1) := by decide +kernel
theorem dw_M_addPart_38 : decode prog_11_method_5_code 38 = .ok (.saload, 1) := by decide +kernel
theorem dw_M_addPart_39 : decode prog_11_method_5_code 39 = .ok (.iconst 1, 1) := by decide +kernel
theorem dw_M_addPart_40 : decode prog_11_method_5_code 40 = .ok (.iadd, 1) := by decide +kernel
theorem dw_M_addPart_41 : decode prog_11_method_5_code 41 = .ok (.i2s, 1) := by decide +kernel
theorem dw_M_addPart_42 : decode prog_11_method_5_code 42 = .ok (.sastore, 1) := by decide +kernel
theorem dw_M_addPart_43 : decode prog_11_method_5_code 43 = .ok (.return_, 1) := by decide +kernel
theorem dw_M_areAll_0 : decode prog_11_method_7_code 0 = .ok (.iconst 1, 1) := by decide +kernel
theorem dw_M_areAll_1 : decode prog_11_method_7_code 1 = .ok (.istore_n 2, 1) := by decide +kernel
theorem dw_M_areAll_2 : decode prog_11_method_7_code 2 = .ok (.iconst 0, 1) := by decide +kernel
theorem dw_M_areAll_3 : decode prog_11_method_7_code 3 = .ok (.istore_n 3, 1) := by decide +kernel
theorem dw_M_areAll_4 : decode prog_11_method_7_code 4 = .ok (.iload_n 3, 1) := by decide +kernel
theorem dw_M_areAll_5 : decode prog_11_method_7_code 5 = .ok (.aload_n 0, 1) := by decide +kernel
theorem dw_M_areAll_6 : decode prog_11_method_7_code 6 = .ok (.getfield 191, 3) := by decide +kernel
theorem dw_M_areAll_9 : decode prog_11_method_7_code 9 = .ok (.if_icmp .ge 37, 3) := by decide +kernel
theorem dw_M_areAll_46 : decode prog_11_method_7_code 46 = .ok (.iload_n 2, 1) := by decide +kernel
theorem dw_M_areAll_47 : decode prog_11_method_7_code 47 = .ok (.ireturn, 1) := by decide +kernel
theorem dw_M_areAll_12 : decode prog_11_method_7_code 12 = .ok (.iload_n 2, 1) := by decide +kernel
theorem dw_M_areAll_13 : decode prog_11_method_7_code 13 = .ok (.ifCond .eq 25, 3) := by decide +kernel
theorem dw_M_areAll_39 : decode prog_11_method_7_code 39 = .ok (.istore_n 2, 1) := by decide +kernel
theorem dw_M_areAll_40 : decode prog_11_method_7_code 40 = .ok (.iinc 3 1, 3) := by decide +kernel
theorem dw_M_areAll_43 : decode prog_11_method_7_code 43 = .ok (.goto (-39), 3) := by decide +kernel
theorem dw_M_areAll_38 : decode prog_11_method_7_code 38 = .ok (.iconst 0, 1) := by decide +kernel
theorem dw_M_areAll_16 : decode prog_11_method_7_code 16 = .ok (.aload_n 0, 1) := by decide +kernel
theorem dw_M_areAll_17 : decode prog_11_method_7_code 17 = .ok (.getfield 75, 3) := by decide +kernel
theorem dw_M_areAll_20 : decode prog_11_method_7_code 20 = .ok (.iload_n 3, 1) := by decide +kernel
theorem dw_M_areAll_21 : decode prog_11_method_7_code 21 = .ok (.iaload, 1) := by decide +kernel
theorem dw_M_areAll_22 : decode prog_11_method_7_code 22 = .ok (.ifCond .lt 7, 3) := by decide +kernel
theorem dw_M_areAll_30 : decode prog_11_method_7_code 30 = .ok (.iload_n 1, 1) := by decide +kernel
theorem dw_M_areAll_31 : decode prog_11_method_7_code 31 = .ok (.if_icmp .ne 7, 3) := by decide +kernel
theorem dw_M_areAll_34 : decode prog_11_method_7_code 34 = .ok (.iconst 1, 1) := by decide +kernel
theorem dw_M_areAll_35 : decode prog_11_method_7_code 35 = .ok (.goto 4, 3) := by decide +kernel
theorem dw_M_areAll_29 : decode prog_11_method_7_code 29 = .ok (.iconst 0, 1) := by decide +kernel
theorem dw_M_areAll_25 : decode prog_11_method_7_code 25 = .ok (.iconst 1, 1) := by decide +kernel
theorem dw_M_areAll_26 : decode prog_11_method_7_code 26 = .ok (.goto 4, 3) := by decide +kernel
theorem dw_M_makeRow_0 : decode prog_11_method_9_code 0 = .ok (.aload_n 0, 1) := by decide +kernel
theorem dw_M_makeRow_1 : decode prog_11_method_9_code 1 = .ok (.getfield 53, 3) := by decide +kernel
theorem dw_M_makeRow_4 : decode prog_11_method_9_code 4 = .ok (.aload_n 0, 1) := by decide +kernel
theorem dw_M_makeRow_5 : decode prog_11_method_9_code 5 = .ok (.getfield 206, 3) := by decide +kernel
theorem dw_M_makeRow_8 : decode prog_11_method_9_code 8 = .ok (.iload_n 1, 1) := by decide +kernel
theorem dw_M_makeRow_9 : decode prog_11_method_9_code 9 = .ok (.i2b, 1) := by decide +kernel
theorem dw_M_makeRow_10 : decode prog_11_method_9_code 10 = .ok (.bastore, 1) := by decide +kernel
theorem dw_M_makeRow_11 : decode prog_11_method_9_code 11 = .ok (.aload_n 0, 1) := by decide +kernel
theorem dw_M_makeRow_12 : decode prog_11_method_9_code 12 = .ok (.getfield 56, 3) := by decide +kernel
theorem dw_M_makeRow_15 : decode prog_11_method_9_code 15 = .ok (.aload_n 0, 1) := by decide +kernel
theorem dw_M_makeRow_16 : decode prog_11_method_9_code 16 = .ok (.getfield 206, 3) := by decide +kernel
theorem dw_M_makeRow_19 : decode prog_11_method_9_code 19 = .ok (.iload_n 2, 1) := by decide +kernel
theorem dw_M_makeRow_20 : decode prog_11_method_9_code 20 = .ok (.bastore, 1) := by decide +kernel
theorem dw_M_makeRow_21 : decode prog_11_method_9_code 21 = .ok (.aload_n 0, 1) := by decide +kernel
theorem dw_M_makeRow_22 : decode prog_11_method_9_code 22 = .ok (.getfield 62, 3) := by decide +kernel
theorem dw_M_makeRow_25 : decode prog_11_method_9_code 25 = .ok (.aload_n 0, 1) := by decide +kernel
theorem dw_M_makeRow_26 : decode prog_11_method_9_code 26 = .ok (.getfield 206, 3) := by decide +kernel
theorem dw_M_makeRow_29 : decode prog_11_method_9_code 29 = .ok (.iconst (-1), 1) := by decide +kernel
theorem dw_M_makeRow_30 : decode prog_11_method_9_code 30 = .ok (.iastore, 1) := by decide +kernel
theorem dw_M_makeRow_31 : decode prog_11_method_9_code 31 = .ok (.aload_n 0, 1) := by decide +kernel
theorem dw_M_makeRow_32 : decode prog_11_method_9_code 32 = .ok (.getfield 65, 3) := by decide +kernel
theorem dw_M_makeRow_35 : decode prog_11_method_9_code 35 = .ok (.aload_n 0, 1) := by decide +kernel
theorem dw_M_makeRow_36 : decode prog_11_method_9_code 36 = .ok (.getfield 206, 3) := by decide +kernel
theorem dw_M_makeRow_39 : decode prog_11_method_9_code 39 = .ok (.iconst (-1), 1) := by decide +kernel
theorem dw_M_makeRow_40 : decode prog_11_method_9_code 40 = .ok (.iastore, 1) := by decide +kernel
theorem dw_M_makeRow_41 : decode prog_11_method_9_code 41 = .ok (.aload_n 0, 1) := by decide +kernel
theorem dw_M_makeRow_42 : decode prog_11_method_9_code 42 = .ok (.dup, 1) := by decide +kernel
theorem dw_M_makeRow_43 : decode prog_11_method_9_code 43 = .ok (.getfield 206, 3) := by decide +kernel
theorem dw_M_makeRow_46 : decode prog_11_method_9_code 46 = .ok (.iconst 1, 1) := by decide +kernel
theorem dw_M_makeRow_47 : decode prog_11_method_9_code 47 = .ok (.iadd, 1) := by decide +kernel
theorem dw_M_makeRow_48 : decode prog_11_method_9_code 48 = .ok (.putfield 206, 3) := by decide +kernel
theorem dw_M_makeRow_51 : decode prog_11_method_9_code 51 = .ok (.aload_n 0, 1) := by decide +kernel
theorem dw_M_makeRow_52 : decode prog_11_method_9_code 52 = .ok (.getfield 206, 3) := by decide +kernel
theorem dw_M_makeRow_55 : decode prog_11_method_9_code 55 = .ok (.iconst 1, 1) := by decide +kernel
theorem dw_M_makeRow_56 : decode prog_11_method_9_code 56 = .ok (.isub, 1) := by decide +kernel
theorem dw_M_makeRow_57 : decode prog_11_method_9_code 57 = .ok (.ireturn, 1) := by decide +kernel
theorem dw_M_equalOnes_0 : decode prog_11_method_12_code 0 = .ok (.iload_n 1, 1) := by decide +kernel
theorem dw_M_equalOnes_1 : decode prog_11_method_12_code 1 = .ok (.istore_n 2, 1) := by decide +kernel
theorem dw_M_equalOnes_2 : decode prog_11_method_12_code 2 = .ok (.iconst 0, 1) := by decide +kernel
theorem dw_M_equalOnes_3 : decode prog_11_method_12_code 3 = .ok (.istore_n 3, 1) := by decide +kernel
theorem dw_M_equalOnes_4 : decode prog_11_method_12_code 4 = .ok (.iload_n 3, 1) := by decide +kernel
theorem dw_M_equalOnes_5 : decode prog_11_method_12_code 5 = .ok (.bipush 31, 2) := by decide +kernel
theorem dw_M_equalOnes_7 : decode prog_11_method_12_code 7 = .ok (.if_icmp .ge 38, 3) := by decide +kernel
theorem dw_M_equalOnes_45 : decode prog_11_method_12_code 45 = .ok (.iload_n 2, 1) := by decide +kernel
theorem dw_M_equalOnes_46 : decode prog_11_method_12_code 46 = .ok (.ireturn, 1) := by decide +kernel
theorem dw_M_equalOnes_10 : decode prog_11_method_12_code 10 = .ok (.iload_n 3, 1) := by decide +kernel
theorem dw_M_equalOnes_11 : decode prog_11_method_12_code 11 = .ok (.aload_n 0, 1) := by decide +kernel
theorem dw_M_equalOnes_12 : decode prog_11_method_12_code 12 = .ok (.getfield 173, 3) := by decide +kernel
theorem dw_M_equalOnes_15 : decode prog_11_method_12_code 15 = .ok (.if_icmp .ge 30, 3) := by decide +kernel
theorem dw_M_equalOnes_18 : decode prog_11_method_12_code 18 = .ok (.aload_n 0, 1) := by decide +kernel
theorem dw_M_equalOnes_19 : decode prog_11_method_12_code 19 = .ok (.getfield 13, 3) := by decide +kernel
theorem dw_M_equalOnes_22 : decode prog_11_method_12_code 22 = .ok (.iload_n 3, 1) := by decide +kernel
theorem dw_M_equalOnes_23 : decode prog_11_method_12_code 23 = .ok (.baload, 1) := by decide +kernel
theorem dw_M_equalOnes_24 : decode prog_11_method_12_code 24 = .ok (.ifCond .ne 13, 3) := by decide +kernel
theorem dw_M_equalOnes_38 : decode prog_11_method_12_code 38 = .ok (.istore_n 2, 1) := by decide +kernel
theorem dw_M_equalOnes_39 : decode prog_11_method_12_code 39 = .ok (.iinc 3 1, 3) := by decide +kernel
theorem dw_M_equalOnes_42 : decode prog_11_method_12_code 42 = .ok (.goto (-38), 3) := by decide +kernel
theorem dw_M_equalOnes_37 : decode prog_11_method_12_code 37 = .ok (.iload_n 2, 1) := by decide +kernel
theorem dw_M_equalOnes_27 : decode prog_11_method_12_code 27 = .ok (.iload_n 2, 1) := by decide +kernel
theorem dw_M_equalOnes_28 : decode prog_11_method_12_code 28 = .ok (.iconst 1, 1) := by decide +kernel
theorem dw_M_equalOnes_29 : decode prog_11_method_12_code 29 = .ok (.iload_n 3, 1) := by decide +kernel
theorem dw_M_equalOnes_30 : decode prog_11_method_12_code 30 = .ok (.ishl, 1) := by decide +kernel
theorem dw_M_equalOnes_31 : decode prog_11_method_12_code 31 = .ok (.iconst (-1), 1) := by decide +kernel
theorem dw_M_equalOnes_32 : decode prog_11_method_12_code 32 = .ok (.ixor, 1) := by decide +kernel
theorem dw_M_equalOnes_33 : decode prog_11_method_12_code 33 = .ok (.iand, 1) := by decide +kernel
theorem dw_M_equalOnes_34 : decode prog_11_method_12_code 34 = .ok (.goto 4, 3) := by decide +kernel
theorem dw_M_follow_0 : decode prog_11_method_21_code 0 = .ok (.aload_n 0, 1) := by decide +kernel
theorem dw_M_follow_1 : decode prog_11_method_21_code 1 = .ok (.iload_n 1, 1) := by decide +kernel
theorem dw_M_follow_2 : decode prog_11_method_21_code 2 = .ok (.invokevirtual 187, 3) := by decide +kernel
theorem dw_M_follow_5 : decode prog_11_method_21_code 5 = .ok (.ifCond .ne 5, 3) := by decide +kernel
theorem dw_M_follow_10 : decode prog_11_method_21_code 10 = .ok (.aload_n 0, 1) := by decide +kernel
theorem dw_M_follow_11 : decode prog_11_method_21_code 11 = .ok (.iload_n 1, 1) := by decide +kernel
theorem dw_M_follow_12 : decode prog_11_method_21_code 12 = .ok (.invokevirtual 230, 3) := by decide +kernel
theorem dw_M_follow_8 : decode prog_11_method_21_code 8 = .ok (.iconst (-1), 1) := by decide +kernel
theorem dw_M_follow_9 : decode prog_11_method_21_code 9 = .ok (.ireturn, 1) := by decide +kernel
theorem dw_M_isScheme_0 : decode prog_11_method_54_code 0 = .ok (.iload_n 1, 1) := by decide +kernel
theorem dw_M_isScheme_1 : decode prog_11_method_54_code 1 = .ok (.ifCond .lt 15, 3) := by decide +kernel
theorem dw_M_isScheme_16 : decode prog_11_method_54_code 16 = .ok (.iconst 0, 1) := by decide +kernel
theorem dw_M_isScheme_17 : decode prog_11_method_54_code 17 = .ok (.ireturn, 1) := by decide +kernel
theorem dw_M_isScheme_4 : decode prog_11_method_54_code 4 = .ok (.iload_n 1, 1) := by decide +kernel
theorem dw_M_isScheme_5 : decode prog_11_method_54_code 5 = .ok (.aload_n 0, 1) := by decide +kernel
theorem dw_M_isScheme_6 : decode prog_11_method_54_code 6 = .ok (.getfield 364, 3) := by decide +kernel
theorem dw_M_isScheme_9 : decode prog_11_method_54_code 9 = .ok (.if_icmp .ge 7, 3) := by decide +kernel
theorem dw_M_isScheme_12 : decode prog_11_method_54_code 12 = .ok (.iconst 1, 1) := by decide +kernel
theorem dw_M_isScheme_13 : decode prog_11_method_54_code 13 = .ok (.goto 4, 3) := by decide +kernel
theorem dw_M_constructor_0 : decode prog_11_method_2_code 0 = .ok (.iload_n 1, 1) := by decide +kernel
theorem dw_M_constructor_1 : decode prog_11_method_2_code 1 = .ok (.ifCond .lt 18, 3) := by decide +kernel
theorem dw_M_constructor_19 : decode prog_11_method_2_code 19 = .ok (.iconst (-1), 1) := by decide +kernel
theorem dw_M_constructor_20 : decode prog_11_method_2_code 20 = .ok (.ireturn, 1) := by decide +kernel
theorem dw_M_constructor_4 : decode prog_11_method_2_code 4 = .ok (.iload_n 1, 1) := by decide +kernel
theorem dw_M_constructor_5 : decode prog_11_method_2_code 5 = .ok (.bipush 8, 2) := by decide +kernel
theorem dw_M_constructor_7 : decode prog_11_method_2_code 7 = .ok (.if_icmp .gt 12, 3) := by decide +kernel
theorem dw_M_constructor_10 : decode prog_11_method_2_code 10 = .ok (.iload_n 2, 1) := by decide +kernel
theorem dw_M_constructor_11 : decode prog_11_method_2_code 11 = .ok (.ifCond .lt 8, 3) := by decide +kernel
theorem dw_M_constructor_14 : decode prog_11_method_2_code 14 = .ok (.iload_n 2, 1) := by decide +kernel
theorem dw_M_constructor_15 : decode prog_11_method_2_code 15 = .ok (.iconst 2, 1) := by decide +kernel
theorem dw_M_constructor_16 : decode prog_11_method_2_code 16 = .ok (.if_icmp .le 5, 3) := by decide +kernel
theorem dw_M_constructor_21 : decode prog_11_method_2_code 21 = .ok (.aload_n 0, 1) := by decide +kernel
theorem dw_M_constructor_22 : decode prog_11_method_2_code 22 = .ok (.getfield 173, 3) := by decide +kernel
theorem dw_M_constructor_25 : decode prog_11_method_2_code 25 = .ok (.sipush 2048, 3) := by decide +kernel
theorem dw_M_constructor_28 : decode prog_11_method_2_code 28 = .ok (.if_icmp .ne 6, 3) := by decide +kernel
theorem dw_M_constructor_34 : decode prog_11_method_2_code 34 = .ok (.aload_n 0, 1) := by decide +kernel
theorem dw_M_constructor_35 : decode prog_11_method_2_code 35 = .ok (.getfield 7, 3) := by decide +kernel
theorem dw_M_constructor_38 : decode prog_11_method_2_code 38 = .ok (.aload_n 0, 1) := by decide +kernel
theorem dw_M_constructor_39 : decode prog_11_method_2_code 39 = .ok (.getfield 173, 3) := by decide +kernel
theorem dw_M_constructor_42 : decode prog_11_method_2_code 42 = .ok (.iload_n 1, 1) := by decide +kernel
theorem dw_M_constructor_43 : decode prog_11_method_2_code 43 = .ok (.i2b, 1) := by decide +kernel
theorem dw_M_constructor_44 : decode prog_11_method_2_code 44 = .ok (.bastore, 1) := by decide +kernel
theorem dw_M_constructor_45 : decode prog_11_method_2_code 45 = .ok (.aload_n 0, 1) := by decide +kernel
theorem dw_M_constructor_46 : decode prog_11_method_2_code 46 = .ok (.getfield 13, 3) := by decide +kernel
theorem dw_M_constructor_49 : decode prog_11_method_2_code 49 = .ok (.aload_n 0, 1) := by decide +kernel
theorem dw_M_constructor_50 : decode prog_11_method_2_code 50 = .ok (.getfield 173, 3) := by decide +kernel
theorem dw_M_constructor_53 : decode prog_11_method_2_code 53 = .ok (.iload_n 2, 1) := by decide +kernel
theorem dw_M_constructor_54 : decode prog_11_method_2_code 54 = .ok (.i2b, 1) := by decide +kernel
theorem dw_M_constructor_55 : decode prog_11_method_2_code 55 = .ok (.bastore, 1) := by decide +kernel
theorem dw_M_constructor_56 : decode prog_11_method_2_code 56 = .ok (.aload_n 0, 1) := by decide +kernel
theorem dw_M_constructor_57 : decode prog_11_method_2_code 57 = .ok (.dup, 1) := by decide +kernel
theorem dw_M_constructor_58 : decode prog_11_method_2_code 58 = .ok (.getfield 173, 3) := by decide +kernel
theorem dw_M_constructor_61 : decode prog_11_method_2_code 61 = .ok (.iconst 1, 1) := by decide +kernel
theorem dw_M_constructor_62 : decode prog_11_method_2_code 62 = .ok (.iadd, 1) := by decide +kernel
theorem dw_M_constructor_63 : decode prog_11_method_2_code 63 = .ok (.putfield 173, 3) := by decide +kernel
theorem dw_M_constructor_66 : decode prog_11_method_2_code 66 = .ok (.aload_n 0, 1) := by decide +kernel
theorem dw_M_constructor_67 : decode prog_11_method_2_code 67 = .ok (.getfield 173, 3) := by decide +kernel
theorem dw_M_constructor_70 : decode prog_11_method_2_code 70 = .ok (.iconst 1, 1) := by decide +kernel
theorem dw_M_constructor_71 : decode prog_11_method_2_code 71 = .ok (.isub, 1) := by decide +kernel
theorem dw_M_constructor_72 : decode prog_11_method_2_code 72 = .ok (.ireturn, 1) := by decide +kernel
theorem dw_M_constructor_31 : decode prog_11_method_2_code 31 = .ok (.bipush (-2), 2) := by decide +kernel
theorem dw_M_constructor_33 : decode prog_11_method_2_code 33 = .ok (.ireturn, 1) := by decide +kernel
theorem dw_M_push_0 : decode prog_11_method_6_code 0 = .ok (.iload_n 1, 1) := by decide +kernel
theorem dw_M_push_1 : decode prog_11_method_6_code 1 = .ok (.iconst (-1), 1) := by decide +kernel
theorem dw_M_push_2 : decode prog_11_method_6_code 2 = .ok (.if_icmp .lt 21, 3) := by decide +kernel
theorem dw_M_push_24 : decode prog_11_method_6_code 24 = .ok (.istore_n 3, 1) := by decide +kernel
theorem dw_M_push_25 : decode prog_11_method_6_code 25 = .ok (.iconst 0, 1) := by decide +kernel
theorem dw_M_push_26 : decode prog_11_method_6_code 26 = .ok (.istore 4, 2) := by decide +kernel
theorem dw_M_push_68 : decode prog_11_method_6_code 68 = .ok (.iload_n 3, 1) := by decide +kernel
theorem dw_M_push_69 : decode prog_11_method_6_code 69 = .ok (.ifCond .ne 5, 3) := by decide +kernel
theorem dw_M_push_74 : decode prog_11_method_6_code 74 = .ok (.aload_n 0, 1) := by decide +kernel
theorem dw_M_push_75 : decode prog_11_method_6_code 75 = .ok (.getfield 191, 3) := by decide +kernel
theorem dw_M_push_78 : decode prog_11_method_6_code 78 = .ok (.sipush 128, 3) := by decide +kernel
theorem dw_M_push_81 : decode prog_11_method_6_code 81 = .ok (.if_icmp .ne 6, 3) := by decide +kernel
theorem dw_M_push_87 : decode prog_11_method_6_code 87 = .ok (.aload_n 0, 1) := by decide +kernel
theorem dw_M_push_88 : decode prog_11_method_6_code 88 = .ok (.getfield 75, 3) := by decide +kernel
theorem dw_M_push_91 : decode prog_11_method_6_code 91 = .ok (.aload_n 0, 1) := by decide +kernel
theorem dw_M_push_92 : decode prog_11_method_6_code 92 = .ok (.getfield 191, 3) := by decide +kernel
theorem dw_M_push_95 : decode prog_11_method_6_code 95 = .ok (.iload_n 1, 1) := by decide +kernel
theorem dw_M_push_96 : decode prog_11_method_6_code 96 = .ok (.iastore, 1) := by decide +kernel
theorem dw_M_push_97 : decode prog_11_method_6_code 97 = .ok (.aload_n 0, 1) := by decide +kernel
theorem dw_M_push_98 : decode prog_11_method_6_code 98 = .ok (.getfield 78, 3) := by decide +kernel
theorem dw_M_push_101 : decode prog_11_method_6_code 101 = .ok (.aload_n 0, 1) := by decide +kernel
theorem dw_M_push_102 : decode prog_11_method_6_code 102 = .ok (.getfield 191, 3) := by decide +kernel
theorem dw_M_push_105 : decode prog_11_method_6_code 105 = .ok (.iload_n 2, 1) := by decide +kernel
theorem dw_M_push_106 : decode prog_11_method_6_code 106 = .ok (.iastore, 1) := by decide +kernel
theorem dw_M_push_107 : decode prog_11_method_6_code 107 = .ok (.aload_n 0, 1) := by decide +kernel
theorem dw_M_push_108 : decode prog_11_method_6_code 108 = .ok (.dup, 1) := by decide +kernel
theorem dw_M_push_109 : decode prog_11_method_6_code 109 = .ok (.getfield 191, 3) := by decide +kernel
theorem dw_M_push_112 : decode prog_11_method_6_code 112 = .ok (.iconst 1, 1) := by decide +kernel
theorem dw_M_push_113 : decode prog_11_method_6_code 113 = .ok (.iadd, 1) := by decide +kernel
theorem dw_M_push_114 : decode prog_11_method_6_code 114 = .ok (.putfield 191, 3) := by decide +kernel
theorem dw_M_push_117 : decode prog_11_method_6_code 117 = .ok (.aload_n 0, 1) := by decide +kernel
theorem dw_M_push_118 : decode prog_11_method_6_code 118 = .ok (.getfield 191, 3) := by decide +kernel
theorem dw_M_push_121 : decode prog_11_method_6_code 121 = .ok (.ireturn, 1) := by decide +kernel
theorem dw_M_push_84 : decode prog_11_method_6_code 84 = .ok (.bipush (-2), 2) := by decide +kernel
theorem dw_M_push_86 : decode prog_11_method_6_code 86 = .ok (.ireturn, 1) := by decide +kernel
theorem dw_M_push_72 : decode prog_11_method_6_code 72 = .ok (.iconst (-1), 1) := by decide +kernel
theorem dw_M_push_73 : decode prog_11_method_6_code 73 = .ok (.ireturn, 1) := by decide +kernel
theorem dw_M_push_28 : decode prog_11_method_6_code 28 = .ok (.iload 4, 2) := by decide +kernel
theorem dw_M_push_30 : decode prog_11_method_6_code 30 = .ok (.aload_n 0, 1) := by decide +kernel
theorem dw_M_push_31 : decode prog_11_method_6_code 31 = .ok (.getfield 191, 3) := by decide +kernel
theorem dw_M_push_34 : decode prog_11_method_6_code 34 = .ok (.if_icmp .ge 34, 3) := by decide +kernel
theorem dw_M_push_37 : decode prog_11_method_6_code 37 = .ok (.iload_n 3, 1) := by decide +kernel
theorem dw_M_push_38 : decode prog_11_method_6_code 38 = .ok (.ifCond .eq 22, 3) := by decide +kernel
theorem dw_M_push_61 : decode prog_11_method_6_code 61 = .ok (.istore_n 3, 1) := by decide +kernel
theorem dw_M_push_62 : decode prog_11_method_6_code 62 = .ok (.iinc 4 1, 3) := by decide +kernel
theorem dw_M_push_65 : decode prog_11_method_6_code 65 = .ok (.goto (-37), 3) := by decide +kernel
theorem dw_M_push_60 : decode prog_11_method_6_code 60 = .ok (.iconst 0, 1) := by decide +kernel
theorem dw_M_push_41 : decode prog_11_method_6_code 41 = .ok (.iload_n 1, 1) := by decide +kernel
theorem dw_M_push_42 : decode prog_11_method_6_code 42 = .ok (.ifCond .lt 14, 3) := by decide +kernel
theorem dw_M_push_56 : decode prog_11_method_6_code 56 = .ok (.iconst 1, 1) := by decide +kernel
theorem dw_M_push_57 : decode prog_11_method_6_code 57 = .ok (.goto 4, 3) := by decide +kernel
theorem dw_M_push_45 : decode prog_11_method_6_code 45 = .ok (.aload_n 0, 1) := by decide +kernel
theorem dw_M_push_46 : decode prog_11_method_6_code 46 = .ok (.getfield 75, 3) := by decide +kernel
theorem dw_M_push_49 : decode prog_11_method_6_code 49 = .ok (.iload 4, 2) := by decide +kernel
theorem dw_M_push_51 : decode prog_11_method_6_code 51 = .ok (.iaload, 1) := by decide +kernel
theorem dw_M_push_52 : decode prog_11_method_6_code 52 = .ok (.iload_n 1, 1) := by decide +kernel
theorem dw_M_push_53 : decode prog_11_method_6_code 53 = .ok (.if_icmp .eq 7, 3) := by decide +kernel
theorem dw_M_push_23 : decode prog_11_method_6_code 23 = .ok (.iconst 0, 1) := by decide +kernel
theorem dw_M_push_5 : decode prog_11_method_6_code 5 = .ok (.iload_n 1, 1) := by decide +kernel
theorem dw_M_push_6 : decode prog_11_method_6_code 6 = .ok (.ldc 186, 2) := by decide +kernel
theorem dw_M_push_8 : decode prog_11_method_6_code 8 = .ok (.if_icmp .ge 15, 3) := by decide +kernel
theorem dw_M_push_11 : decode prog_11_method_6_code 11 = .ok (.aload_n 0, 1) := by decide +kernel
theorem dw_M_push_12 : decode prog_11_method_6_code 12 = .ok (.iload_n 2, 1) := by decide +kernel
theorem dw_M_push_13 : decode prog_11_method_6_code 13 = .ok (.invokevirtual 187, 3) := by decide +kernel
theorem dw_M_push_16 : decode prog_11_method_6_code 16 = .ok (.ifCond .eq 7, 3) := by decide +kernel
theorem dw_M_push_19 : decode prog_11_method_6_code 19 = .ok (.iconst 1, 1) := by decide +kernel
theorem dw_M_push_20 : decode prog_11_method_6_code 20 = .ok (.goto 4, 3) := by decide +kernel
theorem dw_M_built_0 : decode prog_11_method_8_code 0 = .ok (.iload_n 1, 1) := by decide +kernel
theorem dw_M_built_1 : decode prog_11_method_8_code 1 = .ok (.ifCond .lt 32, 3) := by decide +kernel
theorem dw_M_built_33 : decode prog_11_method_8_code 33 = .ok (.iconst (-1), 1) := by decide +kernel
theorem dw_M_built_34 : decode prog_11_method_8_code 34 = .ok (.ireturn, 1) := by decide +kernel
theorem dw_M_built_4 : decode prog_11_method_8_code 4 = .ok (.iload_n 1, 1) := by decide +kernel
theorem dw_M_built_5 : decode prog_11_method_8_code 5 = .ok (.aload_n 0, 1) := by decide +kernel
theorem dw_M_built_6 : decode prog_11_method_8_code 6 = .ok (.getfield 173, 3) := by decide +kernel
theorem dw_M_built_9 : decode prog_11_method_8_code 9 = .ok (.if_icmp .ge 24, 3) := by decide +kernel
theorem dw_M_built_12 : decode prog_11_method_8_code 12 = .ok (.aload_n 0, 1) := by decide +kernel
theorem dw_M_built_13 : decode prog_11_method_8_code 13 = .ok (.iconst 0, 1) := by decide +kernel
theorem dw_M_built_14 : decode prog_11_method_8_code 14 = .ok (.invokevirtual 194, 3) := by decide +kernel
theorem dw_M_built_17 : decode prog_11_method_8_code 17 = .ok (.ifCond .eq 16, 3) := by decide +kernel
theorem dw_M_built_20 : decode prog_11_method_8_code 20 = .ok (.aload_n 0, 1) := by decide +kernel
theorem dw_M_built_21 : decode prog_11_method_8_code 21 = .ok (.getfield 191, 3) := by decide +kernel
theorem dw_M_built_24 : decode prog_11_method_8_code 24 = .ok (.aload_n 0, 1) := by decide +kernel
theorem dw_M_built_25 : decode prog_11_method_8_code 25 = .ok (.getfield 7, 3) := by decide +kernel
theorem dw_M_built_28 : decode prog_11_method_8_code 28 = .ok (.iload_n 1, 1) := by decide +kernel
theorem dw_M_built_29 : decode prog_11_method_8_code 29 = .ok (.baload, 1) := by decide +kernel
theorem dw_M_built_30 : decode prog_11_method_8_code 30 = .ok (.if_icmp .eq 5, 3) := by decide +kernel
theorem dw_M_built_35 : decode prog_11_method_8_code 35 = .ok (.aload_n 0, 1) := by decide +kernel
theorem dw_M_built_36 : decode prog_11_method_8_code 36 = .ok (.getfield 177, 3) := by decide +kernel
theorem dw_M_built_39 : decode prog_11_method_8_code 39 = .ok (.sipush 24576, 3) := by decide +kernel
theorem dw_M_built_42 : decode prog_11_method_8_code 42 = .ok (.if_icmp .eq 17, 3) := by decide +kernel
theorem dw_M_built_59 : decode prog_11_method_8_code 59 = .ok (.bipush (-2), 2) := by decide +kernel
theorem dw_M_built_61 : decode prog_11_method_8_code 61 = .ok (.ireturn, 1) := by decide +kernel
theorem dw_M_built_45 : decode prog_11_method_8_code 45 = .ok (.aload_n 0, 1) := by decide +kernel
theorem dw_M_built_46 : decode prog_11_method_8_code 46 = .ok (.getfield 180, 3) := by decide +kernel
theorem dw_M_built_49 : decode prog_11_method_8_code 49 = .ok (.aload_n 0, 1) := by decide +kernel
theorem dw_M_built_50 : decode prog_11_method_8_code 50 = .ok (.getfield 191, 3) := by decide +kernel
theorem dw_M_built_53 : decode prog_11_method_8_code 53 = .ok (.iadd, 1) := by decide +kernel
theorem dw_M_built_54 : decode prog_11_method_8_code 54 = .ok (.ldc 46, 2) := by decide +kernel
theorem dw_M_built_56 : decode prog_11_method_8_code 56 = .ok (.if_icmp .le 6, 3) := by decide +kernel
theorem dw_M_built_62 : decode prog_11_method_8_code 62 = .ok (.aload_n 0, 1) := by decide +kernel
theorem dw_M_built_63 : decode prog_11_method_8_code 63 = .ok (.iconst 2, 1) := by decide +kernel
theorem dw_M_built_64 : decode prog_11_method_8_code 64 = .ok (.iload_n 1, 1) := by decide +kernel
theorem dw_M_built_65 : decode prog_11_method_8_code 65 = .ok (.invokevirtual 198, 3) := by decide +kernel
theorem dw_M_built_68 : decode prog_11_method_8_code 68 = .ok (.istore_n 2, 1) := by decide +kernel
theorem dw_M_built_69 : decode prog_11_method_8_code 69 = .ok (.iconst 0, 1) := by decide +kernel
theorem dw_M_built_70 : decode prog_11_method_8_code 70 = .ok (.istore_n 3, 1) := by decide +kernel
theorem dw_M_built_97 : decode prog_11_method_8_code 97 = .ok (.aload_n 0, 1) := by decide +kernel
theorem dw_M_built_98 : decode prog_11_method_8_code 98 = .ok (.iconst 0, 1) := by decide +kernel
theorem dw_M_built_99 : decode prog_11_method_8_code 99 = .ok (.putfield 191, 3) := by decide +kernel
theorem dw_M_built_102 : decode prog_11_method_8_code 102 = .ok (.iload_n 2, 1) := by decide +kernel
theorem dw_M_built_103 : decode prog_11_method_8_code 103 = .ok (.ireturn, 1) := by decide +kernel
theorem dw_M_built_71 : decode prog_11_method_8_code 71 = .ok (.iload_n 3, 1) := by decide +kernel
theorem dw_M_built_72 : decode prog_11_method_8_code 72 = .ok (.aload_n 0, 1) := by decide +kernel
theorem dw_M_built_73 : decode prog_11_method_8_code 73 = .ok (.getfield 191, 3) := by decide +kernel
theorem dw_M_built_76 : decode prog_11_method_8_code 76 = .ok (.if_icmp .ge 21, 3) := by decide +kernel
theorem dw_M_built_79 : decode prog_11_method_8_code 79 = .ok (.aload_n 0, 1) := by decide +kernel
theorem dw_M_built_80 : decode prog_11_method_8_code 80 = .ok (.iload_n 2, 1) := by decide +kernel
theorem dw_M_built_81 : decode prog_11_method_8_code 81 = .ok (.iconst 0, 1) := by decide +kernel
theorem dw_M_built_82 : decode prog_11_method_8_code 82 = .ok (.aload_n 0, 1) := by decide +kernel
theorem dw_M_built_83 : decode prog_11_method_8_code 83 = .ok (.getfield 78, 3) := by decide +kernel
theorem dw_M_built_86 : decode prog_11_method_8_code 86 = .ok (.iload_n 3, 1) := by decide +kernel
theorem dw_M_built_87 : decode prog_11_method_8_code 87 = .ok (.iaload, 1) := by decide +kernel
theorem dw_M_built_88 : decode prog_11_method_8_code 88 = .ok (.invokevirtual 202, 3) := by decide +kernel
theorem dw_M_built_91 : decode prog_11_method_8_code 91 = .ok (.iinc 3 1, 3) := by decide +kernel
theorem dw_M_built_94 : decode prog_11_method_8_code 94 = .ok (.goto (-23), 3) := by decide +kernel
theorem dw_M_record_0 : decode prog_11_method_10_code 0 = .ok (.aload_n 0, 1) := by decide +kernel
theorem dw_M_record_1 : decode prog_11_method_10_code 1 = .ok (.iconst 1, 1) := by decide +kernel
theorem dw_M_record_2 : decode prog_11_method_10_code 2 = .ok (.invokevirtual 194, 3) := by decide +kernel
theorem dw_M_record_5 : decode prog_11_method_10_code 5 = .ok (.ifCond .ne 5, 3) := by decide +kernel
theorem dw_M_record_10 : decode prog_11_method_10_code 10 = .ok (.aload_n 0, 1) := by decide +kernel
theorem dw_M_record_11 : decode prog_11_method_10_code 11 = .ok (.getfield 177, 3) := by decide +kernel
theorem dw_M_record_14 : decode prog_11_method_10_code 14 = .ok (.sipush 24576, 3) := by decide +kernel
theorem dw_M_record_17 : decode prog_11_method_10_code 17 = .ok (.if_icmp .eq 31, 3) := by decide +kernel
theorem dw_M_record_48 : decode prog_11_method_10_code 48 = .ok (.bipush (-2), 2) := by decide +kernel
theorem dw_M_record_50 : decode prog_11_method_10_code 50 = .ok (.ireturn, 1) := by decide +kernel
theorem dw_M_record_20 : decode prog_11_method_10_code 20 = .ok (.aload_n 0, 1) := by decide +kernel
theorem dw_M_record_21 : decode prog_11_method_10_code 21 = .ok (.getfield 180, 3) := by decide +kernel
theorem dw_M_record_24 : decode prog_11_method_10_code 24 = .ok (.aload_n 0, 1) := by decide +kernel
theorem dw_M_record_25 : decode prog_11_method_10_code 25 = .ok (.getfield 191, 3) := by decide +kernel
theorem dw_M_record_28 : decode prog_11_method_10_code 28 = .ok (.iadd, 1) := by decide +kernel
theorem dw_M_record_29 : decode prog_11_method_10_code 29 = .ok (.ldc 46, 2) := by decide +kernel
theorem dw_M_record_31 : decode prog_11_method_10_code 31 = .ok (.if_icmp .gt 17, 3) := by decide +kernel
theorem dw_M_record_34 : decode prog_11_method_10_code 34 = .ok (.iload_n 1, 1) := by decide +kernel
theorem dw_M_record_35 : decode prog_11_method_10_code 35 = .ok (.ifCond .eq 16, 3) := by decide +kernel
theorem dw_M_record_51 : decode prog_11_method_10_code 51 = .ok (.aload_n 0, 1) := by decide +kernel
theorem dw_M_record_52 : decode prog_11_method_10_code 52 = .ok (.iconst 4, 1) := by decide +kernel
theorem dw_M_record_53 : decode prog_11_method_10_code 53 = .ok (.iconst 0, 1) := by decide +kernel
theorem dw_M_record_54 : decode prog_11_method_10_code 54 = .ok (.invokevirtual 198, 3) := by decide +kernel
theorem dw_M_record_57 : decode prog_11_method_10_code 57 = .ok (.istore_n 2, 1) := by decide +kernel
theorem dw_M_record_58 : decode prog_11_method_10_code 58 = .ok (.iconst 0, 1) := by decide +kernel
theorem dw_M_record_59 : decode prog_11_method_10_code 59 = .ok (.istore_n 3, 1) := by decide +kernel
theorem dw_M_record_91 : decode prog_11_method_10_code 91 = .ok (.iload_n 1, 1) := by decide +kernel
theorem dw_M_record_92 : decode prog_11_method_10_code 92 = .ok (.ifCond .eq 28, 3) := by decide +kernel
theorem dw_M_record_120 : decode prog_11_method_10_code 120 = .ok (.aload_n 0, 1) := by decide +kernel
theorem dw_M_record_121 : decode prog_11_method_10_code 121 = .ok (.iconst 0, 1) := by decide +kernel
theorem dw_M_record_122 : decode prog_11_method_10_code 122 = .ok (.putfield 191, 3) := by decide +kernel
theorem dw_M_record_125 : decode prog_11_method_10_code 125 = .ok (.iload_n 2, 1) := by decide +kernel
theorem dw_M_record_126 : decode prog_11_method_10_code 126 = .ok (.ireturn, 1) := by decide +kernel
theorem dw_M_record_95 : decode prog_11_method_10_code 95 = .ok (.aload_n 0, 1) := by decide +kernel
theorem dw_M_record_96 : decode prog_11_method_10_code 96 = .ok (.getfield 30, 3) := by decide +kernel
theorem dw_M_record_99 : decode prog_11_method_10_code 99 = .ok (.iload_n 2, 1) := by decide +kernel
theorem dw_M_record_100 : decode prog_11_method_10_code 100 = .ok (.aload_n 0, 1) := by decide +kernel
theorem dw_M_record_101 : decode prog_11_method_10_code 101 = .ok (.aload_n 0, 1) := by decide +kernel
theorem dw_M_record_102 : decode prog_11_method_10_code 102 = .ok (.getfield 183, 3) := by decide +kernel
theorem dw_M_record_105 : decode prog_11_method_10_code 105 = .ok (.iconst 0, 1) := by decide +kernel
theorem dw_M_record_106 : decode prog_11_method_10_code 106 = .ok (.invokevirtual 212, 3) := by decide +kernel
theorem dw_M_record_109 : decode prog_11_method_10_code 109 = .ok (.iastore, 1) := by decide +kernel
theorem dw_M_record_110 : decode prog_11_method_10_code 110 = .ok (.aload_n 0, 1) := by decide +kernel
theorem dw_M_record_111 : decode prog_11_method_10_code 111 = .ok (.dup, 1) := by decide +kernel
theorem dw_M_record_112 : decode prog_11_method_10_code 112 = .ok (.getfield 209, 3) := by decide +kernel
theorem dw_M_record_115 : decode prog_11_method_10_code 115 = .ok (.iconst 1, 1) := by decide +kernel
theorem dw_M_record_116 : decode prog_11_method_10_code 116 = .ok (.iadd, 1) := by decide +kernel
theorem dw_M_record_117 : decode prog_11_method_10_code 117 = .ok (.putfield 209, 3) := by decide +kernel
theorem dw_M_record_60 : decode prog_11_method_10_code 60 = .ok (.iload_n 3, 1) := by decide +kernel
theorem dw_M_record_61 : decode prog_11_method_10_code 61 = .ok (.aload_n 0, 1) := by decide +kernel
theorem dw_M_record_62 : decode prog_11_method_10_code 62 = .ok (.getfield 191, 3) := by decide +kernel
theorem dw_M_record_65 : decode prog_11_method_10_code 65 = .ok (.if_icmp .ge 26, 3) := by decide +kernel
theorem dw_M_record_68 : decode prog_11_method_10_code 68 = .ok (.aload_n 0, 1) := by decide +kernel
theorem dw_M_record_69 : decode prog_11_method_10_code 69 = .ok (.iload_n 2, 1) := by decide +kernel
theorem dw_M_record_70 : decode prog_11_method_10_code 70 = .ok (.aload_n 0, 1) := by decide +kernel
theorem dw_M_record_71 : decode prog_11_method_10_code 71 = .ok (.getfield 75, 3) := by decide +kernel
theorem dw_M_record_74 : decode prog_11_method_10_code 74 = .ok (.iload_n 3, 1) := by decide +kernel
theorem dw_M_record_75 : decode prog_11_method_10_code 75 = .ok (.iaload, 1) := by decide +kernel
theorem dw_M_record_76 : decode prog_11_method_10_code 76 = .ok (.aload_n 0, 1) := by decide +kernel
theorem dw_M_record_77 : decode prog_11_method_10_code 77 = .ok (.getfield 78, 3) := by decide +kernel
theorem dw_M_record_80 : decode prog_11_method_10_code 80 = .ok (.iload_n 3, 1) := by decide +kernel
theorem dw_M_record_81 : decode prog_11_method_10_code 81 = .ok (.iaload, 1) := by decide +kernel
theorem dw_M_record_82 : decode prog_11_method_10_code 82 = .ok (.invokevirtual 202, 3) := by decide +kernel
theorem dw_M_record_85 : decode prog_11_method_10_code 85 = .ok (.iinc 3 1, 3) := by decide +kernel
theorem dw_M_record_88 : decode prog_11_method_10_code 88 = .ok (.goto (-28), 3) := by decide +kernel
theorem dw_M_record_38 : decode prog_11_method_10_code 38 = .ok (.aload_n 0, 1) := by decide +kernel
theorem dw_M_record_39 : decode prog_11_method_10_code 39 = .ok (.getfield 209, 3) := by decide +kernel
theorem dw_M_record_42 : decode prog_11_method_10_code 42 = .ok (.sipush 512, 3) := by decide +kernel
theorem dw_M_record_45 : decode prog_11_method_10_code 45 = .ok (.if_icmp .ne 6, 3) := by decide +kernel
theorem dw_M_record_8 : decode prog_11_method_10_code 8 = .ok (.iconst (-1), 1) := by decide +kernel
theorem dw_M_record_9 : decode prog_11_method_10_code 9 = .ok (.ireturn, 1) := by decide +kernel
theorem dw_M_function_0 : decode prog_11_method_11_code 0 = .ok (.aload_n 0, 1) := by decide +kernel
theorem dw_M_function_1 : decode prog_11_method_11_code 1 = .ok (.iload_n 1, 1) := by decide +kernel
theorem dw_M_function_2 : decode prog_11_method_11_code 2 = .ok (.invokevirtual 187, 3) := by decide +kernel
theorem dw_M_function_5 : decode prog_11_method_11_code 5 = .ok (.ifCond .eq 11, 3) := by decide +kernel
theorem dw_M_function_16 : decode prog_11_method_11_code 16 = .ok (.iconst (-1), 1) := by decide +kernel
theorem dw_M_function_17 : decode prog_11_method_11_code 17 = .ok (.ireturn, 1) := by decide +kernel
theorem dw_M_function_8 : decode prog_11_method_11_code 8 = .ok (.aload_n 0, 1) := by decide +kernel
theorem dw_M_function_9 : decode prog_11_method_11_code 9 = .ok (.iload_n 2, 1) := by decide +kernel
theorem dw_M_function_10 : decode prog_11_method_11_code 10 = .ok (.invokevirtual 187, 3) := by decide +kernel
theorem dw_M_function_13 : decode prog_11_method_11_code 13 = .ok (.ifCond .ne 5, 3) := by decide +kernel
theorem dw_M_function_18 : decode prog_11_method_11_code 18 = .ok (.aload_n 0, 1) := by decide +kernel
theorem dw_M_function_19 : decode prog_11_method_11_code 19 = .ok (.getfield 177, 3) := by decide +kernel
theorem dw_M_function_22 : decode prog_11_method_11_code 22 = .ok (.sipush 24576, 3) := by decide +kernel
theorem dw_M_function_25 : decode prog_11_method_11_code 25 = .ok (.if_icmp .eq 14, 3) := by decide +kernel
theorem dw_M_function_39 : decode prog_11_method_11_code 39 = .ok (.bipush (-2), 2) := by decide +kernel
theorem dw_M_function_41 : decode prog_11_method_11_code 41 = .ok (.ireturn, 1) := by decide +kernel
theorem dw_M_function_28 : decode prog_11_method_11_code 28 = .ok (.aload_n 0, 1) := by decide +kernel
theorem dw_M_function_29 : decode prog_11_method_11_code 29 = .ok (.getfield 180, 3) := by decide +kernel
theorem dw_M_function_32 : decode prog_11_method_11_code 32 = .ok (.iconst 2, 1) := by decide +kernel
theorem dw_M_function_33 : decode prog_11_method_11_code 33 = .ok (.iadd, 1) := by decide +kernel
theorem dw_M_function_34 : decode prog_11_method_11_code 34 = .ok (.ldc 46, 2) := by decide +kernel
theorem dw_M_function_36 : decode prog_11_method_11_code 36 = .ok (.if_icmp .le 6, 3) := by decide +kernel
theorem dw_M_function_42 : decode prog_11_method_11_code 42 = .ok (.aload_n 0, 1) := by decide +kernel
theorem dw_M_function_43 : decode prog_11_method_11_code 43 = .ok (.iconst 3, 1) := by decide +kernel
theorem dw_M_function_44 : decode prog_11_method_11_code 44 = .ok (.iconst 0, 1) := by decide +kernel
theorem dw_M_function_45 : decode prog_11_method_11_code 45 = .ok (.invokevirtual 198, 3) := by decide +kernel
theorem dw_M_function_48 : decode prog_11_method_11_code 48 = .ok (.istore_n 3, 1) := by decide +kernel
theorem dw_M_function_49 : decode prog_11_method_11_code 49 = .ok (.aload_n 0, 1) := by decide +kernel
theorem dw_M_function_50 : decode prog_11_method_11_code 50 = .ok (.iload_n 3, 1) := by decide +kernel
theorem dw_M_function_51 : decode prog_11_method_11_code 51 = .ok (.iconst 0, 1) := by decide +kernel
theorem dw_M_function_52 : decode prog_11_method_11_code 52 = .ok (.iload_n 1, 1) := by decide +kernel
theorem dw_M_function_53 : decode prog_11_method_11_code 53 = .ok (.invokevirtual 202, 3) := by decide +kernel
theorem dw_M_function_56 : decode prog_11_method_11_code 56 = .ok (.aload_n 0, 1) := by decide +kernel
theorem dw_M_function_57 : decode prog_11_method_11_code 57 = .ok (.iload_n 3, 1) := by decide +kernel
theorem dw_M_function_58 : decode prog_11_method_11_code 58 = .ok (.iconst 0, 1) := by decide +kernel
theorem dw_M_function_59 : decode prog_11_method_11_code 59 = .ok (.iload_n 2, 1) := by decide +kernel
theorem dw_M_function_60 : decode prog_11_method_11_code 60 = .ok (.invokevirtual 202, 3) := by decide +kernel
theorem dw_M_function_63 : decode prog_11_method_11_code 63 = .ok (.iload_n 3, 1) := by decide +kernel
theorem dw_M_function_64 : decode prog_11_method_11_code 64 = .ok (.ireturn, 1) := by decide +kernel
theorem dw_M_variable_0 : decode prog_11_method_13_code 0 = .ok (.iload_n 2, 1) := by decide +kernel
theorem dw_M_variable_1 : decode prog_11_method_13_code 1 = .ok (.ifCond .lt 20, 3) := by decide +kernel
theorem dw_M_variable_22 : decode prog_11_method_13_code 22 = .ok (.istore_n 3, 1) := by decide +kernel
theorem dw_M_variable_23 : decode prog_11_method_13_code 23 = .ok (.iconst 0, 1) := by decide +kernel
theorem dw_M_variable_24 : decode prog_11_method_13_code 24 = .ok (.istore 4, 2) := by decide +kernel
theorem dw_M_variable_77 : decode prog_11_method_13_code 77 = .ok (.iload_n 3, 1) := by decide +kernel
theorem dw_M_variable_78 : decode prog_11_method_13_code 78 = .ok (.ifCond .ne 5, 3) := by decide +kernel
theorem dw_M_variable_83 : decode prog_11_method_13_code 83 = .ok (.aload_n 0, 1) := by decide +kernel
theorem dw_M_variable_84 : decode prog_11_method_13_code 84 = .ok (.getfield 177, 3) := by decide +kernel
theorem dw_M_variable_87 : decode prog_11_method_13_code 87 = .ok (.sipush 24576, 3) := by decide +kernel
theorem dw_M_variable_90 : decode prog_11_method_13_code 90 = .ok (.if_icmp .ne 6, 3) := by decide +kernel
theorem dw_M_variable_96 : decode prog_11_method_13_code 96 = .ok (.aload_n 0, 1) := by decide +kernel
theorem dw_M_variable_97 : decode prog_11_method_13_code 97 = .ok (.iconst 0, 1) := by decide +kernel
theorem dw_M_variable_98 : decode prog_11_method_13_code 98 = .ok (.iconst 0, 1) := by decide +kernel
theorem dw_M_variable_99 : decode prog_11_method_13_code 99 = .ok (.invokevirtual 198, 3) := by decide +kernel
theorem dw_M_variable_102 : decode prog_11_method_13_code 102 = .ok (.istore 4, 2) := by decide +kernel
theorem dw_M_variable_104 : decode prog_11_method_13_code 104 = .ok (.aload_n 0, 1) := by decide +kernel
theorem dw_M_variable_105 : decode prog_11_method_13_code 105 = .ok (.getfield 36, 3) := by decide +kernel
theorem dw_M_variable_108 : decode prog_11_method_13_code 108 = .ok (.iload 4, 2) := by decide +kernel
theorem dw_M_variable_110 : decode prog_11_method_13_code 110 = .ok (.iload_n 1, 1) := by decide +kernel
theorem dw_M_variable_111 : decode prog_11_method_13_code 111 = .ok (.bastore, 1) := by decide +kernel
theorem dw_M_variable_112 : decode prog_11_method_13_code 112 = .ok (.aload_n 0, 1) := by decide +kernel
theorem dw_M_variable_113 : decode prog_11_method_13_code 113 = .ok (.getfield 40, 3) := by decide +kernel
theorem dw_M_variable_116 : decode prog_11_method_13_code 116 = .ok (.iload 4, 2) := by decide +kernel
theorem dw_M_variable_118 : decode prog_11_method_13_code 118 = .ok (.iload_n 2, 1) := by decide +kernel
theorem dw_M_variable_119 : decode prog_11_method_13_code 119 = .ok (.iastore, 1) := by decide +kernel
theorem dw_M_variable_120 : decode prog_11_method_13_code 120 = .ok (.iload 4, 2) := by decide +kernel
theorem dw_M_variable_122 : decode prog_11_method_13_code 122 = .ok (.ireturn, 1) := by decide +kernel
theorem dw_M_variable_93 : decode prog_11_method_13_code 93 = .ok (.bipush (-2), 2) := by decide +kernel
theorem dw_M_variable_95 : decode prog_11_method_13_code 95 = .ok (.ireturn, 1) := by decide +kernel
theorem dw_M_variable_81 : decode prog_11_method_13_code 81 = .ok (.iconst (-1), 1) := by decide +kernel
theorem dw_M_variable_82 : decode prog_11_method_13_code 82 = .ok (.ireturn, 1) := by decide +kernel
theorem dw_M_variable_26 : decode prog_11_method_13_code 26 = .ok (.iload 4, 2) := by decide +kernel
theorem dw_M_variable_28 : decode prog_11_method_13_code 28 = .ok (.bipush 31, 2) := by decide +kernel
theorem dw_M_variable_30 : decode prog_11_method_13_code 30 = .ok (.if_icmp .ge 47, 3) := by decide +kernel
theorem dw_M_variable_33 : decode prog_11_method_13_code 33 = .ok (.iload_n 3, 1) := by decide +kernel
theorem dw_M_variable_34 : decode prog_11_method_13_code 34 = .ok (.ifCond .eq 35, 3) := by decide +kernel
theorem dw_M_variable_70 : decode prog_11_method_13_code 70 = .ok (.istore_n 3, 1) := by decide +kernel
theorem dw_M_variable_71 : decode prog_11_method_13_code 71 = .ok (.iinc 4 1, 3) := by decide +kernel
theorem dw_M_variable_74 : decode prog_11_method_13_code 74 = .ok (.goto (-48), 3) := by decide +kernel
theorem dw_M_variable_69 : decode prog_11_method_13_code 69 = .ok (.iconst 0, 1) := by decide +kernel
theorem dw_M_variable_37 : decode prog_11_method_13_code 37 = .ok (.iload_n 2, 1) := by decide +kernel
theorem dw_M_variable_38 : decode prog_11_method_13_code 38 = .ok (.iload 4, 2) := by decide +kernel
theorem dw_M_variable_40 : decode prog_11_method_13_code 40 = .ok (.ishr, 1) := by decide +kernel
theorem dw_M_variable_41 : decode prog_11_method_13_code 41 = .ok (.iconst 1, 1) := by decide +kernel
theorem dw_M_variable_42 : decode prog_11_method_13_code 42 = .ok (.iand, 1) := by decide +kernel
theorem dw_M_variable_43 : decode prog_11_method_13_code 43 = .ok (.ifCond .eq 22, 3) := by decide +kernel
theorem dw_M_variable_65 : decode prog_11_method_13_code 65 = .ok (.iconst 1, 1) := by decide +kernel
theorem dw_M_variable_66 : decode prog_11_method_13_code 66 = .ok (.goto 4, 3) := by decide +kernel
theorem dw_M_variable_46 : decode prog_11_method_13_code 46 = .ok (.iload 4, 2) := by decide +kernel
theorem dw_M_variable_48 : decode prog_11_method_13_code 48 = .ok (.aload_n 0, 1) := by decide +kernel
theorem dw_M_variable_49 : decode prog_11_method_13_code 49 = .ok (.getfield 173, 3) := by decide +kernel
theorem dw_M_variable_52 : decode prog_11_method_13_code 52 = .ok (.if_icmp .ge 17, 3) := by decide +kernel
theorem dw_M_variable_55 : decode prog_11_method_13_code 55 = .ok (.aload_n 0, 1) := by decide +kernel
theorem dw_M_variable_56 : decode prog_11_method_13_code 56 = .ok (.getfield 7, 3) := by decide +kernel
theorem dw_M_variable_59 : decode prog_11_method_13_code 59 = .ok (.iload 4, 2) := by decide +kernel
theorem dw_M_variable_61 : decode prog_11_method_13_code 61 = .ok (.baload, 1) := by decide +kernel
theorem dw_M_variable_62 : decode prog_11_method_13_code 62 = .ok (.ifCond .ne 7, 3) := by decide +kernel
theorem dw_M_variable_21 : decode prog_11_method_13_code 21 = .ok (.iconst 0, 1) := by decide +kernel
theorem dw_M_variable_4 : decode prog_11_method_13_code 4 = .ok (.iload_n 1, 1) := by decide +kernel
theorem dw_M_variable_5 : decode prog_11_method_13_code 5 = .ok (.ifCond .eq 12, 3) := by decide +kernel
theorem dw_M_variable_17 : decode prog_11_method_13_code 17 = .ok (.iconst 1, 1) := by decide +kernel
theorem dw_M_variable_18 : decode prog_11_method_13_code 18 = .ok (.goto 4, 3) := by decide +kernel
theorem dw_M_variable_8 : decode prog_11_method_13_code 8 = .ok (.aload_n 0, 1) := by decide +kernel
theorem dw_M_variable_9 : decode prog_11_method_13_code 9 = .ok (.iload_n 2, 1) := by decide +kernel
theorem dw_M_variable_10 : decode prog_11_method_13_code 10 = .ok (.invokevirtual 216, 3) := by decide +kernel
theorem dw_M_variable_13 : decode prog_11_method_13_code 13 = .ok (.iload_n 2, 1) := by decide +kernel
theorem dw_M_variable_14 : decode prog_11_method_13_code 14 = .ok (.if_icmp .ne 7, 3) := by decide +kernel
theorem dw_M_rigid_0 : decode prog_11_method_14_code 0 = .ok (.aload_n 0, 1) := by decide +kernel
theorem dw_M_rigid_1 : decode prog_11_method_14_code 1 = .ok (.getfield 177, 3) := by decide +kernel
theorem dw_M_rigid_4 : decode prog_11_method_14_code 4 = .ok (.sipush 24576, 3) := by decide +kernel
theorem dw_M_rigid_7 : decode prog_11_method_14_code 7 = .ok (.if_icmp .ne 6, 3) := by decide +kernel
theorem dw_M_rigid_13 : decode prog_11_method_14_code 13 = .ok (.aload_n 0, 1) := by decide +kernel
theorem dw_M_rigid_14 : decode prog_11_method_14_code 14 = .ok (.iconst 1, 1) := by decide +kernel
theorem dw_M_rigid_15 : decode prog_11_method_14_code 15 = .ok (.iconst 0, 1) := by decide +kernel
theorem dw_M_rigid_16 : decode prog_11_method_14_code 16 = .ok (.invokevirtual 198, 3) := by decide +kernel
theorem dw_M_rigid_19 : decode prog_11_method_14_code 19 = .ok (.istore_n 2, 1) := by decide +kernel
theorem dw_M_rigid_20 : decode prog_11_method_14_code 20 = .ok (.aload_n 0, 1) := by decide +kernel
theorem dw_M_rigid_21 : decode prog_11_method_14_code 21 = .ok (.getfield 36, 3) := by decide +kernel
theorem dw_M_rigid_24 : decode prog_11_method_14_code 24 = .ok (.iload_n 2, 1) := by decide +kernel
theorem dw_M_rigid_25 : decode prog_11_method_14_code 25 = .ok (.iload_n 1, 1) := by decide +kernel
theorem dw_M_rigid_26 : decode prog_11_method_14_code 26 = .ok (.bastore, 1) := by decide +kernel
theorem dw_M_rigid_27 : decode prog_11_method_14_code 27 = .ok (.iload_n 2, 1) := by decide +kernel
theorem dw_M_rigid_28 : decode prog_11_method_14_code 28 = .ok (.ireturn, 1) := by decide +kernel
theorem dw_M_rigid_10 : decode prog_11_method_14_code 10 = .ok (.bipush (-2), 2) := by decide +kernel
theorem dw_M_rigid_12 : decode prog_11_method_14_code 12 = .ok (.ireturn, 1) := by decide +kernel
theorem dw_M_level_0 : decode prog_11_method_15_code 0 = .ok (.iload_n 1, 1) := by decide +kernel
theorem dw_M_level_1 : decode prog_11_method_15_code 1 = .ok (.ifCond .lt 9, 3) := by decide +kernel
theorem dw_M_level_10 : decode prog_11_method_15_code 10 = .ok (.iconst (-1), 1) := by decide +kernel
theorem dw_M_level_11 : decode prog_11_method_15_code 11 = .ok (.ireturn, 1) := by decide +kernel
theorem dw_M_level_4 : decode prog_11_method_15_code 4 = .ok (.iload_n 1, 1) := by decide +kernel
theorem dw_M_level_5 : decode prog_11_method_15_code 5 = .ok (.bipush 100, 2) := by decide +kernel
theorem dw_M_level_7 : decode prog_11_method_15_code 7 = .ok (.if_icmp .le 5, 3) := by decide +kernel
theorem dw_M_level_12 : decode prog_11_method_15_code 12 = .ok (.aload_n 0, 1) := by decide +kernel
theorem dw_M_level_13 : decode prog_11_method_15_code 13 = .ok (.getfield 183, 3) := by decide +kernel
theorem dw_M_level_16 : decode prog_11_method_15_code 16 = .ok (.istore_n 2, 1) := by decide +kernel
theorem dw_M_level_17 : decode prog_11_method_15_code 17 = .ok (.aload_n 0, 1) := by decide +kernel
theorem dw_M_level_18 : decode prog_11_method_15_code 18 = .ok (.iload_n 1, 1) := by decide +kernel
theorem dw_M_level_19 : decode prog_11_method_15_code 19 = .ok (.putfield 183, 3) := by decide +kernel
theorem dw_M_level_22 : decode prog_11_method_15_code 22 = .ok (.iload_n 2, 1) := by decide +kernel
theorem dw_M_level_23 : decode prog_11_method_15_code 23 = .ok (.ireturn, 1) := by decide +kernel
theorem dw_M_unify_0 : decode prog_11_method_43_code 0 = .ok (.aload_n 0, 1) := by decide +kernel
theorem dw_M_unify_1 : decode prog_11_method_43_code 1 = .ok (.iload_n 1, 1) := by decide +kernel
theorem dw_M_unify_2 : decode prog_11_method_43_code 2 = .ok (.invokevirtual 187, 3) := by decide +kernel
theorem dw_M_unify_5 : decode prog_11_method_43_code 5 = .ok (.ifCond .eq 11, 3) := by decide +kernel
theorem dw_M_unify_16 : decode prog_11_method_43_code 16 = .ok (.iconst 0, 1) := by decide +kernel
theorem dw_M_unify_17 : decode prog_11_method_43_code 17 = .ok (.ireturn, 1) := by decide +kernel
theorem dw_M_unify_8 : decode prog_11_method_43_code 8 = .ok (.aload_n 0, 1) := by decide +kernel
theorem dw_M_unify_9 : decode prog_11_method_43_code 9 = .ok (.iload_n 2, 1) := by decide +kernel
theorem dw_M_unify_10 : decode prog_11_method_43_code 10 = .ok (.invokevirtual 187, 3) := by decide +kernel
theorem dw_M_unify_13 : decode prog_11_method_43_code 13 = .ok (.ifCond .ne 5, 3) := by decide +kernel
theorem dw_M_unify_18 : decode prog_11_method_43_code 18 = .ok (.aload_n 0, 1) := by decide +kernel
theorem dw_M_unify_19 : decode prog_11_method_43_code 19 = .ok (.getfield 206, 3) := by decide +kernel
theorem dw_M_unify_22 : decode prog_11_method_43_code 22 = .ok (.istore_n 3, 1) := by decide +kernel
theorem dw_M_unify_23 : decode prog_11_method_43_code 23 = .ok (.aload_n 0, 1) := by decide +kernel
theorem dw_M_unify_24 : decode prog_11_method_43_code 24 = .ok (.getfield 254, 3) := by decide +kernel
theorem dw_M_unify_27 : decode prog_11_method_43_code 27 = .ok (.istore 4, 2) := by decide +kernel
theorem dw_M_unify_29 : decode prog_11_method_43_code 29 = .ok (.aload_n 0, 1) := by decide +kernel
theorem dw_M_unify_30 : decode prog_11_method_43_code 30 = .ok (.invokevirtual 306, 3) := by decide +kernel
theorem dw_M_same_0 : decode prog_11_method_46_code 0 = .ok (.aload_n 0, 1) := by decide +kernel
theorem dw_M_same_1 : decode prog_11_method_46_code 1 = .ok (.iload_n 1, 1) := by decide +kernel
theorem dw_M_same_2 : decode prog_11_method_46_code 2 = .ok (.lload_n 2, 1) := by decide +kernel
theorem dw_M_same_3 : decode prog_11_method_46_code 3 = .ok (.invokevirtual 325, 3) := by decide +kernel
theorem dw_M_same_6 : decode prog_11_method_46_code 6 = .ok (.istore 7, 2) := by decide +kernel
theorem dw_M_same_8 : decode prog_11_method_46_code 8 = .ok (.aload_n 0, 1) := by decide +kernel
theorem dw_M_same_9 : decode prog_11_method_46_code 9 = .ok (.iload 4, 2) := by decide +kernel
theorem dw_M_same_11 : decode prog_11_method_46_code 11 = .ok (.lload 5, 2) := by decide +kernel
theorem dw_M_same_13 : decode prog_11_method_46_code 13 = .ok (.invokevirtual 325, 3) := by decide +kernel
theorem dw_M_same_16 : decode prog_11_method_46_code 16 = .ok (.istore 8, 2) := by decide +kernel
theorem dw_M_same_18 : decode prog_11_method_46_code 18 = .ok (.iload 7, 2) := by decide +kernel
theorem dw_M_same_20 : decode prog_11_method_46_code 20 = .ok (.ifCond .lt 23, 3) := by decide +kernel
theorem dw_M_same_43 : decode prog_11_method_46_code 43 = .ok (.iconst 0, 1) := by decide +kernel
theorem dw_M_same_44 : decode prog_11_method_46_code 44 = .ok (.ireturn, 1) := by decide +kernel
theorem dw_M_same_23 : decode prog_11_method_46_code 23 = .ok (.iload 8, 2) := by decide +kernel
theorem dw_M_same_25 : decode prog_11_method_46_code 25 = .ok (.ifCond .lt 18, 3) := by decide +kernel
theorem dw_M_same_28 : decode prog_11_method_46_code 28 = .ok (.aload_n 0, 1) := by decide +kernel
theorem dw_M_same_29 : decode prog_11_method_46_code 29 = .ok (.iload 7, 2) := by decide +kernel
theorem dw_M_same_31 : decode prog_11_method_46_code 31 = .ok (.iload 8, 2) := by decide +kernel
theorem dw_M_same_33 : decode prog_11_method_46_code 33 = .ok (.invokevirtual 329, 3) := by decide +kernel
theorem dw_M_look_0 : decode prog_11_method_47_code 0 = .ok (.aload_n 0, 1) := by decide +kernel
theorem dw_M_look_1 : decode prog_11_method_47_code 1 = .ok (.iload_n 1, 1) := by decide +kernel
theorem dw_M_look_2 : decode prog_11_method_47_code 2 = .ok (.lload_n 2, 1) := by decide +kernel
theorem dw_M_look_3 : decode prog_11_method_47_code 3 = .ok (.invokevirtual 325, 3) := by decide +kernel
theorem dw_M_look_6 : decode prog_11_method_47_code 6 = .ok (.istore 5, 2) := by decide +kernel
theorem dw_M_look_8 : decode prog_11_method_47_code 8 = .ok (.iload 5, 2) := by decide +kernel
theorem dw_M_look_10 : decode prog_11_method_47_code 10 = .ok (.ifCond .ge 5, 3) := by decide +kernel
theorem dw_M_look_15 : decode prog_11_method_47_code 15 = .ok (.aload_n 0, 1) := by decide +kernel
theorem dw_M_look_16 : decode prog_11_method_47_code 16 = .ok (.getfield 16, 3) := by decide +kernel
theorem dw_M_look_19 : decode prog_11_method_47_code 19 = .ok (.iload 5, 2) := by decide +kernel
theorem dw_M_look_21 : decode prog_11_method_47_code 21 = .ok (.baload, 1) := by decide +kernel
theorem dw_M_look_22 : decode prog_11_method_47_code 22 = .ok (.iconst 4, 1) := by decide +kernel
theorem dw_M_look_23 : decode prog_11_method_47_code 23 = .ok (.if_icmp .ne 13, 3) := by decide +kernel
theorem dw_M_look_37 : decode prog_11_method_47_code 37 = .ok (.istore 6, 2) := by decide +kernel
theorem dw_M_look_39 : decode prog_11_method_47_code 39 = .ok (.iload 4, 2) := by decide +kernel
theorem dw_M_look_41 : decode prog_11_method_47_code 41 = .ok (.tableswitch 182 0 6 #[43, 51, 74, 81, 96, 134, 156], 43) := by decide +kernel
theorem dw_M_look_223 : decode prog_11_method_47_code 223 = .ok (.iconst (-1), 1) := by decide +kernel
theorem dw_M_look_224 : decode prog_11_method_47_code 224 = .ok (.ireturn, 1) := by decide +kernel
theorem dw_M_look_84 : decode prog_11_method_47_code 84 = .ok (.aload_n 0, 1) := by decide +kernel
theorem dw_M_look_85 : decode prog_11_method_47_code 85 = .ok (.getfield 16, 3) := by decide +kernel
theorem dw_M_look_88 : decode prog_11_method_47_code 88 = .ok (.iload 5, 2) := by decide +kernel
theorem dw_M_look_90 : decode prog_11_method_47_code 90 = .ok (.baload, 1) := by decide +kernel
theorem dw_M_look_91 : decode prog_11_method_47_code 91 = .ok (.ireturn, 1) := by decide +kernel
theorem dw_M_look_92 : decode prog_11_method_47_code 92 = .ok (.aload_n 0, 1) := by decide +kernel
theorem dw_M_look_93 : decode prog_11_method_47_code 93 = .ok (.getfield 16, 3) := by decide +kernel
theorem dw_M_look_96 : decode prog_11_method_47_code 96 = .ok (.iload 5, 2) := by decide +kernel
theorem dw_M_look_98 : decode prog_11_method_47_code 98 = .ok (.baload, 1) := by decide +kernel
theorem dw_M_look_99 : decode prog_11_method_47_code 99 = .ok (.iconst 2, 1) := by decide +kernel
theorem dw_M_look_100 : decode prog_11_method_47_code 100 = .ok (.if_icmp .ne 13, 3) := by decide +kernel
theorem dw_M_look_113 : decode prog_11_method_47_code 113 = .ok (.iconst (-1), 1) := by decide +kernel
theorem dw_M_look_114 : decode prog_11_method_47_code 114 = .ok (.ireturn, 1) := by decide +kernel
theorem dw_M_look_103 : decode prog_11_method_47_code 103 = .ok (.aload_n 0, 1) := by decide +kernel
theorem dw_M_look_104 : decode prog_11_method_47_code 104 = .ok (.getfield 19, 3) := by decide +kernel
theorem dw_M_look_107 : decode prog_11_method_47_code 107 = .ok (.iload 5, 2) := by decide +kernel
theorem dw_M_look_109 : decode prog_11_method_47_code 109 = .ok (.iaload, 1) := by decide +kernel
theorem dw_M_look_110 : decode prog_11_method_47_code 110 = .ok (.goto 4, 3) := by decide +kernel
theorem dw_M_look_115 : decode prog_11_method_47_code 115 = .ok (.aload_n 0, 1) := by decide +kernel
theorem dw_M_look_116 : decode prog_11_method_47_code 116 = .ok (.iload 5, 2) := by decide +kernel
theorem dw_M_look_118 : decode prog_11_method_47_code 118 = .ok (.invokevirtual 332, 3) := by decide +kernel
theorem dw_M_look_122 : decode prog_11_method_47_code 122 = .ok (.aload_n 0, 1) := by decide +kernel
theorem dw_M_look_123 : decode prog_11_method_47_code 123 = .ok (.iload 5, 2) := by decide +kernel
theorem dw_M_look_125 : decode prog_11_method_47_code 125 = .ok (.invokevirtual 335, 3) := by decide +kernel
theorem dw_M_look_137 : decode prog_11_method_47_code 137 = .ok (.aload_n 0, 1) := by decide +kernel
theorem dw_M_look_138 : decode prog_11_method_47_code 138 = .ok (.getfield 16, 3) := by decide +kernel
theorem dw_M_look_141 : decode prog_11_method_47_code 141 = .ok (.iload 5, 2) := by decide +kernel
theorem dw_M_look_143 : decode prog_11_method_47_code 143 = .ok (.baload, 1) := by decide +kernel
theorem dw_M_look_144 : decode prog_11_method_47_code 144 = .ok (.iconst 2, 1) := by decide +kernel
theorem dw_M_look_145 : decode prog_11_method_47_code 145 = .ok (.if_icmp .ge 13, 3) := by decide +kernel
theorem dw_M_look_158 : decode prog_11_method_47_code 158 = .ok (.iload 6, 2) := by decide +kernel
theorem dw_M_look_160 : decode prog_11_method_47_code 160 = .ok (.ifCond .lt 13, 3) := by decide +kernel
theorem dw_M_look_173 : decode prog_11_method_47_code 173 = .ok (.iconst (-1), 1) := by decide +kernel
theorem dw_M_look_174 : decode prog_11_method_47_code 174 = .ok (.ireturn, 1) := by decide +kernel
theorem dw_M_look_163 : decode prog_11_method_47_code 163 = .ok (.aload_n 0, 1) := by decide +kernel
theorem dw_M_look_164 : decode prog_11_method_47_code 164 = .ok (.getfield 53, 3) := by decide +kernel
theorem dw_M_look_167 : decode prog_11_method_47_code 167 = .ok (.iload 6, 2) := by decide +kernel
theorem dw_M_look_169 : decode prog_11_method_47_code 169 = .ok (.baload, 1) := by decide +kernel
theorem dw_M_look_170 : decode prog_11_method_47_code 170 = .ok (.goto 4, 3) := by decide +kernel
theorem dw_M_look_148 : decode prog_11_method_47_code 148 = .ok (.aload_n 0, 1) := by decide +kernel
theorem dw_M_look_149 : decode prog_11_method_47_code 149 = .ok (.getfield 33, 3) := by decide +kernel
theorem dw_M_look_152 : decode prog_11_method_47_code 152 = .ok (.iload 5, 2) := by decide +kernel
theorem dw_M_look_154 : decode prog_11_method_47_code 154 = .ok (.baload, 1) := by decide +kernel
theorem dw_M_look_155 : decode prog_11_method_47_code 155 = .ok (.goto 19, 3) := by decide +kernel
theorem dw_M_look_175 : decode prog_11_method_47_code 175 = .ok (.aload_n 0, 1) := by decide +kernel
theorem dw_M_look_176 : decode prog_11_method_47_code 176 = .ok (.getfield 16, 3) := by decide +kernel
theorem dw_M_look_179 : decode prog_11_method_47_code 179 = .ok (.iload 5, 2) := by decide +kernel
theorem dw_M_look_181 : decode prog_11_method_47_code 181 = .ok (.baload, 1) := by decide +kernel
theorem dw_M_look_182 : decode prog_11_method_47_code 182 = .ok (.ifCond .ne 13, 3) := by decide +kernel
theorem dw_M_look_195 : decode prog_11_method_47_code 195 = .ok (.iconst (-1), 1) := by decide +kernel
theorem dw_M_look_196 : decode prog_11_method_47_code 196 = .ok (.ireturn, 1) := by decide +kernel
theorem dw_M_look_185 : decode prog_11_method_47_code 185 = .ok (.aload_n 0, 1) := by decide +kernel
theorem dw_M_look_186 : decode prog_11_method_47_code 186 = .ok (.getfield 40, 3) := by decide +kernel
theorem dw_M_look_189 : decode prog_11_method_47_code 189 = .ok (.iload 5, 2) := by decide +kernel
theorem dw_M_look_191 : decode prog_11_method_47_code 191 = .ok (.iaload, 1) := by decide +kernel
theorem dw_M_look_192 : decode prog_11_method_47_code 192 = .ok (.goto 4, 3) := by decide +kernel
theorem dw_M_look_197 : decode prog_11_method_47_code 197 = .ok (.aload_n 0, 1) := by decide +kernel
theorem dw_M_look_198 : decode prog_11_method_47_code 198 = .ok (.getfield 16, 3) := by decide +kernel
theorem dw_M_look_201 : decode prog_11_method_47_code 201 = .ok (.iload 5, 2) := by decide +kernel
theorem dw_M_look_203 : decode prog_11_method_47_code 203 = .ok (.baload, 1) := by decide +kernel
theorem dw_M_look_204 : decode prog_11_method_47_code 204 = .ok (.iconst 4, 1) := by decide +kernel
theorem dw_M_look_205 : decode prog_11_method_47_code 205 = .ok (.if_icmp .eq 7, 3) := by decide +kernel
theorem dw_M_look_212 : decode prog_11_method_47_code 212 = .ok (.iload 6, 2) := by decide +kernel
theorem dw_M_look_214 : decode prog_11_method_47_code 214 = .ok (.ifCond .lt 7, 3) := by decide +kernel
theorem dw_M_look_221 : decode prog_11_method_47_code 221 = .ok (.iconst 0, 1) := by decide +kernel
theorem dw_M_look_222 : decode prog_11_method_47_code 222 = .ok (.ireturn, 1) := by decide +kernel
theorem dw_M_look_217 : decode prog_11_method_47_code 217 = .ok (.iconst 1, 1) := by decide +kernel
theorem dw_M_look_218 : decode prog_11_method_47_code 218 = .ok (.goto 4, 3) := by decide +kernel
theorem dw_M_look_208 : decode prog_11_method_47_code 208 = .ok (.iconst (-1), 1) := by decide +kernel
theorem dw_M_look_209 : decode prog_11_method_47_code 209 = .ok (.goto 13, 3) := by decide +kernel
theorem dw_M_look_36 : decode prog_11_method_47_code 36 = .ok (.iconst (-1), 1) := by decide +kernel
theorem dw_M_look_26 : decode prog_11_method_47_code 26 = .ok (.aload_n 0, 1) := by decide +kernel
theorem dw_M_look_27 : decode prog_11_method_47_code 27 = .ok (.iload 5, 2) := by decide +kernel
theorem dw_M_look_29 : decode prog_11_method_47_code 29 = .ok (.iconst 0, 1) := by decide +kernel
theorem dw_M_look_30 : decode prog_11_method_47_code 30 = .ok (.invokevirtual 233, 3) := by decide +kernel
theorem dw_M_look_13 : decode prog_11_method_47_code 13 = .ok (.iconst (-1), 1) := by decide +kernel
theorem dw_M_look_14 : decode prog_11_method_47_code 14 = .ok (.ireturn, 1) := by decide +kernel
theorem dw_M_label_0 : decode prog_11_method_48_code 0 = .ok (.aload_n 0, 1) := by decide +kernel
theorem dw_M_label_1 : decode prog_11_method_48_code 1 = .ok (.iload_n 1, 1) := by decide +kernel
theorem dw_M_label_2 : decode prog_11_method_48_code 2 = .ok (.lload_n 2, 1) := by decide +kernel
theorem dw_M_label_3 : decode prog_11_method_48_code 3 = .ok (.invokevirtual 325, 3) := by decide +kernel
theorem dw_M_label_6 : decode prog_11_method_48_code 6 = .ok (.istore 5, 2) := by decide +kernel
theorem dw_M_label_8 : decode prog_11_method_48_code 8 = .ok (.iload 5, 2) := by decide +kernel
theorem dw_M_label_10 : decode prog_11_method_48_code 10 = .ok (.ifCond .lt 19, 3) := by decide +kernel
theorem dw_M_label_29 : decode prog_11_method_48_code 29 = .ok (.iconst (-1), 1) := by decide +kernel
theorem dw_M_label_30 : decode prog_11_method_48_code 30 = .ok (.ireturn, 1) := by decide +kernel
theorem dw_M_label_13 : decode prog_11_method_48_code 13 = .ok (.aload_n 0, 1) := by decide +kernel
theorem dw_M_label_14 : decode prog_11_method_48_code 14 = .ok (.getfield 16, 3) := by decide +kernel
theorem dw_M_label_17 : decode prog_11_method_48_code 17 = .ok (.iload 5, 2) := by decide +kernel
theorem dw_M_label_19 : decode prog_11_method_48_code 19 = .ok (.baload, 1) := by decide +kernel
theorem dw_M_label_20 : decode prog_11_method_48_code 20 = .ok (.iconst 4, 1) := by decide +kernel
theorem dw_M_label_21 : decode prog_11_method_48_code 21 = .ok (.if_icmp .ne 8, 3) := by decide +kernel
theorem dw_M_label_24 : decode prog_11_method_48_code 24 = .ok (.iload 4, 2) := by decide +kernel
theorem dw_M_label_26 : decode prog_11_method_48_code 26 = .ok (.ifCond .ge 5, 3) := by decide +kernel
theorem dw_M_label_31 : decode prog_11_method_48_code 31 = .ok (.aload_n 0, 1) := by decide +kernel
theorem dw_M_label_32 : decode prog_11_method_48_code 32 = .ok (.iload 5, 2) := by decide +kernel
theorem dw_M_label_34 : decode prog_11_method_48_code 34 = .ok (.iconst 0, 1) := by decide +kernel
theorem dw_M_label_35 : decode prog_11_method_48_code 35 = .ok (.invokevirtual 233, 3) := by decide +kernel
theorem dw_M_scheme_0 : decode prog_11_method_52_code 0 = .ok (.aload_n 0, 1) := by decide +kernel
theorem dw_M_scheme_1 : decode prog_11_method_52_code 1 = .ok (.iload_n 1, 1) := by decide +kernel
theorem dw_M_scheme_2 : decode prog_11_method_52_code 2 = .ok (.invokevirtual 187, 3) := by decide +kernel
theorem dw_M_scheme_5 : decode prog_11_method_52_code 5 = .ok (.ifCond .eq 15, 3) := by decide +kernel
theorem dw_M_scheme_20 : decode prog_11_method_52_code 20 = .ok (.iconst (-1), 1) := by decide +kernel
theorem dw_M_scheme_21 : decode prog_11_method_52_code 21 = .ok (.ireturn, 1) := by decide +kernel
theorem dw_M_scheme_8 : decode prog_11_method_52_code 8 = .ok (.aload_n 0, 1) := by decide +kernel
theorem dw_M_scheme_9 : decode prog_11_method_52_code 9 = .ok (.aload_n 0, 1) := by decide +kernel
theorem dw_M_scheme_10 : decode prog_11_method_52_code 10 = .ok (.iload_n 1, 1) := by decide +kernel
theorem dw_M_scheme_11 : decode prog_11_method_52_code 11 = .ok (.invokevirtual 230, 3) := by decide +kernel
theorem dw_M_quantified_0 : decode prog_11_method_55_code 0 = .ok (.aload_n 0, 1) := by decide +kernel
theorem dw_M_quantified_1 : decode prog_11_method_55_code 1 = .ok (.iload_n 1, 1) := by decide +kernel
theorem dw_M_quantified_2 : decode prog_11_method_55_code 2 = .ok (.invokevirtual 373, 3) := by decide +kernel
theorem dw_M_quantified_5 : decode prog_11_method_55_code 5 = .ok (.ifCond .ne 5, 3) := by decide +kernel
theorem dw_M_quantified_10 : decode prog_11_method_55_code 10 = .ok (.iload_n 2, 1) := by decide +kernel
theorem dw_M_quantified_11 : decode prog_11_method_55_code 11 = .ok (.ifCond .ne 12, 3) := by decide +kernel
theorem dw_M_quantified_23 : decode prog_11_method_55_code 23 = .ok (.iload_n 2, 1) := by decide +kernel
theorem dw_M_quantified_24 : decode prog_11_method_55_code 24 = .ok (.iconst 1, 1) := by decide +kernel
theorem dw_M_quantified_25 : decode prog_11_method_55_code 25 = .ok (.if_icmp .ne 20, 3) := by decide +kernel
theorem dw_M_quantified_45 : decode prog_11_method_55_code 45 = .ok (.iload_n 2, 1) := by decide +kernel
theorem dw_M_quantified_46 : decode prog_11_method_55_code 46 = .ok (.iconst 2, 1) := by decide +kernel
theorem dw_M_quantified_47 : decode prog_11_method_55_code 47 = .ok (.if_icmp .ne 12, 3) := by decide +kernel
theorem dw_M_quantified_59 : decode prog_11_method_55_code 59 = .ok (.iconst (-1), 1) := by decide +kernel
theorem dw_M_quantified_60 : decode prog_11_method_55_code 60 = .ok (.ireturn, 1) := by decide +kernel
theorem dw_M_quantified_50 : decode prog_11_method_55_code 50 = .ok (.aload_n 0, 1) := by decide +kernel
theorem dw_M_quantified_51 : decode prog_11_method_55_code 51 = .ok (.getfield 87, 3) := by decide +kernel
theorem dw_M_quantified_54 : decode prog_11_method_55_code 54 = .ok (.iload_n 1, 1) := by decide +kernel
theorem dw_M_quantified_55 : decode prog_11_method_55_code 55 = .ok (.iaload, 1) := by decide +kernel
theorem dw_M_quantified_56 : decode prog_11_method_55_code 56 = .ok (.goto 4, 3) := by decide +kernel
theorem dw_M_quantified_28 : decode prog_11_method_55_code 28 = .ok (.aload_n 0, 1) := by decide +kernel
theorem dw_M_quantified_29 : decode prog_11_method_55_code 29 = .ok (.getfield 90, 3) := by decide +kernel
theorem dw_M_quantified_32 : decode prog_11_method_55_code 32 = .ok (.iload_n 1, 1) := by decide +kernel
theorem dw_M_quantified_33 : decode prog_11_method_55_code 33 = .ok (.baload, 1) := by decide +kernel
theorem dw_M_quantified_34 : decode prog_11_method_55_code 34 = .ok (.ifCond .eq 7, 3) := by decide +kernel
theorem dw_M_quantified_41 : decode prog_11_method_55_code 41 = .ok (.iconst 0, 1) := by decide +kernel
theorem dw_M_quantified_42 : decode prog_11_method_55_code 42 = .ok (.goto 18, 3) := by decide +kernel
theorem dw_M_quantified_37 : decode prog_11_method_55_code 37 = .ok (.iconst 1, 1) := by decide +kernel
theorem dw_M_quantified_38 : decode prog_11_method_55_code 38 = .ok (.goto 22, 3) := by decide +kernel
theorem dw_M_quantified_14 : decode prog_11_method_55_code 14 = .ok (.aload_n 0, 1) := by decide +kernel
theorem dw_M_quantified_15 : decode prog_11_method_55_code 15 = .ok (.getfield 84, 3) := by decide +kernel
theorem dw_M_quantified_18 : decode prog_11_method_55_code 18 = .ok (.iload_n 1, 1) := by decide +kernel
theorem dw_M_quantified_19 : decode prog_11_method_55_code 19 = .ok (.iaload, 1) := by decide +kernel
theorem dw_M_quantified_20 : decode prog_11_method_55_code 20 = .ok (.goto 40, 3) := by decide +kernel
theorem dw_M_quantified_8 : decode prog_11_method_55_code 8 = .ok (.iconst (-1), 1) := by decide +kernel
theorem dw_M_quantified_9 : decode prog_11_method_55_code 9 = .ok (.ireturn, 1) := by decide +kernel
theorem dw_M_instance_0 : decode prog_11_method_56_code 0 = .ok (.aload_n 0, 1) := by decide +kernel
theorem dw_M_instance_1 : decode prog_11_method_56_code 1 = .ok (.iload_n 1, 1) := by decide +kernel
theorem dw_M_instance_2 : decode prog_11_method_56_code 2 = .ok (.invokevirtual 373, 3) := by decide +kernel
theorem dw_M_instance_5 : decode prog_11_method_56_code 5 = .ok (.ifCond .ne 5, 3) := by decide +kernel
theorem dw_M_instance_10 : decode prog_11_method_56_code 10 = .ok (.aload_n 0, 1) := by decide +kernel
theorem dw_M_instance_11 : decode prog_11_method_56_code 11 = .ok (.getfield 81, 3) := by decide +kernel
theorem dw_M_instance_14 : decode prog_11_method_56_code 14 = .ok (.iload_n 1, 1) := by decide +kernel
theorem dw_M_instance_15 : decode prog_11_method_56_code 15 = .ok (.iaload, 1) := by decide +kernel
theorem dw_M_instance_16 : decode prog_11_method_56_code 16 = .ok (.istore_n 2, 1) := by decide +kernel
theorem dw_M_instance_17 : decode prog_11_method_56_code 17 = .ok (.aload_n 0, 1) := by decide +kernel
theorem dw_M_instance_18 : decode prog_11_method_56_code 18 = .ok (.getfield 81, 3) := by decide +kernel
theorem dw_M_instance_21 : decode prog_11_method_56_code 21 = .ok (.iload_n 1, 1) := by decide +kernel
theorem dw_M_instance_22 : decode prog_11_method_56_code 22 = .ok (.iconst 1, 1) := by decide +kernel
theorem dw_M_instance_23 : decode prog_11_method_56_code 23 = .ok (.iadd, 1) := by decide +kernel
theorem dw_M_instance_24 : decode prog_11_method_56_code 24 = .ok (.iaload, 1) := by decide +kernel
theorem dw_M_instance_25 : decode prog_11_method_56_code 25 = .ok (.iload_n 2, 1) := by decide +kernel
theorem dw_M_instance_26 : decode prog_11_method_56_code 26 = .ok (.isub, 1) := by decide +kernel
theorem dw_M_instance_27 : decode prog_11_method_56_code 27 = .ok (.istore_n 3, 1) := by decide +kernel
theorem dw_M_instance_28 : decode prog_11_method_56_code 28 = .ok (.iconst 0, 1) := by decide +kernel
theorem dw_M_instance_29 : decode prog_11_method_56_code 29 = .ok (.istore 4, 2) := by decide +kernel
theorem dw_M_instance_31 : decode prog_11_method_56_code 31 = .ok (.iload_n 2, 1) := by decide +kernel
theorem dw_M_instance_32 : decode prog_11_method_56_code 32 = .ok (.istore 5, 2) := by decide +kernel
theorem dw_M_instance_70 : decode prog_11_method_56_code 70 = .ok (.aload_n 0, 1) := by decide +kernel
theorem dw_M_instance_71 : decode prog_11_method_56_code 71 = .ok (.getfield 99, 3) := by decide +kernel
theorem dw_M_instance_74 : decode prog_11_method_56_code 74 = .ok (.iload_n 2, 1) := by decide +kernel
theorem dw_M_instance_75 : decode prog_11_method_56_code 75 = .ok (.iload_n 3, 1) := by decide +kernel
theorem dw_M_instance_76 : decode prog_11_method_56_code 76 = .ok (.iadd, 1) := by decide +kernel
theorem dw_M_instance_77 : decode prog_11_method_56_code 77 = .ok (.iaload, 1) := by decide +kernel
theorem dw_M_instance_78 : decode prog_11_method_56_code 78 = .ok (.aload_n 0, 1) := by decide +kernel
theorem dw_M_instance_79 : decode prog_11_method_56_code 79 = .ok (.getfield 99, 3) := by decide +kernel
theorem dw_M_instance_82 : decode prog_11_method_56_code 82 = .ok (.iload_n 2, 1) := by decide +kernel
theorem dw_M_instance_83 : decode prog_11_method_56_code 83 = .ok (.iaload, 1) := by decide +kernel
theorem dw_M_instance_84 : decode prog_11_method_56_code 84 = .ok (.isub, 1) := by decide +kernel
theorem dw_M_instance_85 : decode prog_11_method_56_code 85 = .ok (.istore 5, 2) := by decide +kernel
theorem dw_M_instance_87 : decode prog_11_method_56_code 87 = .ok (.iload_n 3, 1) := by decide +kernel
theorem dw_M_instance_88 : decode prog_11_method_56_code 88 = .ok (.ifCond .eq 28, 3) := by decide +kernel
theorem dw_M_instance_116 : decode prog_11_method_56_code 116 = .ok (.bipush (-2), 2) := by decide +kernel
theorem dw_M_instance_118 : decode prog_11_method_56_code 118 = .ok (.ireturn, 1) := by decide +kernel
theorem dw_M_instance_91 : decode prog_11_method_56_code 91 = .ok (.aload_n 0, 1) := by decide +kernel
theorem dw_M_instance_92 : decode prog_11_method_56_code 92 = .ok (.getfield 177, 3) := by decide +kernel
theorem dw_M_instance_95 : decode prog_11_method_56_code 95 = .ok (.iload 4, 2) := by decide +kernel
theorem dw_M_instance_97 : decode prog_11_method_56_code 97 = .ok (.iadd, 1) := by decide +kernel
theorem dw_M_instance_98 : decode prog_11_method_56_code 98 = .ok (.sipush 24576, 3) := by decide +kernel
theorem dw_M_instance_101 : decode prog_11_method_56_code 101 = .ok (.if_icmp .gt 15, 3) := by decide +kernel
theorem dw_M_instance_104 : decode prog_11_method_56_code 104 = .ok (.aload_n 0, 1) := by decide +kernel
theorem dw_M_instance_105 : decode prog_11_method_56_code 105 = .ok (.getfield 180, 3) := by decide +kernel
theorem dw_M_instance_108 : decode prog_11_method_56_code 108 = .ok (.iload 5, 2) := by decide +kernel
theorem dw_M_instance_110 : decode prog_11_method_56_code 110 = .ok (.iadd, 1) := by decide +kernel
theorem dw_M_instance_111 : decode prog_11_method_56_code 111 = .ok (.ldc 46, 2) := by decide +kernel
theorem dw_M_instance_113 : decode prog_11_method_56_code 113 = .ok (.if_icmp .le 6, 3) := by decide +kernel
theorem dw_M_instance_119 : decode prog_11_method_56_code 119 = .ok (.iconst 0, 1) := by decide +kernel
theorem dw_M_instance_120 : decode prog_11_method_56_code 120 = .ok (.istore 6, 2) := by decide +kernel
theorem dw_M_instance_174 : decode prog_11_method_56_code 174 = .ok (.aload_n 0, 1) := by decide +kernel
theorem dw_M_instance_175 : decode prog_11_method_56_code 175 = .ok (.getfield 167, 3) := by decide +kernel
theorem dw_M_instance_178 : decode prog_11_method_56_code 178 = .ok (.iload_n 3, 1) := by decide +kernel
theorem dw_M_instance_179 : decode prog_11_method_56_code 179 = .ok (.iconst 1, 1) := by decide +kernel
theorem dw_M_instance_180 : decode prog_11_method_56_code 180 = .ok (.isub, 1) := by decide +kernel
theorem dw_M_instance_181 : decode prog_11_method_56_code 181 = .ok (.iaload, 1) := by decide +kernel
theorem dw_M_instance_182 : decode prog_11_method_56_code 182 = .ok (.ireturn, 1) := by decide +kernel
theorem dw_M_instance_122 : decode prog_11_method_56_code 122 = .ok (.iload 6, 2) := by decide +kernel
theorem dw_M_instance_124 : decode prog_11_method_56_code 124 = .ok (.iload_n 3, 1) := by decide +kernel
theorem dw_M_instance_125 : decode prog_11_method_56_code 125 = .ok (.if_icmp .ge 49, 3) := by decide +kernel
theorem dw_M_instance_128 : decode prog_11_method_56_code 128 = .ok (.aload_n 0, 1) := by decide +kernel
theorem dw_M_instance_129 : decode prog_11_method_56_code 129 = .ok (.getfield 167, 3) := by decide +kernel
theorem dw_M_instance_132 : decode prog_11_method_56_code 132 = .ok (.iload 6, 2) := by decide +kernel
theorem dw_M_instance_134 : decode prog_11_method_56_code 134 = .ok (.aload_n 0, 1) := by decide +kernel
theorem dw_M_instance_135 : decode prog_11_method_56_code 135 = .ok (.getfield 93, 3) := by decide +kernel
theorem dw_M_instance_138 : decode prog_11_method_56_code 138 = .ok (.iload_n 2, 1) := by decide +kernel
theorem dw_M_instance_139 : decode prog_11_method_56_code 139 = .ok (.iload 6, 2) := by decide +kernel
theorem dw_M_instance_141 : decode prog_11_method_56_code 141 = .ok (.iadd, 1) := by decide +kernel
theorem dw_M_instance_142 : decode prog_11_method_56_code 142 = .ok (.baload, 1) := by decide +kernel
theorem dw_M_instance_143 : decode prog_11_method_56_code 143 = .ok (.iconst 1, 1) := by decide +kernel
theorem dw_M_instance_144 : decode prog_11_method_56_code 144 = .ok (.if_icmp .ne 15, 3) := by decide +kernel
theorem dw_M_instance_167 : decode prog_11_method_56_code 167 = .ok (.iastore, 1) := by decide +kernel
theorem dw_M_instance_168 : decode prog_11_method_56_code 168 = .ok (.iinc 6 1, 3) := by decide +kernel
theorem dw_M_instance_171 : decode prog_11_method_56_code 171 = .ok (.goto (-49), 3) := by decide +kernel
theorem dw_M_instance_159 : decode prog_11_method_56_code 159 = .ok (.aload_n 0, 1) := by decide +kernel
theorem dw_M_instance_160 : decode prog_11_method_56_code 160 = .ok (.iload_n 2, 1) := by decide +kernel
theorem dw_M_instance_161 : decode prog_11_method_56_code 161 = .ok (.iload 6, 2) := by decide +kernel
theorem dw_M_instance_163 : decode prog_11_method_56_code 163 = .ok (.iadd, 1) := by decide +kernel
theorem dw_M_instance_164 : decode prog_11_method_56_code 164 = .ok (.invokevirtual 376, 3) := by decide +kernel
theorem dw_M_instance_147 : decode prog_11_method_56_code 147 = .ok (.aload_n 0, 1) := by decide +kernel
theorem dw_M_instance_148 : decode prog_11_method_56_code 148 = .ok (.getfield 96, 3) := by decide +kernel
theorem dw_M_instance_151 : decode prog_11_method_56_code 151 = .ok (.iload_n 2, 1) := by decide +kernel
theorem dw_M_instance_152 : decode prog_11_method_56_code 152 = .ok (.iload 6, 2) := by decide +kernel
theorem dw_M_instance_154 : decode prog_11_method_56_code 154 = .ok (.iadd, 1) := by decide +kernel
theorem dw_M_instance_155 : decode prog_11_method_56_code 155 = .ok (.iaload, 1) := by decide +kernel
theorem dw_M_instance_156 : decode prog_11_method_56_code 156 = .ok (.goto 11, 3) := by decide +kernel
theorem dw_M_instance_34 : decode prog_11_method_56_code 34 = .ok (.iload 5, 2) := by decide +kernel
theorem dw_M_instance_36 : decode prog_11_method_56_code 36 = .ok (.iload_n 2, 1) := by decide +kernel
theorem dw_M_instance_37 : decode prog_11_method_56_code 37 = .ok (.iload_n 3, 1) := by decide +kernel
theorem dw_M_instance_38 : decode prog_11_method_56_code 38 = .ok (.iadd, 1) := by decide +kernel
theorem dw_M_instance_39 : decode prog_11_method_56_code 39 = .ok (.if_icmp .ge 31, 3) := by decide +kernel
theorem dw_M_instance_42 : decode prog_11_method_56_code 42 = .ok (.aload_n 0, 1) := by decide +kernel
theorem dw_M_instance_43 : decode prog_11_method_56_code 43 = .ok (.getfield 93, 3) := by decide +kernel
theorem dw_M_instance_46 : decode prog_11_method_56_code 46 = .ok (.iload 5, 2) := by decide +kernel
theorem dw_M_instance_48 : decode prog_11_method_56_code 48 = .ok (.baload, 1) := by decide +kernel
theorem dw_M_instance_49 : decode prog_11_method_56_code 49 = .ok (.iconst 1, 1) := by decide +kernel
theorem dw_M_instance_50 : decode prog_11_method_56_code 50 = .ok (.if_icmp .ne 8, 3) := by decide +kernel
theorem dw_M_instance_62 : decode prog_11_method_56_code 62 = .ok (.istore 4, 2) := by decide +kernel
theorem dw_M_instance_64 : decode prog_11_method_56_code 64 = .ok (.iinc 5 1, 3) := by decide +kernel
theorem dw_M_instance_67 : decode prog_11_method_56_code 67 = .ok (.goto (-33), 3) := by decide +kernel
theorem dw_M_instance_58 : decode prog_11_method_56_code 58 = .ok (.iload 4, 2) := by decide +kernel
theorem dw_M_instance_60 : decode prog_11_method_56_code 60 = .ok (.iconst 1, 1) := by decide +kernel
theorem dw_M_instance_61 : decode prog_11_method_56_code 61 = .ok (.iadd, 1) := by decide +kernel
theorem dw_M_instance_53 : decode prog_11_method_56_code 53 = .ok (.iload 4, 2) := by decide +kernel
theorem dw_M_instance_55 : decode prog_11_method_56_code 55 = .ok (.goto 7, 3) := by decide +kernel
theorem dw_M_instance_8 : decode prog_11_method_56_code 8 = .ok (.iconst (-1), 1) := by decide +kernel
theorem dw_M_instance_9 : decode prog_11_method_56_code 9 = .ok (.ireturn, 1) := by decide +kernel
theorem dw_M_alike_0 : decode prog_11_method_58_code 0 = .ok (.aload_n 0, 1) := by decide +kernel
theorem dw_M_alike_1 : decode prog_11_method_58_code 1 = .ok (.iload_n 1, 1) := by decide +kernel
theorem dw_M_alike_2 : decode prog_11_method_58_code 2 = .ok (.invokevirtual 373, 3) := by decide +kernel
theorem dw_M_alike_5 : decode prog_11_method_58_code 5 = .ok (.ifCond .eq 29, 3) := by decide +kernel
theorem dw_M_alike_34 : decode prog_11_method_58_code 34 = .ok (.iconst 0, 1) := by decide +kernel
theorem dw_M_alike_35 : decode prog_11_method_58_code 35 = .ok (.ireturn, 1) := by decide +kernel
theorem dw_M_alike_8 : decode prog_11_method_58_code 8 = .ok (.aload_n 0, 1) := by decide +kernel
theorem dw_M_alike_9 : decode prog_11_method_58_code 9 = .ok (.iload_n 2, 1) := by decide +kernel
theorem dw_M_alike_10 : decode prog_11_method_58_code 10 = .ok (.invokevirtual 373, 3) := by decide +kernel
theorem dw_M_alike_13 : decode prog_11_method_58_code 13 = .ok (.ifCond .eq 21, 3) := by decide +kernel
theorem dw_M_alike_16 : decode prog_11_method_58_code 16 = .ok (.aload_n 0, 1) := by decide +kernel
theorem dw_M_alike_17 : decode prog_11_method_58_code 17 = .ok (.getfield 90, 3) := by decide +kernel
theorem dw_M_alike_20 : decode prog_11_method_58_code 20 = .ok (.iload_n 1, 1) := by decide +kernel
theorem dw_M_alike_21 : decode prog_11_method_58_code 21 = .ok (.baload, 1) := by decide +kernel
theorem dw_M_alike_22 : decode prog_11_method_58_code 22 = .ok (.ifCond .eq 12, 3) := by decide +kernel
theorem dw_M_alike_25 : decode prog_11_method_58_code 25 = .ok (.aload_n 0, 1) := by decide +kernel
theorem dw_M_alike_26 : decode prog_11_method_58_code 26 = .ok (.getfield 90, 3) := by decide +kernel
theorem dw_M_alike_29 : decode prog_11_method_58_code 29 = .ok (.iload_n 2, 1) := by decide +kernel
theorem dw_M_alike_30 : decode prog_11_method_58_code 30 = .ok (.baload, 1) := by decide +kernel
theorem dw_M_alike_31 : decode prog_11_method_58_code 31 = .ok (.ifCond .ne 5, 3) := by decide +kernel
theorem dw_M_alike_36 : decode prog_11_method_58_code 36 = .ok (.aload_n 0, 1) := by decide +kernel
theorem dw_M_alike_37 : decode prog_11_method_58_code 37 = .ok (.getfield 81, 3) := by decide +kernel
theorem dw_M_alike_40 : decode prog_11_method_58_code 40 = .ok (.iload_n 1, 1) := by decide +kernel
theorem dw_M_alike_41 : decode prog_11_method_58_code 41 = .ok (.iaload, 1) := by decide +kernel
theorem dw_M_alike_42 : decode prog_11_method_58_code 42 = .ok (.istore_n 3, 1) := by decide +kernel
theorem dw_M_alike_43 : decode prog_11_method_58_code 43 = .ok (.aload_n 0, 1) := by decide +kernel
theorem dw_M_alike_44 : decode prog_11_method_58_code 44 = .ok (.getfield 81, 3) := by decide +kernel
theorem dw_M_alike_47 : decode prog_11_method_58_code 47 = .ok (.iload_n 2, 1) := by decide +kernel
theorem dw_M_alike_48 : decode prog_11_method_58_code 48 = .ok (.iaload, 1) := by decide +kernel
theorem dw_M_alike_49 : decode prog_11_method_58_code 49 = .ok (.istore 4, 2) := by decide +kernel
theorem dw_M_alike_51 : decode prog_11_method_58_code 51 = .ok (.aload_n 0, 1) := by decide +kernel
theorem dw_M_alike_52 : decode prog_11_method_58_code 52 = .ok (.getfield 81, 3) := by decide +kernel
theorem dw_M_alike_55 : decode prog_11_method_58_code 55 = .ok (.iload_n 1, 1) := by decide +kernel
theorem dw_M_alike_56 : decode prog_11_method_58_code 56 = .ok (.iconst 1, 1) := by decide +kernel
theorem dw_M_alike_57 : decode prog_11_method_58_code 57 = .ok (.iadd, 1) := by decide +kernel
theorem dw_M_alike_58 : decode prog_11_method_58_code 58 = .ok (.iaload, 1) := by decide +kernel
theorem dw_M_alike_59 : decode prog_11_method_58_code 59 = .ok (.iload_n 3, 1) := by decide +kernel
theorem dw_M_alike_60 : decode prog_11_method_58_code 60 = .ok (.isub, 1) := by decide +kernel
theorem dw_M_alike_61 : decode prog_11_method_58_code 61 = .ok (.istore 5, 2) := by decide +kernel
theorem dw_M_alike_63 : decode prog_11_method_58_code 63 = .ok (.aload_n 0, 1) := by decide +kernel
theorem dw_M_alike_64 : decode prog_11_method_58_code 64 = .ok (.getfield 81, 3) := by decide +kernel
theorem dw_M_alike_67 : decode prog_11_method_58_code 67 = .ok (.iload_n 2, 1) := by decide +kernel
theorem dw_M_alike_68 : decode prog_11_method_58_code 68 = .ok (.iconst 1, 1) := by decide +kernel
theorem dw_M_alike_69 : decode prog_11_method_58_code 69 = .ok (.iadd, 1) := by decide +kernel
theorem dw_M_alike_70 : decode prog_11_method_58_code 70 = .ok (.iaload, 1) := by decide +kernel
theorem dw_M_alike_71 : decode prog_11_method_58_code 71 = .ok (.iload 4, 2) := by decide +kernel
theorem dw_M_alike_73 : decode prog_11_method_58_code 73 = .ok (.isub, 1) := by decide +kernel
theorem dw_M_alike_74 : decode prog_11_method_58_code 74 = .ok (.iload 5, 2) := by decide +kernel
theorem dw_M_alike_76 : decode prog_11_method_58_code 76 = .ok (.if_icmp .ne 7, 3) := by decide +kernel
theorem dw_M_alike_84 : decode prog_11_method_58_code 84 = .ok (.istore 6, 2) := by decide +kernel
theorem dw_M_alike_86 : decode prog_11_method_58_code 86 = .ok (.iconst 0, 1) := by decide +kernel
theorem dw_M_alike_87 : decode prog_11_method_58_code 87 = .ok (.istore 7, 2) := by decide +kernel
theorem dw_M_alike_89 : decode prog_11_method_58_code 89 = .ok (.iload 7, 2) := by decide +kernel
theorem dw_M_alike_91 : decode prog_11_method_58_code 91 = .ok (.iload 5, 2) := by decide +kernel
theorem dw_M_alike_93 : decode prog_11_method_58_code 93 = .ok (.if_icmp .ge 254, 3) := by decide +kernel
theorem dw_M_alike_347 : decode prog_11_method_58_code 347 = .ok (.iload 6, 2) := by decide +kernel
theorem dw_M_alike_349 : decode prog_11_method_58_code 349 = .ok (.ireturn, 1) := by decide +kernel
theorem dw_M_alike_96 : decode prog_11_method_58_code 96 = .ok (.iload 6, 2) := by decide +kernel
theorem dw_M_alike_98 : decode prog_11_method_58_code 98 = .ok (.ifCond .eq 249, 3) := by decide +kernel
theorem dw_M_alike_101 : decode prog_11_method_58_code 101 = .ok (.aload_n 0, 1) := by decide +kernel
theorem dw_M_alike_102 : decode prog_11_method_58_code 102 = .ok (.getfield 99, 3) := by decide +kernel
theorem dw_M_alike_105 : decode prog_11_method_58_code 105 = .ok (.iload_n 3, 1) := by decide +kernel
theorem dw_M_alike_106 : decode prog_11_method_58_code 106 = .ok (.iload 7, 2) := by decide +kernel
theorem dw_M_alike_108 : decode prog_11_method_58_code 108 = .ok (.iadd, 1) := by decide +kernel
theorem dw_M_alike_109 : decode prog_11_method_58_code 109 = .ok (.iconst 1, 1) := by decide +kernel
theorem dw_M_alike_110 : decode prog_11_method_58_code 110 = .ok (.iadd, 1) := by decide +kernel
theorem dw_M_alike_111 : decode prog_11_method_58_code 111 = .ok (.iaload, 1) := by decide +kernel
theorem dw_M_alike_112 : decode prog_11_method_58_code 112 = .ok (.aload_n 0, 1) := by decide +kernel
theorem dw_M_alike_113 : decode prog_11_method_58_code 113 = .ok (.getfield 99, 3) := by decide +kernel
theorem dw_M_alike_116 : decode prog_11_method_58_code 116 = .ok (.iload_n 3, 1) := by decide +kernel
theorem dw_M_alike_117 : decode prog_11_method_58_code 117 = .ok (.iload 7, 2) := by decide +kernel
theorem dw_M_alike_119 : decode prog_11_method_58_code 119 = .ok (.iadd, 1) := by decide +kernel
theorem dw_M_alike_120 : decode prog_11_method_58_code 120 = .ok (.iaload, 1) := by decide +kernel
theorem dw_M_alike_121 : decode prog_11_method_58_code 121 = .ok (.isub, 1) := by decide +kernel
theorem dw_M_alike_122 : decode prog_11_method_58_code 122 = .ok (.istore 8, 2) := by decide +kernel
theorem dw_M_alike_124 : decode prog_11_method_58_code 124 = .ok (.aload_n 0, 1) := by decide +kernel
theorem dw_M_alike_125 : decode prog_11_method_58_code 125 = .ok (.getfield 93, 3) := by decide +kernel
theorem dw_M_alike_128 : decode prog_11_method_58_code 128 = .ok (.iload_n 3, 1) := by decide +kernel
theorem dw_M_alike_129 : decode prog_11_method_58_code 129 = .ok (.iload 7, 2) := by decide +kernel
theorem dw_M_alike_131 : decode prog_11_method_58_code 131 = .ok (.iadd, 1) := by decide +kernel
theorem dw_M_alike_132 : decode prog_11_method_58_code 132 = .ok (.baload, 1) := by decide +kernel
theorem dw_M_alike_133 : decode prog_11_method_58_code 133 = .ok (.aload_n 0, 1) := by decide +kernel
theorem dw_M_alike_134 : decode prog_11_method_58_code 134 = .ok (.getfield 93, 3) := by decide +kernel
theorem dw_M_alike_137 : decode prog_11_method_58_code 137 = .ok (.iload 4, 2) := by decide +kernel
theorem dw_M_alike_139 : decode prog_11_method_58_code 139 = .ok (.iload 7, 2) := by decide +kernel
theorem dw_M_alike_141 : decode prog_11_method_58_code 141 = .ok (.iadd, 1) := by decide +kernel
theorem dw_M_alike_142 : decode prog_11_method_58_code 142 = .ok (.baload, 1) := by decide +kernel
theorem dw_M_alike_143 : decode prog_11_method_58_code 143 = .ok (.if_icmp .ne 91, 3) := by decide +kernel
theorem dw_M_alike_235 : decode prog_11_method_58_code 235 = .ok (.istore 6, 2) := by decide +kernel
theorem dw_M_alike_237 : decode prog_11_method_58_code 237 = .ok (.iconst 0, 1) := by decide +kernel
theorem dw_M_alike_238 : decode prog_11_method_58_code 238 = .ok (.istore 9, 2) := by decide +kernel
theorem dw_M_alike_341 : decode prog_11_method_58_code 341 = .ok (.iinc 7 1, 3) := by decide +kernel
theorem dw_M_alike_344 : decode prog_11_method_58_code 344 = .ok (.goto (-255), 3) := by decide +kernel
theorem dw_M_alike_240 : decode prog_11_method_58_code 240 = .ok (.iload 9, 2) := by decide +kernel
theorem dw_M_alike_242 : decode prog_11_method_58_code 242 = .ok (.iload 8, 2) := by decide +kernel
theorem dw_M_alike_244 : decode prog_11_method_58_code 244 = .ok (.if_icmp .ge 97, 3) := by decide +kernel
theorem dw_M_alike_247 : decode prog_11_method_58_code 247 = .ok (.iload 6, 2) := by decide +kernel
theorem dw_M_alike_249 : decode prog_11_method_58_code 249 = .ok (.ifCond .eq 92, 3) := by decide +kernel
theorem dw_M_alike_252 : decode prog_11_method_58_code 252 = .ok (.aload_n 0, 1) := by decide +kernel
theorem dw_M_alike_253 : decode prog_11_method_58_code 253 = .ok (.getfield 106, 3) := by decide +kernel
theorem dw_M_alike_256 : decode prog_11_method_58_code 256 = .ok (.aload_n 0, 1) := by decide +kernel
theorem dw_M_alike_257 : decode prog_11_method_58_code 257 = .ok (.getfield 99, 3) := by decide +kernel
theorem dw_M_alike_260 : decode prog_11_method_58_code 260 = .ok (.iload_n 3, 1) := by decide +kernel
theorem dw_M_alike_261 : decode prog_11_method_58_code 261 = .ok (.iload 7, 2) := by decide +kernel
theorem dw_M_alike_263 : decode prog_11_method_58_code 263 = .ok (.iadd, 1) := by decide +kernel
theorem dw_M_alike_264 : decode prog_11_method_58_code 264 = .ok (.iaload, 1) := by decide +kernel
theorem dw_M_alike_265 : decode prog_11_method_58_code 265 = .ok (.iload 9, 2) := by decide +kernel
theorem dw_M_alike_267 : decode prog_11_method_58_code 267 = .ok (.iadd, 1) := by decide +kernel
theorem dw_M_alike_268 : decode prog_11_method_58_code 268 = .ok (.saload, 1) := by decide +kernel
theorem dw_M_alike_269 : decode prog_11_method_58_code 269 = .ok (.aload_n 0, 1) := by decide +kernel
theorem dw_M_alike_270 : decode prog_11_method_58_code 270 = .ok (.getfield 106, 3) := by decide +kernel
theorem dw_M_alike_273 : decode prog_11_method_58_code 273 = .ok (.aload_n 0, 1) := by decide +kernel
theorem dw_M_alike_274 : decode prog_11_method_58_code 274 = .ok (.getfield 99, 3) := by decide +kernel
theorem dw_M_alike_277 : decode prog_11_method_58_code 277 = .ok (.iload 4, 2) := by decide +kernel
theorem dw_M_alike_279 : decode prog_11_method_58_code 279 = .ok (.iload 7, 2) := by decide +kernel
theorem dw_M_alike_281 : decode prog_11_method_58_code 281 = .ok (.iadd, 1) := by decide +kernel
theorem dw_M_alike_282 : decode prog_11_method_58_code 282 = .ok (.iaload, 1) := by decide +kernel
theorem dw_M_alike_283 : decode prog_11_method_58_code 283 = .ok (.iload 9, 2) := by decide +kernel
theorem dw_M_alike_285 : decode prog_11_method_58_code 285 = .ok (.iadd, 1) := by decide +kernel
theorem dw_M_alike_286 : decode prog_11_method_58_code 286 = .ok (.saload, 1) := by decide +kernel
theorem dw_M_alike_287 : decode prog_11_method_58_code 287 = .ok (.if_icmp .ne 45, 3) := by decide +kernel
theorem dw_M_alike_333 : decode prog_11_method_58_code 333 = .ok (.istore 6, 2) := by decide +kernel
theorem dw_M_alike_335 : decode prog_11_method_58_code 335 = .ok (.iinc 9 1, 3) := by decide +kernel
theorem dw_M_alike_338 : decode prog_11_method_58_code 338 = .ok (.goto (-98), 3) := by decide +kernel
theorem dw_M_alike_332 : decode prog_11_method_58_code 332 = .ok (.iconst 0, 1) := by decide +kernel
theorem dw_M_alike_290 : decode prog_11_method_58_code 290 = .ok (.aload_n 0, 1) := by decide +kernel
theorem dw_M_alike_291 : decode prog_11_method_58_code 291 = .ok (.getfield 109, 3) := by decide +kernel
theorem dw_M_alike_294 : decode prog_11_method_58_code 294 = .ok (.aload_n 0, 1) := by decide +kernel
theorem dw_M_alike_295 : decode prog_11_method_58_code 295 = .ok (.getfield 99, 3) := by decide +kernel
theorem dw_M_alike_298 : decode prog_11_method_58_code 298 = .ok (.iload_n 3, 1) := by decide +kernel
theorem dw_M_alike_299 : decode prog_11_method_58_code 299 = .ok (.iload 7, 2) := by decide +kernel
theorem dw_M_alike_301 : decode prog_11_method_58_code 301 = .ok (.iadd, 1) := by decide +kernel
theorem dw_M_alike_302 : decode prog_11_method_58_code 302 = .ok (.iaload, 1) := by decide +kernel
theorem dw_M_alike_303 : decode prog_11_method_58_code 303 = .ok (.iload 9, 2) := by decide +kernel
theorem dw_M_alike_305 : decode prog_11_method_58_code 305 = .ok (.iadd, 1) := by decide +kernel
theorem dw_M_alike_306 : decode prog_11_method_58_code 306 = .ok (.saload, 1) := by decide +kernel
theorem dw_M_alike_307 : decode prog_11_method_58_code 307 = .ok (.aload_n 0, 1) := by decide +kernel
theorem dw_M_alike_308 : decode prog_11_method_58_code 308 = .ok (.getfield 109, 3) := by decide +kernel
theorem dw_M_alike_311 : decode prog_11_method_58_code 311 = .ok (.aload_n 0, 1) := by decide +kernel
theorem dw_M_alike_312 : decode prog_11_method_58_code 312 = .ok (.getfield 99, 3) := by decide +kernel
theorem dw_M_alike_315 : decode prog_11_method_58_code 315 = .ok (.iload 4, 2) := by decide +kernel
theorem dw_M_alike_317 : decode prog_11_method_58_code 317 = .ok (.iload 7, 2) := by decide +kernel
theorem dw_M_alike_319 : decode prog_11_method_58_code 319 = .ok (.iadd, 1) := by decide +kernel
theorem dw_M_alike_320 : decode prog_11_method_58_code 320 = .ok (.iaload, 1) := by decide +kernel
theorem dw_M_alike_321 : decode prog_11_method_58_code 321 = .ok (.iload 9, 2) := by decide +kernel
theorem dw_M_alike_323 : decode prog_11_method_58_code 323 = .ok (.iadd, 1) := by decide +kernel
theorem dw_M_alike_324 : decode prog_11_method_58_code 324 = .ok (.saload, 1) := by decide +kernel
theorem dw_M_alike_325 : decode prog_11_method_58_code 325 = .ok (.if_icmp .ne 7, 3) := by decide +kernel
theorem dw_M_alike_328 : decode prog_11_method_58_code 328 = .ok (.iconst 1, 1) := by decide +kernel
theorem dw_M_alike_329 : decode prog_11_method_58_code 329 = .ok (.goto 4, 3) := by decide +kernel
theorem dw_M_alike_234 : decode prog_11_method_58_code 234 = .ok (.iconst 0, 1) := by decide +kernel
theorem dw_M_alike_146 : decode prog_11_method_58_code 146 = .ok (.aload_n 0, 1) := by decide +kernel
theorem dw_M_alike_147 : decode prog_11_method_58_code 147 = .ok (.getfield 96, 3) := by decide +kernel
theorem dw_M_alike_150 : decode prog_11_method_58_code 150 = .ok (.iload_n 3, 1) := by decide +kernel
theorem dw_M_alike_151 : decode prog_11_method_58_code 151 = .ok (.iload 7, 2) := by decide +kernel
theorem dw_M_alike_153 : decode prog_11_method_58_code 153 = .ok (.iadd, 1) := by decide +kernel
theorem dw_M_alike_154 : decode prog_11_method_58_code 154 = .ok (.iaload, 1) := by decide +kernel
theorem dw_M_alike_155 : decode prog_11_method_58_code 155 = .ok (.aload_n 0, 1) := by decide +kernel
theorem dw_M_alike_156 : decode prog_11_method_58_code 156 = .ok (.getfield 96, 3) := by decide +kernel
theorem dw_M_alike_159 : decode prog_11_method_58_code 159 = .ok (.iload 4, 2) := by decide +kernel
theorem dw_M_alike_161 : decode prog_11_method_58_code 161 = .ok (.iload 7, 2) := by decide +kernel
theorem dw_M_alike_163 : decode prog_11_method_58_code 163 = .ok (.iadd, 1) := by decide +kernel
theorem dw_M_alike_164 : decode prog_11_method_58_code 164 = .ok (.iaload, 1) := by decide +kernel
theorem dw_M_alike_165 : decode prog_11_method_58_code 165 = .ok (.if_icmp .ne 69, 3) := by decide +kernel
theorem dw_M_alike_168 : decode prog_11_method_58_code 168 = .ok (.aload_n 0, 1) := by decide +kernel
theorem dw_M_alike_169 : decode prog_11_method_58_code 169 = .ok (.getfield 99, 3) := by decide +kernel
theorem dw_M_alike_172 : decode prog_11_method_58_code 172 = .ok (.iload 4, 2) := by decide +kernel
theorem dw_M_alike_174 : decode prog_11_method_58_code 174 = .ok (.iload 7, 2) := by decide +kernel
theorem dw_M_alike_176 : decode prog_11_method_58_code 176 = .ok (.iadd, 1) := by decide +kernel
theorem dw_M_alike_177 : decode prog_11_method_58_code 177 = .ok (.iconst 1, 1) := by decide +kernel
theorem dw_M_alike_178 : decode prog_11_method_58_code 178 = .ok (.iadd, 1) := by decide +kernel
theorem dw_M_alike_179 : decode prog_11_method_58_code 179 = .ok (.iaload, 1) := by decide +kernel
theorem dw_M_alike_180 : decode prog_11_method_58_code 180 = .ok (.aload_n 0, 1) := by decide +kernel
theorem dw_M_alike_181 : decode prog_11_method_58_code 181 = .ok (.getfield 99, 3) := by decide +kernel
theorem dw_M_alike_184 : decode prog_11_method_58_code 184 = .ok (.iload 4, 2) := by decide +kernel
theorem dw_M_alike_186 : decode prog_11_method_58_code 186 = .ok (.iload 7, 2) := by decide +kernel
theorem dw_M_alike_188 : decode prog_11_method_58_code 188 = .ok (.iadd, 1) := by decide +kernel
theorem dw_M_alike_189 : decode prog_11_method_58_code 189 = .ok (.iaload, 1) := by decide +kernel
theorem dw_M_alike_190 : decode prog_11_method_58_code 190 = .ok (.isub, 1) := by decide +kernel
theorem dw_M_alike_191 : decode prog_11_method_58_code 191 = .ok (.iload 8, 2) := by decide +kernel
theorem dw_M_alike_193 : decode prog_11_method_58_code 193 = .ok (.if_icmp .ne 41, 3) := by decide +kernel
theorem dw_M_alike_196 : decode prog_11_method_58_code 196 = .ok (.aload_n 0, 1) := by decide +kernel
theorem dw_M_alike_197 : decode prog_11_method_58_code 197 = .ok (.getfield 93, 3) := by decide +kernel
theorem dw_M_alike_200 : decode prog_11_method_58_code 200 = .ok (.iload_n 3, 1) := by decide +kernel
theorem dw_M_alike_201 : decode prog_11_method_58_code 201 = .ok (.iload 7, 2) := by decide +kernel
theorem dw_M_alike_203 : decode prog_11_method_58_code 203 = .ok (.iadd, 1) := by decide +kernel
theorem dw_M_alike_204 : decode prog_11_method_58_code 204 = .ok (.baload, 1) := by decide +kernel
theorem dw_M_alike_205 : decode prog_11_method_58_code 205 = .ok (.ifCond .ne 25, 3) := by decide +kernel
theorem dw_M_alike_230 : decode prog_11_method_58_code 230 = .ok (.iconst 1, 1) := by decide +kernel
theorem dw_M_alike_231 : decode prog_11_method_58_code 231 = .ok (.goto 4, 3) := by decide +kernel
theorem dw_M_alike_208 : decode prog_11_method_58_code 208 = .ok (.aload_n 0, 1) := by decide +kernel
theorem dw_M_alike_209 : decode prog_11_method_58_code 209 = .ok (.getfield 170, 3) := by decide +kernel
theorem dw_M_alike_212 : decode prog_11_method_58_code 212 = .ok (.iload_n 3, 1) := by decide +kernel
theorem dw_M_alike_213 : decode prog_11_method_58_code 213 = .ok (.iload 7, 2) := by decide +kernel
theorem dw_M_alike_215 : decode prog_11_method_58_code 215 = .ok (.iadd, 1) := by decide +kernel
theorem dw_M_alike_216 : decode prog_11_method_58_code 216 = .ok (.baload, 1) := by decide +kernel
theorem dw_M_alike_217 : decode prog_11_method_58_code 217 = .ok (.aload_n 0, 1) := by decide +kernel
theorem dw_M_alike_218 : decode prog_11_method_58_code 218 = .ok (.getfield 170, 3) := by decide +kernel
theorem dw_M_alike_221 : decode prog_11_method_58_code 221 = .ok (.iload 4, 2) := by decide +kernel
theorem dw_M_alike_223 : decode prog_11_method_58_code 223 = .ok (.iload 7, 2) := by decide +kernel
theorem dw_M_alike_225 : decode prog_11_method_58_code 225 = .ok (.iadd, 1) := by decide +kernel
theorem dw_M_alike_226 : decode prog_11_method_58_code 226 = .ok (.baload, 1) := by decide +kernel
theorem dw_M_alike_227 : decode prog_11_method_58_code 227 = .ok (.if_icmp .ne 7, 3) := by decide +kernel
theorem dw_M_alike_83 : decode prog_11_method_58_code 83 = .ok (.iconst 0, 1) := by decide +kernel
theorem dw_M_alike_79 : decode prog_11_method_58_code 79 = .ok (.iconst 1, 1) := by decide +kernel
theorem dw_M_alike_80 : decode prog_11_method_58_code 80 = .ok (.goto 4, 3) := by decide +kernel
theorem dw_M_clear_0 : decode prog_11_method_59_code 0 = .ok (.iload_n 1, 1) := by decide +kernel
theorem dw_M_clear_1 : decode prog_11_method_59_code 1 = .ok (.ifCond .lt 27, 3) := by decide +kernel
theorem dw_M_clear_29 : decode prog_11_method_59_code 29 = .ok (.istore_n 3, 1) := by decide +kernel
theorem dw_M_clear_30 : decode prog_11_method_59_code 30 = .ok (.iconst 0, 1) := by decide +kernel
theorem dw_M_clear_31 : decode prog_11_method_59_code 31 = .ok (.istore 4, 2) := by decide +kernel
theorem dw_M_clear_118 : decode prog_11_method_59_code 118 = .ok (.iload_n 3, 1) := by decide +kernel
theorem dw_M_clear_119 : decode prog_11_method_59_code 119 = .ok (.ifCond .ne 5, 3) := by decide +kernel
theorem dw_M_clear_124 : decode prog_11_method_59_code 124 = .ok (.aload_n 0, 1) := by decide +kernel
theorem dw_M_clear_125 : decode prog_11_method_59_code 125 = .ok (.iload_n 1, 1) := by decide +kernel
theorem dw_M_clear_126 : decode prog_11_method_59_code 126 = .ok (.putfield 173, 3) := by decide +kernel
theorem dw_M_clear_129 : decode prog_11_method_59_code 129 = .ok (.aload_n 0, 1) := by decide +kernel
theorem dw_M_clear_130 : decode prog_11_method_59_code 130 = .ok (.iload_n 2, 1) := by decide +kernel
theorem dw_M_clear_131 : decode prog_11_method_59_code 131 = .ok (.putfield 364, 3) := by decide +kernel
theorem dw_M_clear_134 : decode prog_11_method_59_code 134 = .ok (.aload_n 0, 1) := by decide +kernel
theorem dw_M_clear_135 : decode prog_11_method_59_code 135 = .ok (.aload_n 0, 1) := by decide +kernel
theorem dw_M_clear_136 : decode prog_11_method_59_code 136 = .ok (.getfield 81, 3) := by decide +kernel
theorem dw_M_clear_139 : decode prog_11_method_59_code 139 = .ok (.iload_n 2, 1) := by decide +kernel
theorem dw_M_clear_140 : decode prog_11_method_59_code 140 = .ok (.iaload, 1) := by decide +kernel
theorem dw_M_clear_141 : decode prog_11_method_59_code 141 = .ok (.putfield 338, 3) := by decide +kernel
theorem dw_M_clear_144 : decode prog_11_method_59_code 144 = .ok (.aload_n 0, 1) := by decide +kernel
theorem dw_M_clear_145 : decode prog_11_method_59_code 145 = .ok (.aload_n 0, 1) := by decide +kernel
theorem dw_M_clear_146 : decode prog_11_method_59_code 146 = .ok (.getfield 99, 3) := by decide +kernel
theorem dw_M_clear_149 : decode prog_11_method_59_code 149 = .ok (.aload_n 0, 1) := by decide +kernel
theorem dw_M_clear_150 : decode prog_11_method_59_code 150 = .ok (.getfield 338, 3) := by decide +kernel
theorem dw_M_clear_153 : decode prog_11_method_59_code 153 = .ok (.iaload, 1) := by decide +kernel
theorem dw_M_clear_154 : decode prog_11_method_59_code 154 = .ok (.putfield 344, 3) := by decide +kernel
theorem dw_M_clear_157 : decode prog_11_method_59_code 157 = .ok (.aload_n 0, 1) := by decide +kernel
theorem dw_M_clear_158 : decode prog_11_method_59_code 158 = .ok (.iconst 0, 1) := by decide +kernel
theorem dw_M_clear_159 : decode prog_11_method_59_code 159 = .ok (.putfield 177, 3) := by decide +kernel
theorem dw_M_clear_162 : decode prog_11_method_59_code 162 = .ok (.aload_n 0, 1) := by decide +kernel
theorem dw_M_clear_163 : decode prog_11_method_59_code 163 = .ok (.iconst 0, 1) := by decide +kernel
theorem dw_M_clear_164 : decode prog_11_method_59_code 164 = .ok (.putfield 180, 3) := by decide +kernel
theorem dw_M_clear_167 : decode prog_11_method_59_code 167 = .ok (.aload_n 0, 1) := by decide +kernel
theorem dw_M_clear_168 : decode prog_11_method_59_code 168 = .ok (.iconst 0, 1) := by decide +kernel
theorem dw_M_clear_169 : decode prog_11_method_59_code 169 = .ok (.putfield 209, 3) := by decide +kernel
theorem dw_M_clear_172 : decode prog_11_method_59_code 172 = .ok (.aload_n 0, 1) := by decide +kernel
theorem dw_M_clear_173 : decode prog_11_method_59_code 173 = .ok (.iconst 0, 1) := by decide +kernel
theorem dw_M_clear_174 : decode prog_11_method_59_code 174 = .ok (.putfield 206, 3) := by decide +kernel
theorem dw_M_clear_177 : decode prog_11_method_59_code 177 = .ok (.aload_n 0, 1) := by decide +kernel
theorem dw_M_clear_178 : decode prog_11_method_59_code 178 = .ok (.iconst 0, 1) := by decide +kernel
theorem dw_M_clear_179 : decode prog_11_method_59_code 179 = .ok (.putfield 254, 3) := by decide +kernel
theorem dw_M_clear_182 : decode prog_11_method_59_code 182 = .ok (.aload_n 0, 1) := by decide +kernel
theorem dw_M_clear_183 : decode prog_11_method_59_code 183 = .ok (.iconst 0, 1) := by decide +kernel
theorem dw_M_clear_184 : decode prog_11_method_59_code 184 = .ok (.putfield 191, 3) := by decide +kernel
theorem dw_M_clear_187 : decode prog_11_method_59_code 187 = .ok (.aload_n 0, 1) := by decide +kernel
theorem dw_M_clear_188 : decode prog_11_method_59_code 188 = .ok (.iconst 0, 1) := by decide +kernel
theorem dw_M_clear_189 : decode prog_11_method_59_code 189 = .ok (.putfield 183, 3) := by decide +kernel
theorem dw_M_clear_192 : decode prog_11_method_59_code 192 = .ok (.iconst 1, 1) := by decide +kernel
theorem dw_M_clear_193 : decode prog_11_method_59_code 193 = .ok (.ireturn, 1) := by decide +kernel
theorem dw_M_clear_122 : decode prog_11_method_59_code 122 = .ok (.iconst 0, 1) := by decide +kernel
theorem dw_M_clear_123 : decode prog_11_method_59_code 123 = .ok (.ireturn, 1) := by decide +kernel
theorem dw_M_clear_33 : decode prog_11_method_59_code 33 = .ok (.iload 4, 2) := by decide +kernel
theorem dw_M_clear_35 : decode prog_11_method_59_code 35 = .ok (.iload_n 2, 1) := by decide +kernel
theorem dw_M_clear_36 : decode prog_11_method_59_code 36 = .ok (.if_icmp .ge 82, 3) := by decide +kernel
theorem dw_M_clear_39 : decode prog_11_method_59_code 39 = .ok (.iload_n 3, 1) := by decide +kernel
theorem dw_M_clear_40 : decode prog_11_method_59_code 40 = .ok (.ifCond .eq 78, 3) := by decide +kernel
theorem dw_M_clear_43 : decode prog_11_method_59_code 43 = .ok (.aload_n 0, 1) := by decide +kernel
theorem dw_M_clear_44 : decode prog_11_method_59_code 44 = .ok (.getfield 90, 3) := by decide +kernel
theorem dw_M_clear_47 : decode prog_11_method_59_code 47 = .ok (.iload 4, 2) := by decide +kernel
theorem dw_M_clear_49 : decode prog_11_method_59_code 49 = .ok (.baload, 1) := by decide +kernel
theorem dw_M_clear_50 : decode prog_11_method_59_code 50 = .ok (.istore_n 3, 1) := by decide +kernel
theorem dw_M_clear_51 : decode prog_11_method_59_code 51 = .ok (.aload_n 0, 1) := by decide +kernel
theorem dw_M_clear_52 : decode prog_11_method_59_code 52 = .ok (.getfield 81, 3) := by decide +kernel
theorem dw_M_clear_55 : decode prog_11_method_59_code 55 = .ok (.iload 4, 2) := by decide +kernel
theorem dw_M_clear_57 : decode prog_11_method_59_code 57 = .ok (.iaload, 1) := by decide +kernel
theorem dw_M_clear_58 : decode prog_11_method_59_code 58 = .ok (.istore 5, 2) := by decide +kernel
theorem dw_M_clear_112 : decode prog_11_method_59_code 112 = .ok (.iinc 4 1, 3) := by decide +kernel
theorem dw_M_clear_115 : decode prog_11_method_59_code 115 = .ok (.goto (-82), 3) := by decide +kernel
theorem dw_M_clear_60 : decode prog_11_method_59_code 60 = .ok (.iload 5, 2) := by decide +kernel
theorem dw_M_clear_62 : decode prog_11_method_59_code 62 = .ok (.aload_n 0, 1) := by decide +kernel
theorem dw_M_clear_63 : decode prog_11_method_59_code 63 = .ok (.getfield 81, 3) := by decide +kernel
theorem dw_M_clear_66 : decode prog_11_method_59_code 66 = .ok (.iload 4, 2) := by decide +kernel
theorem dw_M_clear_68 : decode prog_11_method_59_code 68 = .ok (.iconst 1, 1) := by decide +kernel
theorem dw_M_clear_69 : decode prog_11_method_59_code 69 = .ok (.iadd, 1) := by decide +kernel
theorem dw_M_clear_70 : decode prog_11_method_59_code 70 = .ok (.iaload, 1) := by decide +kernel
theorem dw_M_clear_71 : decode prog_11_method_59_code 71 = .ok (.if_icmp .ge 41, 3) := by decide +kernel
theorem dw_M_clear_74 : decode prog_11_method_59_code 74 = .ok (.iload_n 3, 1) := by decide +kernel
theorem dw_M_clear_75 : decode prog_11_method_59_code 75 = .ok (.ifCond .eq 29, 3) := by decide +kernel
theorem dw_M_clear_105 : decode prog_11_method_59_code 105 = .ok (.istore_n 3, 1) := by decide +kernel
theorem dw_M_clear_106 : decode prog_11_method_59_code 106 = .ok (.iinc 5 1, 3) := by decide +kernel
theorem dw_M_clear_109 : decode prog_11_method_59_code 109 = .ok (.goto (-49), 3) := by decide +kernel
theorem dw_M_clear_104 : decode prog_11_method_59_code 104 = .ok (.iconst 0, 1) := by decide +kernel
theorem dw_M_clear_78 : decode prog_11_method_59_code 78 = .ok (.aload_n 0, 1) := by decide +kernel
theorem dw_M_clear_79 : decode prog_11_method_59_code 79 = .ok (.getfield 93, 3) := by decide +kernel
theorem dw_M_clear_82 : decode prog_11_method_59_code 82 = .ok (.iload 5, 2) := by decide +kernel
theorem dw_M_clear_84 : decode prog_11_method_59_code 84 = .ok (.baload, 1) := by decide +kernel
theorem dw_M_clear_85 : decode prog_11_method_59_code 85 = .ok (.iconst 2, 1) := by decide +kernel
theorem dw_M_clear_86 : decode prog_11_method_59_code 86 = .ok (.if_icmp .ne 14, 3) := by decide +kernel
theorem dw_M_clear_100 : decode prog_11_method_59_code 100 = .ok (.iconst 1, 1) := by decide +kernel
theorem dw_M_clear_101 : decode prog_11_method_59_code 101 = .ok (.goto 4, 3) := by decide +kernel
theorem dw_M_clear_89 : decode prog_11_method_59_code 89 = .ok (.aload_n 0, 1) := by decide +kernel
theorem dw_M_clear_90 : decode prog_11_method_59_code 90 = .ok (.getfield 96, 3) := by decide +kernel
theorem dw_M_clear_93 : decode prog_11_method_59_code 93 = .ok (.iload 5, 2) := by decide +kernel
theorem dw_M_clear_95 : decode prog_11_method_59_code 95 = .ok (.iaload, 1) := by decide +kernel
theorem dw_M_clear_96 : decode prog_11_method_59_code 96 = .ok (.iload_n 1, 1) := by decide +kernel
theorem dw_M_clear_97 : decode prog_11_method_59_code 97 = .ok (.if_icmp .ge 7, 3) := by decide +kernel
theorem dw_M_clear_28 : decode prog_11_method_59_code 28 = .ok (.iconst 0, 1) := by decide +kernel
theorem dw_M_clear_4 : decode prog_11_method_59_code 4 = .ok (.iload_n 1, 1) := by decide +kernel
theorem dw_M_clear_5 : decode prog_11_method_59_code 5 = .ok (.aload_n 0, 1) := by decide +kernel
theorem dw_M_clear_6 : decode prog_11_method_59_code 6 = .ok (.getfield 173, 3) := by decide +kernel
theorem dw_M_clear_9 : decode prog_11_method_59_code 9 = .ok (.if_icmp .gt 19, 3) := by decide +kernel
theorem dw_M_clear_12 : decode prog_11_method_59_code 12 = .ok (.iload_n 2, 1) := by decide +kernel
theorem dw_M_clear_13 : decode prog_11_method_59_code 13 = .ok (.ifCond .lt 15, 3) := by decide +kernel
theorem dw_M_clear_16 : decode prog_11_method_59_code 16 = .ok (.iload_n 2, 1) := by decide +kernel
theorem dw_M_clear_17 : decode prog_11_method_59_code 17 = .ok (.aload_n 0, 1) := by decide +kernel
theorem dw_M_clear_18 : decode prog_11_method_59_code 18 = .ok (.getfield 364, 3) := by decide +kernel
theorem dw_M_clear_21 : decode prog_11_method_59_code 21 = .ok (.if_icmp .gt 7, 3) := by decide +kernel
theorem dw_M_clear_24 : decode prog_11_method_59_code 24 = .ok (.iconst 1, 1) := by decide +kernel
theorem dw_M_clear_25 : decode prog_11_method_59_code 25 = .ok (.goto 4, 3) := by decide +kernel
theorem dw_M_count_0 : decode prog_11_method_60_code 0 = .ok (.iload_n 1, 1) := by decide +kernel
theorem dw_M_count_1 : decode prog_11_method_60_code 1 = .ok (.tableswitch 96 0 8 #[51, 56, 61, 66, 71, 76, 81, 86, 91], 51) := by decide +kernel
theorem dw_M_count_97 : decode prog_11_method_60_code 97 = .ok (.iconst (-1), 1) := by decide +kernel
theorem dw_M_count_98 : decode prog_11_method_60_code 98 = .ok (.ireturn, 1) := by decide +kernel
theorem dw_M_count_52 : decode prog_11_method_60_code 52 = .ok (.aload_n 0, 1) := by decide +kernel
theorem dw_M_count_53 : decode prog_11_method_60_code 53 = .ok (.getfield 173, 3) := by decide +kernel
theorem dw_M_count_56 : decode prog_11_method_60_code 56 = .ok (.ireturn, 1) := by decide +kernel
theorem dw_M_count_57 : decode prog_11_method_60_code 57 = .ok (.aload_n 0, 1) := by decide +kernel
theorem dw_M_count_58 : decode prog_11_method_60_code 58 = .ok (.getfield 177, 3) := by decide +kernel
theorem dw_M_count_61 : decode prog_11_method_60_code 61 = .ok (.ireturn, 1) := by decide +kernel
theorem dw_M_count_62 : decode prog_11_method_60_code 62 = .ok (.aload_n 0, 1) := by decide +kernel
theorem dw_M_count_63 : decode prog_11_method_60_code 63 = .ok (.getfield 191, 3) := by decide +kernel
theorem dw_M_count_66 : decode prog_11_method_60_code 66 = .ok (.ireturn, 1) := by decide +kernel
theorem dw_M_count_67 : decode prog_11_method_60_code 67 = .ok (.aload_n 0, 1) := by decide +kernel
theorem dw_M_count_68 : decode prog_11_method_60_code 68 = .ok (.getfield 364, 3) := by decide +kernel
theorem dw_M_count_71 : decode prog_11_method_60_code 71 = .ok (.ireturn, 1) := by decide +kernel
theorem dw_M_count_72 : decode prog_11_method_60_code 72 = .ok (.aload_n 0, 1) := by decide +kernel
theorem dw_M_count_73 : decode prog_11_method_60_code 73 = .ok (.getfield 180, 3) := by decide +kernel
theorem dw_M_count_76 : decode prog_11_method_60_code 76 = .ok (.ireturn, 1) := by decide +kernel
theorem dw_M_count_77 : decode prog_11_method_60_code 77 = .ok (.aload_n 0, 1) := by decide +kernel
theorem dw_M_count_78 : decode prog_11_method_60_code 78 = .ok (.getfield 338, 3) := by decide +kernel
theorem dw_M_count_81 : decode prog_11_method_60_code 81 = .ok (.ireturn, 1) := by decide +kernel
theorem dw_M_count_82 : decode prog_11_method_60_code 82 = .ok (.aload_n 0, 1) := by decide +kernel
theorem dw_M_count_83 : decode prog_11_method_60_code 83 = .ok (.getfield 344, 3) := by decide +kernel
theorem dw_M_count_86 : decode prog_11_method_60_code 86 = .ok (.ireturn, 1) := by decide +kernel
theorem dw_M_count_87 : decode prog_11_method_60_code 87 = .ok (.aload_n 0, 1) := by decide +kernel
theorem dw_M_count_88 : decode prog_11_method_60_code 88 = .ok (.getfield 209, 3) := by decide +kernel
theorem dw_M_count_91 : decode prog_11_method_60_code 91 = .ok (.ireturn, 1) := by decide +kernel
theorem dw_M_count_92 : decode prog_11_method_60_code 92 = .ok (.aload_n 0, 1) := by decide +kernel
theorem dw_M_count_93 : decode prog_11_method_60_code 93 = .ok (.getfield 183, 3) := by decide +kernel
theorem dw_M_count_96 : decode prog_11_method_60_code 96 = .ok (.ireturn, 1) := by decide +kernel
