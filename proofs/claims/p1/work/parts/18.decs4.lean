theorem dw_Ints_init_0 : decode prog_3_method_1_code 0 = .ok (.aload_n 0, 1) := by decide +kernel
theorem dw_Ints_init_1 : decode prog_3_method_1_code 1 = .ok (.invokespecial 1, 3) := by decide +kernel
theorem dw_Ints_init_4 : decode prog_3_method_1_code 4 = .ok (.aload_n 0, 1) := by decide +kernel
theorem dw_Ints_init_5 : decode prog_3_method_1_code 5 = .ok (.bipush 32, 2) := by decide +kernel
theorem dw_Ints_init_7 : decode prog_3_method_1_code 7 = .ok (.newarray .int, 2) := by decide +kernel
theorem dw_Ints_init_9 : decode prog_3_method_1_code 9 = .ok (.putfield 9, 3) := by decide +kernel
theorem dw_Ints_init_12 : decode prog_3_method_1_code 12 = .ok (.aload_n 0, 1) := by decide +kernel
theorem dw_Ints_init_13 : decode prog_3_method_1_code 13 = .ok (.iload_n 1, 1) := by decide +kernel
theorem dw_Ints_init_14 : decode prog_3_method_1_code 14 = .ok (.putfield 13, 3) := by decide +kernel
theorem dw_Ints_init_17 : decode prog_3_method_1_code 17 = .ok (.return_, 1) := by decide +kernel
theorem dw_Constructors_init_0 : decode prog_2_method_1_code 0 = .ok (.aload_n 0, 1) := by decide +kernel
theorem dw_Constructors_init_1 : decode prog_2_method_1_code 1 = .ok (.invokespecial 3, 3) := by decide +kernel
theorem dw_Constructors_init_4 : decode prog_2_method_1_code 4 = .ok (.aload_n 0, 1) := by decide +kernel
theorem dw_Constructors_init_5 : decode prog_2_method_1_code 5 = .ok (.new 9, 3) := by decide +kernel
theorem dw_Constructors_init_8 : decode prog_2_method_1_code 8 = .ok (.dup, 1) := by decide +kernel
theorem dw_Constructors_init_9 : decode prog_2_method_1_code 9 = .ok (.sipush 2048, 3) := by decide +kernel
theorem dw_Constructors_init_12 : decode prog_2_method_1_code 12 = .ok (.invokespecial 11, 3) := by decide +kernel
theorem dw_Constructors_init_15 : decode prog_2_method_1_code 15 = .ok (.putfield 14, 3) := by decide +kernel
theorem dw_Constructors_init_18 : decode prog_2_method_1_code 18 = .ok (.aload_n 0, 1) := by decide +kernel
theorem dw_Constructors_init_19 : decode prog_2_method_1_code 19 = .ok (.new 9, 3) := by decide +kernel
theorem dw_Constructors_init_22 : decode prog_2_method_1_code 22 = .ok (.dup, 1) := by decide +kernel
theorem dw_Constructors_init_23 : decode prog_2_method_1_code 23 = .ok (.sipush 2048, 3) := by decide +kernel
theorem dw_Constructors_init_26 : decode prog_2_method_1_code 26 = .ok (.invokespecial 11, 3) := by decide +kernel
theorem dw_Constructors_init_29 : decode prog_2_method_1_code 29 = .ok (.putfield 20, 3) := by decide +kernel
theorem dw_Constructors_init_32 : decode prog_2_method_1_code 32 = .ok (.aload_n 0, 1) := by decide +kernel
theorem dw_Constructors_init_33 : decode prog_2_method_1_code 33 = .ok (.iconst 0, 1) := by decide +kernel
theorem dw_Constructors_init_34 : decode prog_2_method_1_code 34 = .ok (.putfield 23, 3) := by decide +kernel
theorem dw_Constructors_init_37 : decode prog_2_method_1_code 37 = .ok (.return_, 1) := by decide +kernel
theorem dw_Pushed_init_0 : decode prog_4_method_1_code 0 = .ok (.aload_n 0, 1) := by decide +kernel
theorem dw_Pushed_init_1 : decode prog_4_method_1_code 1 = .ok (.invokespecial 3, 3) := by decide +kernel
theorem dw_Pushed_init_4 : decode prog_4_method_1_code 4 = .ok (.aload_n 0, 1) := by decide +kernel
theorem dw_Pushed_init_5 : decode prog_4_method_1_code 5 = .ok (.new 9, 3) := by decide +kernel
theorem dw_Pushed_init_8 : decode prog_4_method_1_code 8 = .ok (.dup, 1) := by decide +kernel
theorem dw_Pushed_init_9 : decode prog_4_method_1_code 9 = .ok (.sipush 128, 3) := by decide +kernel
theorem dw_Pushed_init_12 : decode prog_4_method_1_code 12 = .ok (.invokespecial 11, 3) := by decide +kernel
theorem dw_Pushed_init_15 : decode prog_4_method_1_code 15 = .ok (.putfield 14, 3) := by decide +kernel
theorem dw_Pushed_init_18 : decode prog_4_method_1_code 18 = .ok (.aload_n 0, 1) := by decide +kernel
theorem dw_Pushed_init_19 : decode prog_4_method_1_code 19 = .ok (.new 9, 3) := by decide +kernel
theorem dw_Pushed_init_22 : decode prog_4_method_1_code 22 = .ok (.dup, 1) := by decide +kernel
theorem dw_Pushed_init_23 : decode prog_4_method_1_code 23 = .ok (.sipush 128, 3) := by decide +kernel
theorem dw_Pushed_init_26 : decode prog_4_method_1_code 26 = .ok (.invokespecial 11, 3) := by decide +kernel
theorem dw_Pushed_init_29 : decode prog_4_method_1_code 29 = .ok (.putfield 20, 3) := by decide +kernel
theorem dw_Pushed_init_32 : decode prog_4_method_1_code 32 = .ok (.aload_n 0, 1) := by decide +kernel
theorem dw_Pushed_init_33 : decode prog_4_method_1_code 33 = .ok (.iconst 0, 1) := by decide +kernel
theorem dw_Pushed_init_34 : decode prog_4_method_1_code 34 = .ok (.putfield 23, 3) := by decide +kernel
theorem dw_Pushed_init_37 : decode prog_4_method_1_code 37 = .ok (.aload_n 0, 1) := by decide +kernel
theorem dw_Pushed_init_38 : decode prog_4_method_1_code 38 = .ok (.iconst 0, 1) := by decide +kernel
theorem dw_Pushed_init_39 : decode prog_4_method_1_code 39 = .ok (.putfield 27, 3) := by decide +kernel
theorem dw_Pushed_init_42 : decode prog_4_method_1_code 42 = .ok (.return_, 1) := by decide +kernel
theorem dw_Web_init_0 : decode prog_9_method_1_code 0 = .ok (.aload_n 0, 1) := by decide +kernel
theorem dw_Web_init_1 : decode prog_9_method_1_code 1 = .ok (.invokespecial 3, 3) := by decide +kernel
theorem dw_Web_init_4 : decode prog_9_method_1_code 4 = .ok (.aload_n 0, 1) := by decide +kernel
theorem dw_Web_init_5 : decode prog_9_method_1_code 5 = .ok (.new 9, 3) := by decide +kernel
theorem dw_Web_init_8 : decode prog_9_method_1_code 8 = .ok (.dup, 1) := by decide +kernel
theorem dw_Web_init_9 : decode prog_9_method_1_code 9 = .ok (.sipush 25600, 3) := by decide +kernel
theorem dw_Web_init_12 : decode prog_9_method_1_code 12 = .ok (.invokespecial 11, 3) := by decide +kernel
theorem dw_Web_init_15 : decode prog_9_method_1_code 15 = .ok (.putfield 14, 3) := by decide +kernel
theorem dw_Web_init_18 : decode prog_9_method_1_code 18 = .ok (.aload_n 0, 1) := by decide +kernel
theorem dw_Web_init_19 : decode prog_9_method_1_code 19 = .ok (.new 9, 3) := by decide +kernel
theorem dw_Web_init_22 : decode prog_9_method_1_code 22 = .ok (.dup, 1) := by decide +kernel
theorem dw_Web_init_23 : decode prog_9_method_1_code 23 = .ok (.sipush 25600, 3) := by decide +kernel
theorem dw_Web_init_26 : decode prog_9_method_1_code 26 = .ok (.invokespecial 11, 3) := by decide +kernel
theorem dw_Web_init_29 : decode prog_9_method_1_code 29 = .ok (.putfield 20, 3) := by decide +kernel
theorem dw_Web_init_32 : decode prog_9_method_1_code 32 = .ok (.aload_n 0, 1) := by decide +kernel
theorem dw_Web_init_33 : decode prog_9_method_1_code 33 = .ok (.new 9, 3) := by decide +kernel
theorem dw_Web_init_36 : decode prog_9_method_1_code 36 = .ok (.dup, 1) := by decide +kernel
theorem dw_Web_init_37 : decode prog_9_method_1_code 37 = .ok (.sipush 25600, 3) := by decide +kernel
theorem dw_Web_init_40 : decode prog_9_method_1_code 40 = .ok (.invokespecial 11, 3) := by decide +kernel
theorem dw_Web_init_43 : decode prog_9_method_1_code 43 = .ok (.putfield 23, 3) := by decide +kernel
theorem dw_Web_init_46 : decode prog_9_method_1_code 46 = .ok (.aload_n 0, 1) := by decide +kernel
theorem dw_Web_init_47 : decode prog_9_method_1_code 47 = .ok (.new 9, 3) := by decide +kernel
theorem dw_Web_init_50 : decode prog_9_method_1_code 50 = .ok (.dup, 1) := by decide +kernel
theorem dw_Web_init_51 : decode prog_9_method_1_code 51 = .ok (.sipush 25600, 3) := by decide +kernel
theorem dw_Web_init_54 : decode prog_9_method_1_code 54 = .ok (.invokespecial 11, 3) := by decide +kernel
theorem dw_Web_init_57 : decode prog_9_method_1_code 57 = .ok (.putfield 26, 3) := by decide +kernel
theorem dw_Web_init_60 : decode prog_9_method_1_code 60 = .ok (.aload_n 0, 1) := by decide +kernel
theorem dw_Web_init_61 : decode prog_9_method_1_code 61 = .ok (.new 9, 3) := by decide +kernel
theorem dw_Web_init_64 : decode prog_9_method_1_code 64 = .ok (.dup, 1) := by decide +kernel
theorem dw_Web_init_65 : decode prog_9_method_1_code 65 = .ok (.sipush 25600, 3) := by decide +kernel
theorem dw_Web_init_68 : decode prog_9_method_1_code 68 = .ok (.invokespecial 11, 3) := by decide +kernel
theorem dw_Web_init_71 : decode prog_9_method_1_code 71 = .ok (.putfield 29, 3) := by decide +kernel
theorem dw_Web_init_74 : decode prog_9_method_1_code 74 = .ok (.aload_n 0, 1) := by decide +kernel
theorem dw_Web_init_75 : decode prog_9_method_1_code 75 = .ok (.new 9, 3) := by decide +kernel
theorem dw_Web_init_78 : decode prog_9_method_1_code 78 = .ok (.dup, 1) := by decide +kernel
theorem dw_Web_init_79 : decode prog_9_method_1_code 79 = .ok (.sipush 25600, 3) := by decide +kernel
theorem dw_Web_init_82 : decode prog_9_method_1_code 82 = .ok (.invokespecial 11, 3) := by decide +kernel
theorem dw_Web_init_85 : decode prog_9_method_1_code 85 = .ok (.putfield 32, 3) := by decide +kernel
theorem dw_Web_init_88 : decode prog_9_method_1_code 88 = .ok (.aload_n 0, 1) := by decide +kernel
theorem dw_Web_init_89 : decode prog_9_method_1_code 89 = .ok (.new 9, 3) := by decide +kernel
theorem dw_Web_init_92 : decode prog_9_method_1_code 92 = .ok (.dup, 1) := by decide +kernel
theorem dw_Web_init_93 : decode prog_9_method_1_code 93 = .ok (.sipush 25600, 3) := by decide +kernel
theorem dw_Web_init_96 : decode prog_9_method_1_code 96 = .ok (.invokespecial 11, 3) := by decide +kernel
theorem dw_Web_init_99 : decode prog_9_method_1_code 99 = .ok (.putfield 35, 3) := by decide +kernel
theorem dw_Web_init_102 : decode prog_9_method_1_code 102 = .ok (.aload_n 0, 1) := by decide +kernel
theorem dw_Web_init_103 : decode prog_9_method_1_code 103 = .ok (.new 9, 3) := by decide +kernel
theorem dw_Web_init_106 : decode prog_9_method_1_code 106 = .ok (.dup, 1) := by decide +kernel
theorem dw_Web_init_107 : decode prog_9_method_1_code 107 = .ok (.sipush 25600, 3) := by decide +kernel
theorem dw_Web_init_110 : decode prog_9_method_1_code 110 = .ok (.invokespecial 11, 3) := by decide +kernel
theorem dw_Web_init_113 : decode prog_9_method_1_code 113 = .ok (.putfield 38, 3) := by decide +kernel
theorem dw_Web_init_116 : decode prog_9_method_1_code 116 = .ok (.aload_n 0, 1) := by decide +kernel
theorem dw_Web_init_117 : decode prog_9_method_1_code 117 = .ok (.new 9, 3) := by decide +kernel
theorem dw_Web_init_120 : decode prog_9_method_1_code 120 = .ok (.dup, 1) := by decide +kernel
theorem dw_Web_init_121 : decode prog_9_method_1_code 121 = .ok (.sipush 25600, 3) := by decide +kernel
theorem dw_Web_init_124 : decode prog_9_method_1_code 124 = .ok (.invokespecial 11, 3) := by decide +kernel
theorem dw_Web_init_127 : decode prog_9_method_1_code 127 = .ok (.putfield 41, 3) := by decide +kernel
theorem dw_Web_init_130 : decode prog_9_method_1_code 130 = .ok (.aload_n 0, 1) := by decide +kernel
theorem dw_Web_init_131 : decode prog_9_method_1_code 131 = .ok (.new 9, 3) := by decide +kernel
theorem dw_Web_init_134 : decode prog_9_method_1_code 134 = .ok (.dup, 1) := by decide +kernel
theorem dw_Web_init_135 : decode prog_9_method_1_code 135 = .ok (.ldc 44, 2) := by decide +kernel
theorem dw_Web_init_137 : decode prog_9_method_1_code 137 = .ok (.invokespecial 11, 3) := by decide +kernel
theorem dw_Web_init_140 : decode prog_9_method_1_code 140 = .ok (.putfield 45, 3) := by decide +kernel
theorem dw_Web_init_143 : decode prog_9_method_1_code 143 = .ok (.aload_n 0, 1) := by decide +kernel
theorem dw_Web_init_144 : decode prog_9_method_1_code 144 = .ok (.new 9, 3) := by decide +kernel
theorem dw_Web_init_147 : decode prog_9_method_1_code 147 = .ok (.dup, 1) := by decide +kernel
theorem dw_Web_init_148 : decode prog_9_method_1_code 148 = .ok (.ldc 44, 2) := by decide +kernel
theorem dw_Web_init_150 : decode prog_9_method_1_code 150 = .ok (.invokespecial 11, 3) := by decide +kernel
theorem dw_Web_init_153 : decode prog_9_method_1_code 153 = .ok (.putfield 48, 3) := by decide +kernel
theorem dw_Web_init_156 : decode prog_9_method_1_code 156 = .ok (.aload_n 0, 1) := by decide +kernel
theorem dw_Web_init_157 : decode prog_9_method_1_code 157 = .ok (.new 9, 3) := by decide +kernel
theorem dw_Web_init_160 : decode prog_9_method_1_code 160 = .ok (.dup, 1) := by decide +kernel
theorem dw_Web_init_161 : decode prog_9_method_1_code 161 = .ok (.sipush 24576, 3) := by decide +kernel
theorem dw_Web_init_164 : decode prog_9_method_1_code 164 = .ok (.invokespecial 11, 3) := by decide +kernel
theorem dw_Web_init_167 : decode prog_9_method_1_code 167 = .ok (.putfield 51, 3) := by decide +kernel
theorem dw_Web_init_170 : decode prog_9_method_1_code 170 = .ok (.aload_n 0, 1) := by decide +kernel
theorem dw_Web_init_171 : decode prog_9_method_1_code 171 = .ok (.iconst 0, 1) := by decide +kernel
theorem dw_Web_init_172 : decode prog_9_method_1_code 172 = .ok (.putfield 54, 3) := by decide +kernel
theorem dw_Web_init_175 : decode prog_9_method_1_code 175 = .ok (.aload_n 0, 1) := by decide +kernel
theorem dw_Web_init_176 : decode prog_9_method_1_code 176 = .ok (.iconst 0, 1) := by decide +kernel
theorem dw_Web_init_177 : decode prog_9_method_1_code 177 = .ok (.putfield 58, 3) := by decide +kernel
theorem dw_Web_init_180 : decode prog_9_method_1_code 180 = .ok (.aload_n 0, 1) := by decide +kernel
theorem dw_Web_init_181 : decode prog_9_method_1_code 181 = .ok (.iconst 0, 1) := by decide +kernel
theorem dw_Web_init_182 : decode prog_9_method_1_code 182 = .ok (.putfield 61, 3) := by decide +kernel
theorem dw_Web_init_185 : decode prog_9_method_1_code 185 = .ok (.aload_n 0, 1) := by decide +kernel
theorem dw_Web_init_186 : decode prog_9_method_1_code 186 = .ok (.iconst 0, 1) := by decide +kernel
theorem dw_Web_init_187 : decode prog_9_method_1_code 187 = .ok (.putfield 64, 3) := by decide +kernel
theorem dw_Web_init_190 : decode prog_9_method_1_code 190 = .ok (.aload_n 0, 1) := by decide +kernel
theorem dw_Web_init_191 : decode prog_9_method_1_code 191 = .ok (.iconst 0, 1) := by decide +kernel
theorem dw_Web_init_192 : decode prog_9_method_1_code 192 = .ok (.putfield 67, 3) := by decide +kernel
theorem dw_Web_init_195 : decode prog_9_method_1_code 195 = .ok (.return_, 1) := by decide +kernel
theorem dw_Walk_init_0 : decode prog_8_method_1_code 0 = .ok (.aload_n 0, 1) := by decide +kernel
theorem dw_Walk_init_1 : decode prog_8_method_1_code 1 = .ok (.invokespecial 3, 3) := by decide +kernel
theorem dw_Walk_init_4 : decode prog_8_method_1_code 4 = .ok (.aload_n 0, 1) := by decide +kernel
theorem dw_Walk_init_5 : decode prog_8_method_1_code 5 = .ok (.new 9, 3) := by decide +kernel
theorem dw_Walk_init_8 : decode prog_8_method_1_code 8 = .ok (.dup, 1) := by decide +kernel
theorem dw_Walk_init_9 : decode prog_8_method_1_code 9 = .ok (.sipush 25600, 3) := by decide +kernel
theorem dw_Walk_init_12 : decode prog_8_method_1_code 12 = .ok (.invokespecial 11, 3) := by decide +kernel
theorem dw_Walk_init_15 : decode prog_8_method_1_code 15 = .ok (.putfield 14, 3) := by decide +kernel
theorem dw_Walk_init_18 : decode prog_8_method_1_code 18 = .ok (.aload_n 0, 1) := by decide +kernel
theorem dw_Walk_init_19 : decode prog_8_method_1_code 19 = .ok (.new 9, 3) := by decide +kernel
theorem dw_Walk_init_22 : decode prog_8_method_1_code 22 = .ok (.dup, 1) := by decide +kernel
theorem dw_Walk_init_23 : decode prog_8_method_1_code 23 = .ok (.sipush 25600, 3) := by decide +kernel
theorem dw_Walk_init_26 : decode prog_8_method_1_code 26 = .ok (.invokespecial 11, 3) := by decide +kernel
theorem dw_Walk_init_29 : decode prog_8_method_1_code 29 = .ok (.putfield 20, 3) := by decide +kernel
theorem dw_Walk_init_32 : decode prog_8_method_1_code 32 = .ok (.aload_n 0, 1) := by decide +kernel
theorem dw_Walk_init_33 : decode prog_8_method_1_code 33 = .ok (.new 9, 3) := by decide +kernel
theorem dw_Walk_init_36 : decode prog_8_method_1_code 36 = .ok (.dup, 1) := by decide +kernel
theorem dw_Walk_init_37 : decode prog_8_method_1_code 37 = .ok (.sipush 25600, 3) := by decide +kernel
theorem dw_Walk_init_40 : decode prog_8_method_1_code 40 = .ok (.invokespecial 11, 3) := by decide +kernel
theorem dw_Walk_init_43 : decode prog_8_method_1_code 43 = .ok (.putfield 23, 3) := by decide +kernel
theorem dw_Walk_init_46 : decode prog_8_method_1_code 46 = .ok (.aload_n 0, 1) := by decide +kernel
theorem dw_Walk_init_47 : decode prog_8_method_1_code 47 = .ok (.new 9, 3) := by decide +kernel
theorem dw_Walk_init_50 : decode prog_8_method_1_code 50 = .ok (.dup, 1) := by decide +kernel
theorem dw_Walk_init_51 : decode prog_8_method_1_code 51 = .ok (.sipush 25600, 3) := by decide +kernel
theorem dw_Walk_init_54 : decode prog_8_method_1_code 54 = .ok (.invokespecial 11, 3) := by decide +kernel
theorem dw_Walk_init_57 : decode prog_8_method_1_code 57 = .ok (.putfield 26, 3) := by decide +kernel
theorem dw_Walk_init_60 : decode prog_8_method_1_code 60 = .ok (.aload_n 0, 1) := by decide +kernel
theorem dw_Walk_init_61 : decode prog_8_method_1_code 61 = .ok (.iconst 0, 1) := by decide +kernel
theorem dw_Walk_init_62 : decode prog_8_method_1_code 62 = .ok (.putfield 29, 3) := by decide +kernel
theorem dw_Walk_init_65 : decode prog_8_method_1_code 65 = .ok (.aload_n 0, 1) := by decide +kernel
theorem dw_Walk_init_66 : decode prog_8_method_1_code 66 = .ok (.iconst 0, 1) := by decide +kernel
theorem dw_Walk_init_67 : decode prog_8_method_1_code 67 = .ok (.putfield 33, 3) := by decide +kernel
theorem dw_Walk_init_70 : decode prog_8_method_1_code 70 = .ok (.aload_n 0, 1) := by decide +kernel
theorem dw_Walk_init_71 : decode prog_8_method_1_code 71 = .ok (.iconst 1, 1) := by decide +kernel
theorem dw_Walk_init_72 : decode prog_8_method_1_code 72 = .ok (.putfield 36, 3) := by decide +kernel
theorem dw_Walk_init_75 : decode prog_8_method_1_code 75 = .ok (.aload_n 0, 1) := by decide +kernel
theorem dw_Walk_init_76 : decode prog_8_method_1_code 76 = .ok (.aload_n 1, 1) := by decide +kernel
theorem dw_Walk_init_77 : decode prog_8_method_1_code 77 = .ok (.putfield 39, 3) := by decide +kernel
theorem dw_Walk_init_80 : decode prog_8_method_1_code 80 = .ok (.aload_n 0, 1) := by decide +kernel
theorem dw_Walk_init_81 : decode prog_8_method_1_code 81 = .ok (.aload_n 2, 1) := by decide +kernel
theorem dw_Walk_init_82 : decode prog_8_method_1_code 82 = .ok (.putfield 43, 3) := by decide +kernel
theorem dw_Walk_init_85 : decode prog_8_method_1_code 85 = .ok (.return_, 1) := by decide +kernel
theorem dw_Shapes_init_0 : decode prog_6_method_1_code 0 = .ok (.aload_n 0, 1) := by decide +kernel
theorem dw_Shapes_init_1 : decode prog_6_method_1_code 1 = .ok (.invokespecial 3, 3) := by decide +kernel
theorem dw_Shapes_init_4 : decode prog_6_method_1_code 4 = .ok (.aload_n 0, 1) := by decide +kernel
theorem dw_Shapes_init_5 : decode prog_6_method_1_code 5 = .ok (.new 9, 3) := by decide +kernel
theorem dw_Shapes_init_8 : decode prog_6_method_1_code 8 = .ok (.dup, 1) := by decide +kernel
theorem dw_Shapes_init_9 : decode prog_6_method_1_code 9 = .ok (.sipush 25600, 3) := by decide +kernel
theorem dw_Shapes_init_12 : decode prog_6_method_1_code 12 = .ok (.invokespecial 11, 3) := by decide +kernel
theorem dw_Shapes_init_15 : decode prog_6_method_1_code 15 = .ok (.putfield 14, 3) := by decide +kernel
theorem dw_Shapes_init_18 : decode prog_6_method_1_code 18 = .ok (.aload_n 0, 1) := by decide +kernel
theorem dw_Shapes_init_19 : decode prog_6_method_1_code 19 = .ok (.new 9, 3) := by decide +kernel
theorem dw_Shapes_init_22 : decode prog_6_method_1_code 22 = .ok (.dup, 1) := by decide +kernel
theorem dw_Shapes_init_23 : decode prog_6_method_1_code 23 = .ok (.ldc 20, 2) := by decide +kernel
theorem dw_Shapes_init_25 : decode prog_6_method_1_code 25 = .ok (.invokespecial 11, 3) := by decide +kernel
theorem dw_Shapes_init_28 : decode prog_6_method_1_code 28 = .ok (.putfield 21, 3) := by decide +kernel
theorem dw_Shapes_init_31 : decode prog_6_method_1_code 31 = .ok (.aload_n 0, 1) := by decide +kernel
theorem dw_Shapes_init_32 : decode prog_6_method_1_code 32 = .ok (.new 9, 3) := by decide +kernel
theorem dw_Shapes_init_35 : decode prog_6_method_1_code 35 = .ok (.dup, 1) := by decide +kernel
theorem dw_Shapes_init_36 : decode prog_6_method_1_code 36 = .ok (.sipush 25600, 3) := by decide +kernel
theorem dw_Shapes_init_39 : decode prog_6_method_1_code 39 = .ok (.invokespecial 11, 3) := by decide +kernel
theorem dw_Shapes_init_42 : decode prog_6_method_1_code 42 = .ok (.putfield 24, 3) := by decide +kernel
theorem dw_Shapes_init_45 : decode prog_6_method_1_code 45 = .ok (.aload_n 0, 1) := by decide +kernel
theorem dw_Shapes_init_46 : decode prog_6_method_1_code 46 = .ok (.new 9, 3) := by decide +kernel
theorem dw_Shapes_init_49 : decode prog_6_method_1_code 49 = .ok (.dup, 1) := by decide +kernel
theorem dw_Shapes_init_50 : decode prog_6_method_1_code 50 = .ok (.sipush 25600, 3) := by decide +kernel
theorem dw_Shapes_init_53 : decode prog_6_method_1_code 53 = .ok (.invokespecial 11, 3) := by decide +kernel
theorem dw_Shapes_init_56 : decode prog_6_method_1_code 56 = .ok (.putfield 27, 3) := by decide +kernel
theorem dw_Shapes_init_59 : decode prog_6_method_1_code 59 = .ok (.aload_n 0, 1) := by decide +kernel
theorem dw_Shapes_init_60 : decode prog_6_method_1_code 60 = .ok (.iconst 0, 1) := by decide +kernel
theorem dw_Shapes_init_61 : decode prog_6_method_1_code 61 = .ok (.putfield 30, 3) := by decide +kernel
theorem dw_Shapes_init_64 : decode prog_6_method_1_code 64 = .ok (.aload_n 0, 1) := by decide +kernel
theorem dw_Shapes_init_65 : decode prog_6_method_1_code 65 = .ok (.aload_n 1, 1) := by decide +kernel
theorem dw_Shapes_init_66 : decode prog_6_method_1_code 66 = .ok (.putfield 34, 3) := by decide +kernel
theorem dw_Shapes_init_69 : decode prog_6_method_1_code 69 = .ok (.aload_n 0, 1) := by decide +kernel
theorem dw_Shapes_init_70 : decode prog_6_method_1_code 70 = .ok (.aload_n 2, 1) := by decide +kernel
theorem dw_Shapes_init_71 : decode prog_6_method_1_code 71 = .ok (.putfield 38, 3) := by decide +kernel
theorem dw_Shapes_init_74 : decode prog_6_method_1_code 74 = .ok (.return_, 1) := by decide +kernel
theorem dw_Unifier_init_0 : decode prog_7_method_1_code 0 = .ok (.aload_n 0, 1) := by decide +kernel
theorem dw_Unifier_init_1 : decode prog_7_method_1_code 1 = .ok (.invokespecial 3, 3) := by decide +kernel
theorem dw_Unifier_init_4 : decode prog_7_method_1_code 4 = .ok (.aload_n 0, 1) := by decide +kernel
theorem dw_Unifier_init_5 : decode prog_7_method_1_code 5 = .ok (.new 9, 3) := by decide +kernel
theorem dw_Unifier_init_8 : decode prog_7_method_1_code 8 = .ok (.dup, 1) := by decide +kernel
theorem dw_Unifier_init_9 : decode prog_7_method_1_code 9 = .ok (.sipush 25600, 3) := by decide +kernel
theorem dw_Unifier_init_12 : decode prog_7_method_1_code 12 = .ok (.invokespecial 11, 3) := by decide +kernel
theorem dw_Unifier_init_15 : decode prog_7_method_1_code 15 = .ok (.putfield 14, 3) := by decide +kernel
theorem dw_Unifier_init_18 : decode prog_7_method_1_code 18 = .ok (.aload_n 0, 1) := by decide +kernel
theorem dw_Unifier_init_19 : decode prog_7_method_1_code 19 = .ok (.new 9, 3) := by decide +kernel
theorem dw_Unifier_init_22 : decode prog_7_method_1_code 22 = .ok (.dup, 1) := by decide +kernel
theorem dw_Unifier_init_23 : decode prog_7_method_1_code 23 = .ok (.sipush 25600, 3) := by decide +kernel
theorem dw_Unifier_init_26 : decode prog_7_method_1_code 26 = .ok (.invokespecial 11, 3) := by decide +kernel
theorem dw_Unifier_init_29 : decode prog_7_method_1_code 29 = .ok (.putfield 20, 3) := by decide +kernel
theorem dw_Unifier_init_32 : decode prog_7_method_1_code 32 = .ok (.aload_n 0, 1) := by decide +kernel
theorem dw_Unifier_init_33 : decode prog_7_method_1_code 33 = .ok (.new 9, 3) := by decide +kernel
theorem dw_Unifier_init_36 : decode prog_7_method_1_code 36 = .ok (.dup, 1) := by decide +kernel
theorem dw_Unifier_init_37 : decode prog_7_method_1_code 37 = .ok (.sipush 25600, 3) := by decide +kernel
theorem dw_Unifier_init_40 : decode prog_7_method_1_code 40 = .ok (.invokespecial 11, 3) := by decide +kernel
theorem dw_Unifier_init_43 : decode prog_7_method_1_code 43 = .ok (.putfield 23, 3) := by decide +kernel
theorem dw_Unifier_init_46 : decode prog_7_method_1_code 46 = .ok (.aload_n 0, 1) := by decide +kernel
theorem dw_Unifier_init_47 : decode prog_7_method_1_code 47 = .ok (.iconst 0, 1) := by decide +kernel
theorem dw_Unifier_init_48 : decode prog_7_method_1_code 48 = .ok (.putfield 26, 3) := by decide +kernel
theorem dw_Unifier_init_51 : decode prog_7_method_1_code 51 = .ok (.aload_n 0, 1) := by decide +kernel
theorem dw_Unifier_init_52 : decode prog_7_method_1_code 52 = .ok (.new 9, 3) := by decide +kernel
theorem dw_Unifier_init_55 : decode prog_7_method_1_code 55 = .ok (.dup, 1) := by decide +kernel
theorem dw_Unifier_init_56 : decode prog_7_method_1_code 56 = .ok (.sipush 25600, 3) := by decide +kernel
theorem dw_Unifier_init_59 : decode prog_7_method_1_code 59 = .ok (.invokespecial 11, 3) := by decide +kernel
theorem dw_Unifier_init_62 : decode prog_7_method_1_code 62 = .ok (.putfield 30, 3) := by decide +kernel
theorem dw_Unifier_init_65 : decode prog_7_method_1_code 65 = .ok (.aload_n 0, 1) := by decide +kernel
theorem dw_Unifier_init_66 : decode prog_7_method_1_code 66 = .ok (.iconst 0, 1) := by decide +kernel
theorem dw_Unifier_init_67 : decode prog_7_method_1_code 67 = .ok (.putfield 33, 3) := by decide +kernel
theorem dw_Unifier_init_70 : decode prog_7_method_1_code 70 = .ok (.aload_n 0, 1) := by decide +kernel
theorem dw_Unifier_init_71 : decode prog_7_method_1_code 71 = .ok (.new 9, 3) := by decide +kernel
theorem dw_Unifier_init_74 : decode prog_7_method_1_code 74 = .ok (.dup, 1) := by decide +kernel
theorem dw_Unifier_init_75 : decode prog_7_method_1_code 75 = .ok (.sipush 1024, 3) := by decide +kernel
theorem dw_Unifier_init_78 : decode prog_7_method_1_code 78 = .ok (.invokespecial 11, 3) := by decide +kernel
theorem dw_Unifier_init_81 : decode prog_7_method_1_code 81 = .ok (.putfield 36, 3) := by decide +kernel
theorem dw_Unifier_init_84 : decode prog_7_method_1_code 84 = .ok (.aload_n 0, 1) := by decide +kernel
theorem dw_Unifier_init_85 : decode prog_7_method_1_code 85 = .ok (.iconst 0, 1) := by decide +kernel
theorem dw_Unifier_init_86 : decode prog_7_method_1_code 86 = .ok (.putfield 39, 3) := by decide +kernel
theorem dw_Unifier_init_89 : decode prog_7_method_1_code 89 = .ok (.aload_n 0, 1) := by decide +kernel
theorem dw_Unifier_init_90 : decode prog_7_method_1_code 90 = .ok (.new 9, 3) := by decide +kernel
theorem dw_Unifier_init_93 : decode prog_7_method_1_code 93 = .ok (.dup, 1) := by decide +kernel
theorem dw_Unifier_init_94 : decode prog_7_method_1_code 94 = .ok (.sipush 25600, 3) := by decide +kernel
theorem dw_Unifier_init_97 : decode prog_7_method_1_code 97 = .ok (.invokespecial 11, 3) := by decide +kernel
theorem dw_Unifier_init_100 : decode prog_7_method_1_code 100 = .ok (.putfield 42, 3) := by decide +kernel
theorem dw_Unifier_init_103 : decode prog_7_method_1_code 103 = .ok (.aload_n 0, 1) := by decide +kernel
theorem dw_Unifier_init_104 : decode prog_7_method_1_code 104 = .ok (.new 9, 3) := by decide +kernel
theorem dw_Unifier_init_107 : decode prog_7_method_1_code 107 = .ok (.dup, 1) := by decide +kernel
theorem dw_Unifier_init_108 : decode prog_7_method_1_code 108 = .ok (.sipush 25600, 3) := by decide +kernel
theorem dw_Unifier_init_111 : decode prog_7_method_1_code 111 = .ok (.invokespecial 11, 3) := by decide +kernel
theorem dw_Unifier_init_114 : decode prog_7_method_1_code 114 = .ok (.putfield 45, 3) := by decide +kernel
theorem dw_Unifier_init_117 : decode prog_7_method_1_code 117 = .ok (.aload_n 0, 1) := by decide +kernel
theorem dw_Unifier_init_118 : decode prog_7_method_1_code 118 = .ok (.new 9, 3) := by decide +kernel
theorem dw_Unifier_init_121 : decode prog_7_method_1_code 121 = .ok (.dup, 1) := by decide +kernel
theorem dw_Unifier_init_122 : decode prog_7_method_1_code 122 = .ok (.sipush 25600, 3) := by decide +kernel
theorem dw_Unifier_init_125 : decode prog_7_method_1_code 125 = .ok (.invokespecial 11, 3) := by decide +kernel
theorem dw_Unifier_init_128 : decode prog_7_method_1_code 128 = .ok (.putfield 48, 3) := by decide +kernel
theorem dw_Unifier_init_131 : decode prog_7_method_1_code 131 = .ok (.aload_n 0, 1) := by decide +kernel
theorem dw_Unifier_init_132 : decode prog_7_method_1_code 132 = .ok (.new 9, 3) := by decide +kernel
theorem dw_Unifier_init_135 : decode prog_7_method_1_code 135 = .ok (.dup, 1) := by decide +kernel
theorem dw_Unifier_init_136 : decode prog_7_method_1_code 136 = .ok (.sipush 25600, 3) := by decide +kernel
theorem dw_Unifier_init_139 : decode prog_7_method_1_code 139 = .ok (.invokespecial 11, 3) := by decide +kernel
theorem dw_Unifier_init_142 : decode prog_7_method_1_code 142 = .ok (.putfield 51, 3) := by decide +kernel
theorem dw_Unifier_init_145 : decode prog_7_method_1_code 145 = .ok (.aload_n 0, 1) := by decide +kernel
theorem dw_Unifier_init_146 : decode prog_7_method_1_code 146 = .ok (.iconst 0, 1) := by decide +kernel
theorem dw_Unifier_init_147 : decode prog_7_method_1_code 147 = .ok (.putfield 54, 3) := by decide +kernel
theorem dw_Unifier_init_150 : decode prog_7_method_1_code 150 = .ok (.aload_n 0, 1) := by decide +kernel
theorem dw_Unifier_init_151 : decode prog_7_method_1_code 151 = .ok (.new 9, 3) := by decide +kernel
theorem dw_Unifier_init_154 : decode prog_7_method_1_code 154 = .ok (.dup, 1) := by decide +kernel
theorem dw_Unifier_init_155 : decode prog_7_method_1_code 155 = .ok (.sipush 25600, 3) := by decide +kernel
theorem dw_Unifier_init_158 : decode prog_7_method_1_code 158 = .ok (.invokespecial 11, 3) := by decide +kernel
theorem dw_Unifier_init_161 : decode prog_7_method_1_code 161 = .ok (.putfield 57, 3) := by decide +kernel
theorem dw_Unifier_init_164 : decode prog_7_method_1_code 164 = .ok (.aload_n 0, 1) := by decide +kernel
theorem dw_Unifier_init_165 : decode prog_7_method_1_code 165 = .ok (.iconst 0, 1) := by decide +kernel
theorem dw_Unifier_init_166 : decode prog_7_method_1_code 166 = .ok (.putfield 60, 3) := by decide +kernel
theorem dw_Unifier_init_169 : decode prog_7_method_1_code 169 = .ok (.aload_n 0, 1) := by decide +kernel
theorem dw_Unifier_init_170 : decode prog_7_method_1_code 170 = .ok (.aload_n 1, 1) := by decide +kernel
theorem dw_Unifier_init_171 : decode prog_7_method_1_code 171 = .ok (.putfield 63, 3) := by decide +kernel
theorem dw_Unifier_init_174 : decode prog_7_method_1_code 174 = .ok (.aload_n 0, 1) := by decide +kernel
theorem dw_Unifier_init_175 : decode prog_7_method_1_code 175 = .ok (.aload_n 2, 1) := by decide +kernel
theorem dw_Unifier_init_176 : decode prog_7_method_1_code 176 = .ok (.putfield 67, 3) := by decide +kernel
theorem dw_Unifier_init_179 : decode prog_7_method_1_code 179 = .ok (.aload_n 0, 1) := by decide +kernel
theorem dw_Unifier_init_180 : decode prog_7_method_1_code 180 = .ok (.aload_n 3, 1) := by decide +kernel
theorem dw_Unifier_init_181 : decode prog_7_method_1_code 181 = .ok (.putfield 71, 3) := by decide +kernel
theorem dw_Unifier_init_184 : decode prog_7_method_1_code 184 = .ok (.return_, 1) := by decide +kernel
theorem dw_Schemes_init_0 : decode prog_5_method_1_code 0 = .ok (.aload_n 0, 1) := by decide +kernel
theorem dw_Schemes_init_1 : decode prog_5_method_1_code 1 = .ok (.invokespecial 3, 3) := by decide +kernel
theorem dw_Schemes_init_4 : decode prog_5_method_1_code 4 = .ok (.aload_n 0, 1) := by decide +kernel
theorem dw_Schemes_init_5 : decode prog_5_method_1_code 5 = .ok (.new 9, 3) := by decide +kernel
theorem dw_Schemes_init_8 : decode prog_5_method_1_code 8 = .ok (.dup, 1) := by decide +kernel
theorem dw_Schemes_init_9 : decode prog_5_method_1_code 9 = .ok (.sipush 16384, 3) := by decide +kernel
theorem dw_Schemes_init_12 : decode prog_5_method_1_code 12 = .ok (.invokespecial 11, 3) := by decide +kernel
theorem dw_Schemes_init_15 : decode prog_5_method_1_code 15 = .ok (.putfield 14, 3) := by decide +kernel
theorem dw_Schemes_init_18 : decode prog_5_method_1_code 18 = .ok (.aload_n 0, 1) := by decide +kernel
theorem dw_Schemes_init_19 : decode prog_5_method_1_code 19 = .ok (.new 9, 3) := by decide +kernel
theorem dw_Schemes_init_22 : decode prog_5_method_1_code 22 = .ok (.dup, 1) := by decide +kernel
theorem dw_Schemes_init_23 : decode prog_5_method_1_code 23 = .ok (.sipush 16384, 3) := by decide +kernel
theorem dw_Schemes_init_26 : decode prog_5_method_1_code 26 = .ok (.invokespecial 11, 3) := by decide +kernel
theorem dw_Schemes_init_29 : decode prog_5_method_1_code 29 = .ok (.putfield 20, 3) := by decide +kernel
theorem dw_Schemes_init_32 : decode prog_5_method_1_code 32 = .ok (.aload_n 0, 1) := by decide +kernel
theorem dw_Schemes_init_33 : decode prog_5_method_1_code 33 = .ok (.new 9, 3) := by decide +kernel
theorem dw_Schemes_init_36 : decode prog_5_method_1_code 36 = .ok (.dup, 1) := by decide +kernel
theorem dw_Schemes_init_37 : decode prog_5_method_1_code 37 = .ok (.sipush 16384, 3) := by decide +kernel
theorem dw_Schemes_init_40 : decode prog_5_method_1_code 40 = .ok (.invokespecial 11, 3) := by decide +kernel
theorem dw_Schemes_init_43 : decode prog_5_method_1_code 43 = .ok (.putfield 23, 3) := by decide +kernel
theorem dw_Schemes_init_46 : decode prog_5_method_1_code 46 = .ok (.aload_n 0, 1) := by decide +kernel
theorem dw_Schemes_init_47 : decode prog_5_method_1_code 47 = .ok (.new 9, 3) := by decide +kernel
theorem dw_Schemes_init_50 : decode prog_5_method_1_code 50 = .ok (.dup, 1) := by decide +kernel
theorem dw_Schemes_init_51 : decode prog_5_method_1_code 51 = .ok (.sipush 16385, 3) := by decide +kernel
theorem dw_Schemes_init_54 : decode prog_5_method_1_code 54 = .ok (.invokespecial 11, 3) := by decide +kernel
theorem dw_Schemes_init_57 : decode prog_5_method_1_code 57 = .ok (.putfield 26, 3) := by decide +kernel
theorem dw_Schemes_init_60 : decode prog_5_method_1_code 60 = .ok (.aload_n 0, 1) := by decide +kernel
theorem dw_Schemes_init_61 : decode prog_5_method_1_code 61 = .ok (.new 9, 3) := by decide +kernel
theorem dw_Schemes_init_64 : decode prog_5_method_1_code 64 = .ok (.dup, 1) := by decide +kernel
theorem dw_Schemes_init_65 : decode prog_5_method_1_code 65 = .ok (.ldc 29, 2) := by decide +kernel
theorem dw_Schemes_init_67 : decode prog_5_method_1_code 67 = .ok (.invokespecial 11, 3) := by decide +kernel
theorem dw_Schemes_init_70 : decode prog_5_method_1_code 70 = .ok (.putfield 30, 3) := by decide +kernel
theorem dw_Schemes_init_73 : decode prog_5_method_1_code 73 = .ok (.aload_n 0, 1) := by decide +kernel
theorem dw_Schemes_init_74 : decode prog_5_method_1_code 74 = .ok (.new 9, 3) := by decide +kernel
theorem dw_Schemes_init_77 : decode prog_5_method_1_code 77 = .ok (.dup, 1) := by decide +kernel
theorem dw_Schemes_init_78 : decode prog_5_method_1_code 78 = .ok (.ldc 29, 2) := by decide +kernel
theorem dw_Schemes_init_80 : decode prog_5_method_1_code 80 = .ok (.invokespecial 11, 3) := by decide +kernel
theorem dw_Schemes_init_83 : decode prog_5_method_1_code 83 = .ok (.putfield 33, 3) := by decide +kernel
theorem dw_Schemes_init_86 : decode prog_5_method_1_code 86 = .ok (.aload_n 0, 1) := by decide +kernel
theorem dw_Schemes_init_87 : decode prog_5_method_1_code 87 = .ok (.new 9, 3) := by decide +kernel
theorem dw_Schemes_init_90 : decode prog_5_method_1_code 90 = .ok (.dup, 1) := by decide +kernel
theorem dw_Schemes_init_91 : decode prog_5_method_1_code 91 = .ok (.sipush 2049, 3) := by decide +kernel
theorem dw_Schemes_init_94 : decode prog_5_method_1_code 94 = .ok (.invokespecial 11, 3) := by decide +kernel
theorem dw_Schemes_init_97 : decode prog_5_method_1_code 97 = .ok (.putfield 36, 3) := by decide +kernel
theorem dw_Schemes_init_100 : decode prog_5_method_1_code 100 = .ok (.aload_n 0, 1) := by decide +kernel
theorem dw_Schemes_init_101 : decode prog_5_method_1_code 101 = .ok (.new 9, 3) := by decide +kernel
theorem dw_Schemes_init_104 : decode prog_5_method_1_code 104 = .ok (.dup, 1) := by decide +kernel
theorem dw_Schemes_init_105 : decode prog_5_method_1_code 105 = .ok (.sipush 2048, 3) := by decide +kernel
theorem dw_Schemes_init_108 : decode prog_5_method_1_code 108 = .ok (.invokespecial 11, 3) := by decide +kernel
theorem dw_Schemes_init_111 : decode prog_5_method_1_code 111 = .ok (.putfield 39, 3) := by decide +kernel
theorem dw_Schemes_init_114 : decode prog_5_method_1_code 114 = .ok (.aload_n 0, 1) := by decide +kernel
theorem dw_Schemes_init_115 : decode prog_5_method_1_code 115 = .ok (.new 9, 3) := by decide +kernel
theorem dw_Schemes_init_118 : decode prog_5_method_1_code 118 = .ok (.dup, 1) := by decide +kernel
theorem dw_Schemes_init_119 : decode prog_5_method_1_code 119 = .ok (.sipush 2048, 3) := by decide +kernel
theorem dw_Schemes_init_122 : decode prog_5_method_1_code 122 = .ok (.invokespecial 11, 3) := by decide +kernel
theorem dw_Schemes_init_125 : decode prog_5_method_1_code 125 = .ok (.putfield 42, 3) := by decide +kernel
theorem dw_Schemes_init_128 : decode prog_5_method_1_code 128 = .ok (.aload_n 0, 1) := by decide +kernel
theorem dw_Schemes_init_129 : decode prog_5_method_1_code 129 = .ok (.new 9, 3) := by decide +kernel
theorem dw_Schemes_init_132 : decode prog_5_method_1_code 132 = .ok (.dup, 1) := by decide +kernel
theorem dw_Schemes_init_133 : decode prog_5_method_1_code 133 = .ok (.sipush 2048, 3) := by decide +kernel
theorem dw_Schemes_init_136 : decode prog_5_method_1_code 136 = .ok (.invokespecial 11, 3) := by decide +kernel
theorem dw_Schemes_init_139 : decode prog_5_method_1_code 139 = .ok (.putfield 45, 3) := by decide +kernel
theorem dw_Schemes_init_142 : decode prog_5_method_1_code 142 = .ok (.aload_n 0, 1) := by decide +kernel
theorem dw_Schemes_init_143 : decode prog_5_method_1_code 143 = .ok (.new 9, 3) := by decide +kernel
theorem dw_Schemes_init_146 : decode prog_5_method_1_code 146 = .ok (.dup, 1) := by decide +kernel
theorem dw_Schemes_init_147 : decode prog_5_method_1_code 147 = .ok (.sipush 2048, 3) := by decide +kernel
theorem dw_Schemes_init_150 : decode prog_5_method_1_code 150 = .ok (.invokespecial 11, 3) := by decide +kernel
theorem dw_Schemes_init_153 : decode prog_5_method_1_code 153 = .ok (.putfield 48, 3) := by decide +kernel
theorem dw_Schemes_init_156 : decode prog_5_method_1_code 156 = .ok (.aload_n 0, 1) := by decide +kernel
theorem dw_Schemes_init_157 : decode prog_5_method_1_code 157 = .ok (.new 9, 3) := by decide +kernel
theorem dw_Schemes_init_160 : decode prog_5_method_1_code 160 = .ok (.dup, 1) := by decide +kernel
theorem dw_Schemes_init_161 : decode prog_5_method_1_code 161 = .ok (.sipush 2048, 3) := by decide +kernel
theorem dw_Schemes_init_164 : decode prog_5_method_1_code 164 = .ok (.invokespecial 11, 3) := by decide +kernel
theorem dw_Schemes_init_167 : decode prog_5_method_1_code 167 = .ok (.putfield 51, 3) := by decide +kernel
theorem dw_Schemes_init_170 : decode prog_5_method_1_code 170 = .ok (.aload_n 0, 1) := by decide +kernel
theorem dw_Schemes_init_171 : decode prog_5_method_1_code 171 = .ok (.new 9, 3) := by decide +kernel
theorem dw_Schemes_init_174 : decode prog_5_method_1_code 174 = .ok (.dup, 1) := by decide +kernel
theorem dw_Schemes_init_175 : decode prog_5_method_1_code 175 = .ok (.sipush 16384, 3) := by decide +kernel
theorem dw_Schemes_init_178 : decode prog_5_method_1_code 178 = .ok (.invokespecial 11, 3) := by decide +kernel
theorem dw_Schemes_init_181 : decode prog_5_method_1_code 181 = .ok (.putfield 54, 3) := by decide +kernel
theorem dw_Schemes_init_184 : decode prog_5_method_1_code 184 = .ok (.aload_n 0, 1) := by decide +kernel
theorem dw_Schemes_init_185 : decode prog_5_method_1_code 185 = .ok (.iconst 0, 1) := by decide +kernel
theorem dw_Schemes_init_186 : decode prog_5_method_1_code 186 = .ok (.putfield 57, 3) := by decide +kernel
theorem dw_Schemes_init_189 : decode prog_5_method_1_code 189 = .ok (.aload_n 0, 1) := by decide +kernel
theorem dw_Schemes_init_190 : decode prog_5_method_1_code 190 = .ok (.iconst 0, 1) := by decide +kernel
theorem dw_Schemes_init_191 : decode prog_5_method_1_code 191 = .ok (.putfield 61, 3) := by decide +kernel
theorem dw_Schemes_init_194 : decode prog_5_method_1_code 194 = .ok (.aload_n 0, 1) := by decide +kernel
theorem dw_Schemes_init_195 : decode prog_5_method_1_code 195 = .ok (.iconst 0, 1) := by decide +kernel
theorem dw_Schemes_init_196 : decode prog_5_method_1_code 196 = .ok (.putfield 64, 3) := by decide +kernel
theorem dw_Schemes_init_199 : decode prog_5_method_1_code 199 = .ok (.aload_n 0, 1) := by decide +kernel
theorem dw_Schemes_init_200 : decode prog_5_method_1_code 200 = .ok (.aload_n 1, 1) := by decide +kernel
theorem dw_Schemes_init_201 : decode prog_5_method_1_code 201 = .ok (.putfield 67, 3) := by decide +kernel
theorem dw_Schemes_init_204 : decode prog_5_method_1_code 204 = .ok (.aload_n 0, 1) := by decide +kernel
theorem dw_Schemes_init_205 : decode prog_5_method_1_code 205 = .ok (.aload_n 2, 1) := by decide +kernel
theorem dw_Schemes_init_206 : decode prog_5_method_1_code 206 = .ok (.putfield 71, 3) := by decide +kernel
theorem dw_Schemes_init_209 : decode prog_5_method_1_code 209 = .ok (.return_, 1) := by decide +kernel
theorem dw_T_init_0 : decode prog_1_method_1_code 0 = .ok (.aload_n 0, 1) := by decide +kernel
theorem dw_T_init_1 : decode prog_1_method_1_code 1 = .ok (.invokespecial 3, 3) := by decide +kernel
theorem dw_T_init_4 : decode prog_1_method_1_code 4 = .ok (.aload_n 0, 1) := by decide +kernel
theorem dw_T_init_5 : decode prog_1_method_1_code 5 = .ok (.new 9, 3) := by decide +kernel
theorem dw_T_init_8 : decode prog_1_method_1_code 8 = .ok (.dup, 1) := by decide +kernel
theorem dw_T_init_9 : decode prog_1_method_1_code 9 = .ok (.invokespecial 11, 3) := by decide +kernel
theorem dw_T_init_12 : decode prog_1_method_1_code 12 = .ok (.putfield 12, 3) := by decide +kernel
theorem dw_T_init_15 : decode prog_1_method_1_code 15 = .ok (.aload_n 0, 1) := by decide +kernel
theorem dw_T_init_16 : decode prog_1_method_1_code 16 = .ok (.new 16, 3) := by decide +kernel
theorem dw_T_init_19 : decode prog_1_method_1_code 19 = .ok (.dup, 1) := by decide +kernel
theorem dw_T_init_20 : decode prog_1_method_1_code 20 = .ok (.invokespecial 18, 3) := by decide +kernel
theorem dw_T_init_23 : decode prog_1_method_1_code 23 = .ok (.putfield 19, 3) := by decide +kernel
theorem dw_T_init_26 : decode prog_1_method_1_code 26 = .ok (.aload_n 0, 1) := by decide +kernel
theorem dw_T_init_27 : decode prog_1_method_1_code 27 = .ok (.new 23, 3) := by decide +kernel
theorem dw_T_init_30 : decode prog_1_method_1_code 30 = .ok (.dup, 1) := by decide +kernel
theorem dw_T_init_31 : decode prog_1_method_1_code 31 = .ok (.invokespecial 25, 3) := by decide +kernel
theorem dw_T_init_34 : decode prog_1_method_1_code 34 = .ok (.putfield 26, 3) := by decide +kernel
theorem dw_T_init_37 : decode prog_1_method_1_code 37 = .ok (.aload_n 0, 1) := by decide +kernel
theorem dw_T_init_38 : decode prog_1_method_1_code 38 = .ok (.new 30, 3) := by decide +kernel
theorem dw_T_init_41 : decode prog_1_method_1_code 41 = .ok (.dup, 1) := by decide +kernel
theorem dw_T_init_42 : decode prog_1_method_1_code 42 = .ok (.aload_n 0, 1) := by decide +kernel
theorem dw_T_init_43 : decode prog_1_method_1_code 43 = .ok (.getfield 26, 3) := by decide +kernel
theorem dw_T_init_46 : decode prog_1_method_1_code 46 = .ok (.aload_n 0, 1) := by decide +kernel
theorem dw_T_init_47 : decode prog_1_method_1_code 47 = .ok (.getfield 12, 3) := by decide +kernel
theorem dw_T_init_50 : decode prog_1_method_1_code 50 = .ok (.invokespecial 32, 3) := by decide +kernel
theorem dw_T_init_53 : decode prog_1_method_1_code 53 = .ok (.putfield 35, 3) := by decide +kernel
theorem dw_T_init_56 : decode prog_1_method_1_code 56 = .ok (.aload_n 0, 1) := by decide +kernel
theorem dw_T_init_57 : decode prog_1_method_1_code 57 = .ok (.new 39, 3) := by decide +kernel
theorem dw_T_init_60 : decode prog_1_method_1_code 60 = .ok (.dup, 1) := by decide +kernel
theorem dw_T_init_61 : decode prog_1_method_1_code 61 = .ok (.aload_n 0, 1) := by decide +kernel
theorem dw_T_init_62 : decode prog_1_method_1_code 62 = .ok (.getfield 26, 3) := by decide +kernel
theorem dw_T_init_65 : decode prog_1_method_1_code 65 = .ok (.aload_n 0, 1) := by decide +kernel
theorem dw_T_init_66 : decode prog_1_method_1_code 66 = .ok (.getfield 35, 3) := by decide +kernel
theorem dw_T_init_69 : decode prog_1_method_1_code 69 = .ok (.invokespecial 41, 3) := by decide +kernel
theorem dw_T_init_72 : decode prog_1_method_1_code 72 = .ok (.putfield 44, 3) := by decide +kernel
theorem dw_T_init_75 : decode prog_1_method_1_code 75 = .ok (.aload_n 0, 1) := by decide +kernel
theorem dw_T_init_76 : decode prog_1_method_1_code 76 = .ok (.new 48, 3) := by decide +kernel
theorem dw_T_init_79 : decode prog_1_method_1_code 79 = .ok (.dup, 1) := by decide +kernel
theorem dw_T_init_80 : decode prog_1_method_1_code 80 = .ok (.aload_n 0, 1) := by decide +kernel
theorem dw_T_init_81 : decode prog_1_method_1_code 81 = .ok (.getfield 26, 3) := by decide +kernel
theorem dw_T_init_84 : decode prog_1_method_1_code 84 = .ok (.aload_n 0, 1) := by decide +kernel
theorem dw_T_init_85 : decode prog_1_method_1_code 85 = .ok (.getfield 35, 3) := by decide +kernel
theorem dw_T_init_88 : decode prog_1_method_1_code 88 = .ok (.aload_n 0, 1) := by decide +kernel
theorem dw_T_init_89 : decode prog_1_method_1_code 89 = .ok (.getfield 12, 3) := by decide +kernel
theorem dw_T_init_92 : decode prog_1_method_1_code 92 = .ok (.invokespecial 50, 3) := by decide +kernel
theorem dw_T_init_95 : decode prog_1_method_1_code 95 = .ok (.putfield 53, 3) := by decide +kernel
theorem dw_T_init_98 : decode prog_1_method_1_code 98 = .ok (.aload_n 0, 1) := by decide +kernel
theorem dw_T_init_99 : decode prog_1_method_1_code 99 = .ok (.new 57, 3) := by decide +kernel
theorem dw_T_init_102 : decode prog_1_method_1_code 102 = .ok (.dup, 1) := by decide +kernel
theorem dw_T_init_103 : decode prog_1_method_1_code 103 = .ok (.aload_n 0, 1) := by decide +kernel
theorem dw_T_init_104 : decode prog_1_method_1_code 104 = .ok (.getfield 26, 3) := by decide +kernel
theorem dw_T_init_107 : decode prog_1_method_1_code 107 = .ok (.aload_n 0, 1) := by decide +kernel
theorem dw_T_init_108 : decode prog_1_method_1_code 108 = .ok (.getfield 44, 3) := by decide +kernel
theorem dw_T_init_111 : decode prog_1_method_1_code 111 = .ok (.invokespecial 59, 3) := by decide +kernel
theorem dw_T_init_114 : decode prog_1_method_1_code 114 = .ok (.putfield 62, 3) := by decide +kernel
theorem dw_T_init_117 : decode prog_1_method_1_code 117 = .ok (.aload_n 0, 1) := by decide +kernel
theorem dw_T_init_118 : decode prog_1_method_1_code 118 = .ok (.iconst 0, 1) := by decide +kernel
theorem dw_T_init_119 : decode prog_1_method_1_code 119 = .ok (.putfield 66, 3) := by decide +kernel
theorem dw_T_init_122 : decode prog_1_method_1_code 122 = .ok (.return_, 1) := by decide +kernel
