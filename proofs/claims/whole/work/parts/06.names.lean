theorem dX9_symbolAt_6 : decode cX9_symbolAt 6 = .ok (.getfield 19, 3) := by decide +kernel
theorem dX9_symbolAt_9 : decode cX9_symbolAt 9 = .ok (.invokeinterface 22 1, 5) := by decide +kernel
theorem dX9_symbolAt_14 : decode cX9_symbolAt 14 = .ok (.if_icmp .ge 19, 3) := by decide +kernel
theorem dX9_symbolAt_17 : decode cX9_symbolAt 17 = .ok (.aload_n 0, 1) := by decide +kernel
theorem dX9_symbolAt_18 : decode cX9_symbolAt 18 = .ok (.getfield 19, 3) := by decide +kernel
theorem dX9_symbolAt_21 : decode cX9_symbolAt 21 = .ok (.iload_n 1, 1) := by decide +kernel
theorem dX9_symbolAt_22 : decode cX9_symbolAt 22 = .ok (.invokeinterface 28 2, 5) := by decide +kernel
theorem dX9_symbolAt_27 : decode cX9_symbolAt 27 = .ok (.checkcast 36, 3) := by decide +kernel
theorem dX9_symbolAt_30 : decode cX9_symbolAt 30 = .ok (.goto 4, 3) := by decide +kernel
theorem dX9_symbolAt_33 : decode cX9_symbolAt 33 = .ok (.aconst_null, 1) := by decide +kernel
theorem dX9_symbolAt_34 : decode cX9_symbolAt 34 = .ok (.areturn, 1) := by decide +kernel
theorem dX10_reckon_0 : decode cX10_reckon 0 = .ok (.iload_n 0, 1) := by decide +kernel
theorem dX10_reckon_1 : decode cX10_reckon 1 = .ok (.tableswitch 130 3 15 #[67, 71, 75, 130, 130, 79, 83, 87, 91, 96, 101, 106, 118], 67) := by decide +kernel
theorem dX10_reckon_68 : decode cX10_reckon 68 = .ok (.lload_n 1, 1) := by decide +kernel
theorem dX10_reckon_69 : decode cX10_reckon 69 = .ok (.lload_n 3, 1) := by decide +kernel
theorem dX10_reckon_70 : decode cX10_reckon 70 = .ok (.ladd, 1) := by decide +kernel
theorem dX10_reckon_71 : decode cX10_reckon 71 = .ok (.lreturn, 1) := by decide +kernel
theorem dX10_reckon_72 : decode cX10_reckon 72 = .ok (.lload_n 1, 1) := by decide +kernel
theorem dX10_reckon_73 : decode cX10_reckon 73 = .ok (.lload_n 3, 1) := by decide +kernel
theorem dX10_reckon_74 : decode cX10_reckon 74 = .ok (.lsub, 1) := by decide +kernel
theorem dX10_reckon_75 : decode cX10_reckon 75 = .ok (.lreturn, 1) := by decide +kernel
theorem dX10_reckon_76 : decode cX10_reckon 76 = .ok (.lload_n 1, 1) := by decide +kernel
theorem dX10_reckon_77 : decode cX10_reckon 77 = .ok (.lload_n 3, 1) := by decide +kernel
theorem dX10_reckon_78 : decode cX10_reckon 78 = .ok (.lmul, 1) := by decide +kernel
theorem dX10_reckon_79 : decode cX10_reckon 79 = .ok (.lreturn, 1) := by decide +kernel
theorem dX10_reckon_80 : decode cX10_reckon 80 = .ok (.lload_n 1, 1) := by decide +kernel
theorem dX10_reckon_81 : decode cX10_reckon 81 = .ok (.lload_n 3, 1) := by decide +kernel
theorem dX10_reckon_82 : decode cX10_reckon 82 = .ok (.land, 1) := by decide +kernel
theorem dX10_reckon_83 : decode cX10_reckon 83 = .ok (.lreturn, 1) := by decide +kernel
theorem dX10_reckon_84 : decode cX10_reckon 84 = .ok (.lload_n 1, 1) := by decide +kernel
theorem dX10_reckon_85 : decode cX10_reckon 85 = .ok (.lload_n 3, 1) := by decide +kernel
theorem dX10_reckon_86 : decode cX10_reckon 86 = .ok (.lor, 1) := by decide +kernel
theorem dX10_reckon_87 : decode cX10_reckon 87 = .ok (.lreturn, 1) := by decide +kernel
theorem dX10_reckon_88 : decode cX10_reckon 88 = .ok (.lload_n 1, 1) := by decide +kernel
theorem dX10_reckon_89 : decode cX10_reckon 89 = .ok (.lload_n 3, 1) := by decide +kernel
theorem dX10_reckon_90 : decode cX10_reckon 90 = .ok (.lxor, 1) := by decide +kernel
theorem dX10_reckon_91 : decode cX10_reckon 91 = .ok (.lreturn, 1) := by decide +kernel
theorem dX10_reckon_92 : decode cX10_reckon 92 = .ok (.lload_n 1, 1) := by decide +kernel
theorem dX10_reckon_93 : decode cX10_reckon 93 = .ok (.lload_n 3, 1) := by decide +kernel
theorem dX10_reckon_94 : decode cX10_reckon 94 = .ok (.l2i, 1) := by decide +kernel
theorem dX10_reckon_95 : decode cX10_reckon 95 = .ok (.lshl, 1) := by decide +kernel
theorem dX10_reckon_96 : decode cX10_reckon 96 = .ok (.lreturn, 1) := by decide +kernel
theorem dX10_reckon_97 : decode cX10_reckon 97 = .ok (.lload_n 1, 1) := by decide +kernel
theorem dX10_reckon_98 : decode cX10_reckon 98 = .ok (.lload_n 3, 1) := by decide +kernel
theorem dX10_reckon_99 : decode cX10_reckon 99 = .ok (.l2i, 1) := by decide +kernel
theorem dX10_reckon_100 : decode cX10_reckon 100 = .ok (.lshr, 1) := by decide +kernel
theorem dX10_reckon_101 : decode cX10_reckon 101 = .ok (.lreturn, 1) := by decide +kernel
theorem dX10_reckon_102 : decode cX10_reckon 102 = .ok (.lload_n 1, 1) := by decide +kernel
theorem dX10_reckon_103 : decode cX10_reckon 103 = .ok (.lload_n 3, 1) := by decide +kernel
theorem dX10_reckon_104 : decode cX10_reckon 104 = .ok (.l2i, 1) := by decide +kernel
theorem dX10_reckon_105 : decode cX10_reckon 105 = .ok (.lushr, 1) := by decide +kernel
theorem dX10_reckon_106 : decode cX10_reckon 106 = .ok (.lreturn, 1) := by decide +kernel
theorem dX10_reckon_107 : decode cX10_reckon 107 = .ok (.lload_n 1, 1) := by decide +kernel
theorem dX10_reckon_108 : decode cX10_reckon 108 = .ok (.lload_n 3, 1) := by decide +kernel
theorem dX10_reckon_109 : decode cX10_reckon 109 = .ok (.lcmp, 1) := by decide +kernel
theorem dX10_reckon_110 : decode cX10_reckon 110 = .ok (.ifCond .ne 7, 3) := by decide +kernel
theorem dX10_reckon_113 : decode cX10_reckon 113 = .ok (.lconst 1, 1) := by decide +kernel
theorem dX10_reckon_114 : decode cX10_reckon 114 = .ok (.goto 4, 3) := by decide +kernel
theorem dX10_reckon_117 : decode cX10_reckon 117 = .ok (.lconst 0, 1) := by decide +kernel
theorem dX10_reckon_118 : decode cX10_reckon 118 = .ok (.lreturn, 1) := by decide +kernel
theorem dX10_reckon_119 : decode cX10_reckon 119 = .ok (.lload_n 1, 1) := by decide +kernel
theorem dX10_reckon_120 : decode cX10_reckon 120 = .ok (.lload_n 3, 1) := by decide +kernel
theorem dX10_reckon_121 : decode cX10_reckon 121 = .ok (.lcmp, 1) := by decide +kernel
theorem dX10_reckon_122 : decode cX10_reckon 122 = .ok (.ifCond .ge 7, 3) := by decide +kernel
theorem dX10_reckon_125 : decode cX10_reckon 125 = .ok (.lconst 1, 1) := by decide +kernel
theorem dX10_reckon_126 : decode cX10_reckon 126 = .ok (.goto 4, 3) := by decide +kernel
theorem dX10_reckon_129 : decode cX10_reckon 129 = .ok (.lconst 0, 1) := by decide +kernel
theorem dX10_reckon_130 : decode cX10_reckon 130 = .ok (.lreturn, 1) := by decide +kernel
theorem dX10_reckon_131 : decode cX10_reckon 131 = .ok (.lload_n 1, 1) := by decide +kernel
theorem dX10_reckon_132 : decode cX10_reckon 132 = .ok (.lload_n 3, 1) := by decide +kernel
theorem dX10_reckon_133 : decode cX10_reckon 133 = .ok (.invokestatic 7, 3) := by decide +kernel
theorem dX10_reckon_136 : decode cX10_reckon 136 = .ok (.ifCond .ge 7, 3) := by decide +kernel
theorem dX10_reckon_139 : decode cX10_reckon 139 = .ok (.lconst 1, 1) := by decide +kernel
theorem dX10_reckon_140 : decode cX10_reckon 140 = .ok (.goto 4, 3) := by decide +kernel
theorem dX10_reckon_143 : decode cX10_reckon 143 = .ok (.lconst 0, 1) := by decide +kernel
theorem dX10_reckon_144 : decode cX10_reckon 144 = .ok (.lreturn, 1) := by decide +kernel
theorem dX11_init_0 : decode cX11_init 0 = .ok (.aload_n 0, 1) := by decide +kernel
theorem dX11_init_1 : decode cX11_init 1 = .ok (.invokespecial 1, 3) := by decide +kernel
theorem dX11_init_4 : decode cX11_init 4 = .ok (.aload_n 0, 1) := by decide +kernel
theorem dX11_init_5 : decode cX11_init 5 = .ok (.new 7, 3) := by decide +kernel
theorem dX11_init_8 : decode cX11_init 8 = .ok (.dup, 1) := by decide +kernel
theorem dX11_init_9 : decode cX11_init 9 = .ok (.invokespecial 9, 3) := by decide +kernel
theorem dX11_init_12 : decode cX11_init 12 = .ok (.putfield 10, 3) := by decide +kernel
theorem dX11_init_15 : decode cX11_init 15 = .ok (.aload_n 0, 1) := by decide +kernel
theorem dX11_init_16 : decode cX11_init 16 = .ok (.new 16, 3) := by decide +kernel
theorem dX11_init_19 : decode cX11_init 19 = .ok (.dup, 1) := by decide +kernel
theorem dX11_init_20 : decode cX11_init 20 = .ok (.invokespecial 18, 3) := by decide +kernel
theorem dX11_init_23 : decode cX11_init 23 = .ok (.putfield 19, 3) := by decide +kernel
theorem dX11_init_26 : decode cX11_init 26 = .ok (.aload_n 0, 1) := by decide +kernel
theorem dX11_init_27 : decode cX11_init 27 = .ok (.new 23, 3) := by decide +kernel
theorem dX11_init_30 : decode cX11_init 30 = .ok (.dup, 1) := by decide +kernel
theorem dX11_init_31 : decode cX11_init 31 = .ok (.invokespecial 25, 3) := by decide +kernel
theorem dX11_init_34 : decode cX11_init 34 = .ok (.putfield 26, 3) := by decide +kernel
theorem dX11_init_37 : decode cX11_init 37 = .ok (.aload_n 0, 1) := by decide +kernel
theorem dX11_init_38 : decode cX11_init 38 = .ok (.new 30, 3) := by decide +kernel
theorem dX11_init_41 : decode cX11_init 41 = .ok (.dup, 1) := by decide +kernel
theorem dX11_init_42 : decode cX11_init 42 = .ok (.invokespecial 32, 3) := by decide +kernel
theorem dX11_init_45 : decode cX11_init 45 = .ok (.putfield 33, 3) := by decide +kernel
theorem dX11_init_48 : decode cX11_init 48 = .ok (.aload_n 0, 1) := by decide +kernel
theorem dX11_init_49 : decode cX11_init 49 = .ok (.new 37, 3) := by decide +kernel
theorem dX11_init_52 : decode cX11_init 52 = .ok (.dup, 1) := by decide +kernel
theorem dX11_init_53 : decode cX11_init 53 = .ok (.invokespecial 39, 3) := by decide +kernel
theorem dX11_init_56 : decode cX11_init 56 = .ok (.putfield 40, 3) := by decide +kernel
theorem dX11_init_59 : decode cX11_init 59 = .ok (.aload_n 0, 1) := by decide +kernel
theorem dX11_init_60 : decode cX11_init 60 = .ok (.new 44, 3) := by decide +kernel
theorem dX11_init_63 : decode cX11_init 63 = .ok (.dup, 1) := by decide +kernel
theorem dX11_init_64 : decode cX11_init 64 = .ok (.invokespecial 46, 3) := by decide +kernel
theorem dX11_init_67 : decode cX11_init 67 = .ok (.putfield 47, 3) := by decide +kernel
theorem dX11_init_70 : decode cX11_init 70 = .ok (.aload_n 0, 1) := by decide +kernel
theorem dX11_init_71 : decode cX11_init 71 = .ok (.iconst 0, 1) := by decide +kernel
theorem dX11_init_72 : decode cX11_init 72 = .ok (.putfield 51, 3) := by decide +kernel
theorem dX11_init_75 : decode cX11_init 75 = .ok (.aload_n 0, 1) := by decide +kernel
theorem dX11_init_76 : decode cX11_init 76 = .ok (.iconst (-1), 1) := by decide +kernel
theorem dX11_init_77 : decode cX11_init 77 = .ok (.putfield 55, 3) := by decide +kernel
theorem dX11_init_80 : decode cX11_init 80 = .ok (.return_, 1) := by decide +kernel
theorem dX11_object_0 : decode cX11_object 0 = .ok (.aload_n 0, 1) := by decide +kernel
theorem dX11_object_1 : decode cX11_object 1 = .ok (.getfield 10, 3) := by decide +kernel
theorem dX11_object_4 : decode cX11_object 4 = .ok (.invokeinterface 59 1, 5) := by decide +kernel
theorem dX11_object_9 : decode cX11_object 9 = .ok (.bipush 6, 2) := by decide +kernel
theorem dX11_object_11 : decode cX11_object 11 = .ok (.invokestatic 65, 3) := by decide +kernel
theorem dX11_object_14 : decode cX11_object 14 = .ok (.aload_n 0, 1) := by decide +kernel
theorem dX11_object_15 : decode cX11_object 15 = .ok (.iconst 0, 1) := by decide +kernel
theorem dX11_object_16 : decode cX11_object 16 = .ok (.putfield 51, 3) := by decide +kernel
theorem dX11_object_19 : decode cX11_object 19 = .ok (.aload_n 0, 1) := by decide +kernel
theorem dX11_object_20 : decode cX11_object 20 = .ok (.getfield 10, 3) := by decide +kernel
theorem dX11_object_23 : decode cX11_object 23 = .ok (.new 69, 3) := by decide +kernel
theorem dX11_object_26 : decode cX11_object 26 = .ok (.dup, 1) := by decide +kernel
theorem dX11_object_27 : decode cX11_object 27 = .ok (.invokespecial 71, 3) := by decide +kernel
theorem dX11_object_30 : decode cX11_object 30 = .ok (.invokeinterface 72 2, 5) := by decide +kernel
theorem dX11_object_35 : decode cX11_object 35 = .ok (.pop, 1) := by decide +kernel
theorem dX11_object_36 : decode cX11_object 36 = .ok (.aload_n 0, 1) := by decide +kernel
theorem dX11_object_37 : decode cX11_object 37 = .ok (.getfield 10, 3) := by decide +kernel
theorem dX11_object_40 : decode cX11_object 40 = .ok (.invokeinterface 59 1, 5) := by decide +kernel
theorem dX11_object_45 : decode cX11_object 45 = .ok (.iconst 1, 1) := by decide +kernel
theorem dX11_object_46 : decode cX11_object 46 = .ok (.isub, 1) := by decide +kernel
theorem dX11_object_47 : decode cX11_object 47 = .ok (.ireturn, 1) := by decide +kernel
theorem dX11_function_0 : decode cX11_function 0 = .ok (.aload_n 0, 1) := by decide +kernel
theorem dX11_function_1 : decode cX11_function 1 = .ok (.iload_n 1, 1) := by decide +kernel
theorem dX11_function_2 : decode cX11_function 2 = .ok (.invokevirtual 76, 3) := by decide +kernel
theorem dX11_function_5 : decode cX11_function 5 = .ok (.astore 5, 2) := by decide +kernel
theorem dX11_function_7 : decode cX11_function 7 = .ok (.iload_n 2, 1) := by decide +kernel
theorem dX11_function_8 : decode cX11_function 8 = .ok (.iconst 4, 1) := by decide +kernel
theorem dX11_function_9 : decode cX11_function 9 = .ok (.invokestatic 80, 3) := by decide +kernel
theorem dX11_function_12 : decode cX11_function 12 = .ok (.iload_n 3, 1) := by decide +kernel
theorem dX11_function_13 : decode cX11_function 13 = .ok (.iconst 1, 1) := by decide +kernel
theorem dX11_function_14 : decode cX11_function 14 = .ok (.invokestatic 80, 3) := by decide +kernel
theorem dX11_function_17 : decode cX11_function 17 = .ok (.iload 4, 2) := by decide +kernel
theorem dX11_function_19 : decode cX11_function 19 = .ok (.iconst 4, 1) := by decide +kernel
theorem dX11_function_20 : decode cX11_function 20 = .ok (.invokestatic 80, 3) := by decide +kernel
theorem dX11_function_23 : decode cX11_function 23 = .ok (.aload 5, 2) := by decide +kernel
theorem dX11_function_25 : decode cX11_function 25 = .ok (.getfield 83, 3) := by decide +kernel
theorem dX11_function_28 : decode cX11_function 28 = .ok (.invokeinterface 59 1, 5) := by decide +kernel
theorem dX11_function_33 : decode cX11_function 33 = .ok (.istore 6, 2) := by decide +kernel
theorem dX11_function_35 : decode cX11_function 35 = .ok (.iload 6, 2) := by decide +kernel
theorem dX11_function_37 : decode cX11_function 37 = .ok (.bipush 8, 2) := by decide +kernel
theorem dX11_function_39 : decode cX11_function 39 = .ok (.invokestatic 65, 3) := by decide +kernel
theorem dX11_function_42 : decode cX11_function 42 = .ok (.aload_n 0, 1) := by decide +kernel
theorem dX11_function_43 : decode cX11_function 43 = .ok (.iconst 0, 1) := by decide +kernel
theorem dX11_function_44 : decode cX11_function 44 = .ok (.putfield 51, 3) := by decide +kernel
theorem dX11_function_47 : decode cX11_function 47 = .ok (.aload 5, 2) := by decide +kernel
theorem dX11_function_49 : decode cX11_function 49 = .ok (.getfield 83, 3) := by decide +kernel
theorem dX11_function_52 : decode cX11_function 52 = .ok (.new 86, 3) := by decide +kernel
theorem dX11_function_55 : decode cX11_function 55 = .ok (.dup, 1) := by decide +kernel
theorem dX11_function_56 : decode cX11_function 56 = .ok (.aload 5, 2) := by decide +kernel
theorem dX11_function_58 : decode cX11_function 58 = .ok (.sipush 1000, 3) := by decide +kernel
theorem dX11_function_61 : decode cX11_function 61 = .ok (.iload_n 1, 1) := by decide +kernel
theorem dX11_function_62 : decode cX11_function 62 = .ok (.imul, 1) := by decide +kernel
theorem dX11_function_63 : decode cX11_function 63 = .ok (.bipush 100, 2) := by decide +kernel
theorem dX11_function_65 : decode cX11_function 65 = .ok (.iload 6, 2) := by decide +kernel
theorem dX11_function_67 : decode cX11_function 67 = .ok (.imul, 1) := by decide +kernel
theorem dX11_function_68 : decode cX11_function 68 = .ok (.iadd, 1) := by decide +kernel
theorem dX11_function_69 : decode cX11_function 69 = .ok (.iload_n 2, 1) := by decide +kernel
theorem dX11_function_70 : decode cX11_function 70 = .ok (.iload_n 3, 1) := by decide +kernel
theorem dX11_function_71 : decode cX11_function 71 = .ok (.iload 4, 2) := by decide +kernel
theorem dX11_function_73 : decode cX11_function 73 = .ok (.invokespecial 88, 3) := by decide +kernel
theorem dX11_function_76 : decode cX11_function 76 = .ok (.invokeinterface 72 2, 5) := by decide +kernel
theorem dX11_function_81 : decode cX11_function 81 = .ok (.pop, 1) := by decide +kernel
theorem dX11_function_82 : decode cX11_function 82 = .ok (.iload 6, 2) := by decide +kernel
theorem dX11_function_84 : decode cX11_function 84 = .ok (.ireturn, 1) := by decide +kernel
theorem dX11_code_0 : decode cX11_code 0 = .ok (.aload_n 0, 1) := by decide +kernel
theorem dX11_code_1 : decode cX11_code 1 = .ok (.iload_n 1, 1) := by decide +kernel
theorem dX11_code_2 : decode cX11_code 2 = .ok (.iload_n 2, 1) := by decide +kernel
theorem dX11_code_3 : decode cX11_code 3 = .ok (.invokevirtual 91, 3) := by decide +kernel
theorem dX11_code_6 : decode cX11_code 6 = .ok (.astore 5, 2) := by decide +kernel
theorem dX11_code_8 : decode cX11_code 8 = .ok (.iload_n 3, 1) := by decide +kernel
theorem dX11_code_9 : decode cX11_code 9 = .ok (.bipush 35, 2) := by decide +kernel
theorem dX11_code_11 : decode cX11_code 11 = .ok (.invokestatic 80, 3) := by decide +kernel
theorem dX11_code_14 : decode cX11_code 14 = .ok (.aload 5, 2) := by decide +kernel
theorem dX11_code_16 : decode cX11_code 16 = .ok (.getfield 97, 3) := by decide +kernel
theorem dX11_code_19 : decode cX11_code 19 = .ok (.bipush 60, 2) := by decide +kernel
theorem dX11_code_21 : decode cX11_code 21 = .ok (.invokestatic 65, 3) := by decide +kernel
theorem dX11_code_24 : decode cX11_code 24 = .ok (.aload_n 0, 1) := by decide +kernel
theorem dX11_code_25 : decode cX11_code 25 = .ok (.iconst 0, 1) := by decide +kernel
theorem dX11_code_26 : decode cX11_code 26 = .ok (.putfield 51, 3) := by decide +kernel
theorem dX11_code_29 : decode cX11_code 29 = .ok (.aload 5, 2) := by decide +kernel
theorem dX11_code_31 : decode cX11_code 31 = .ok (.iload_n 3, 1) := by decide +kernel
theorem dX11_code_32 : decode cX11_code 32 = .ok (.iload 4, 2) := by decide +kernel
theorem dX11_code_34 : decode cX11_code 34 = .ok (.invokevirtual 99, 3) := by decide +kernel
theorem dX11_code_37 : decode cX11_code 37 = .ok (.aload 5, 2) := by decide +kernel
theorem dX11_code_39 : decode cX11_code 39 = .ok (.getfield 97, 3) := by decide +kernel
theorem dX11_code_42 : decode cX11_code 42 = .ok (.iconst 1, 1) := by decide +kernel
theorem dX11_code_43 : decode cX11_code 43 = .ok (.isub, 1) := by decide +kernel
theorem dX11_code_44 : decode cX11_code 44 = .ok (.ireturn, 1) := by decide +kernel
theorem dX11_segment_0 : decode cX11_segment 0 = .ok (.aload_n 0, 1) := by decide +kernel
theorem dX11_segment_1 : decode cX11_segment 1 = .ok (.iload_n 1, 1) := by decide +kernel
theorem dX11_segment_2 : decode cX11_segment 2 = .ok (.invokevirtual 76, 3) := by decide +kernel
theorem dX11_segment_5 : decode cX11_segment 5 = .ok (.astore 4, 2) := by decide +kernel
theorem dX11_segment_7 : decode cX11_segment 7 = .ok (.iload_n 2, 1) := by decide +kernel
theorem dX11_segment_8 : decode cX11_segment 8 = .ok (.iconst 1, 1) := by decide +kernel
theorem dX11_segment_9 : decode cX11_segment 9 = .ok (.if_icmp .lt 13, 3) := by decide +kernel
theorem dX11_segment_12 : decode cX11_segment 12 = .ok (.iload_n 2, 1) := by decide +kernel
theorem dX11_segment_13 : decode cX11_segment 13 = .ok (.bipush 64, 2) := by decide +kernel
theorem dX11_segment_15 : decode cX11_segment 15 = .ok (.if_icmp .gt 7, 3) := by decide +kernel
theorem dX11_segment_18 : decode cX11_segment 18 = .ok (.iconst 1, 1) := by decide +kernel
theorem dX11_segment_19 : decode cX11_segment 19 = .ok (.goto 4, 3) := by decide +kernel
theorem dX11_segment_22 : decode cX11_segment 22 = .ok (.iconst 0, 1) := by decide +kernel
theorem dX11_segment_23 : decode cX11_segment 23 = .ok (.invokestatic 102, 3) := by decide +kernel
theorem dX11_segment_26 : decode cX11_segment 26 = .ok (.iload_n 3, 1) := by decide +kernel
theorem dX11_segment_27 : decode cX11_segment 27 = .ok (.iconst 4, 1) := by decide +kernel
theorem dX11_segment_28 : decode cX11_segment 28 = .ok (.invokestatic 80, 3) := by decide +kernel
theorem dX11_segment_31 : decode cX11_segment 31 = .ok (.aload 4, 2) := by decide +kernel
theorem dX11_segment_33 : decode cX11_segment 33 = .ok (.getfield 106, 3) := by decide +kernel
theorem dX11_segment_36 : decode cX11_segment 36 = .ok (.invokeinterface 59 1, 5) := by decide +kernel
theorem dX11_segment_41 : decode cX11_segment 41 = .ok (.istore 5, 2) := by decide +kernel
theorem dX11_segment_43 : decode cX11_segment 43 = .ok (.iload 5, 2) := by decide +kernel
theorem dX11_segment_45 : decode cX11_segment 45 = .ok (.iconst 4, 1) := by decide +kernel
theorem dX11_segment_46 : decode cX11_segment 46 = .ok (.invokestatic 65, 3) := by decide +kernel
theorem dX11_segment_49 : decode cX11_segment 49 = .ok (.aload_n 0, 1) := by decide +kernel
theorem dX11_segment_50 : decode cX11_segment 50 = .ok (.iconst 0, 1) := by decide +kernel
theorem dX11_segment_51 : decode cX11_segment 51 = .ok (.putfield 51, 3) := by decide +kernel
theorem dX11_segment_54 : decode cX11_segment 54 = .ok (.aload 4, 2) := by decide +kernel
theorem dX11_segment_56 : decode cX11_segment 56 = .ok (.getfield 106, 3) := by decide +kernel
theorem dX11_segment_59 : decode cX11_segment 59 = .ok (.new 109, 3) := by decide +kernel
theorem dX11_segment_62 : decode cX11_segment 62 = .ok (.dup, 1) := by decide +kernel
theorem dX11_segment_63 : decode cX11_segment 63 = .ok (.iload_n 2, 1) := by decide +kernel
theorem dX11_segment_64 : decode cX11_segment 64 = .ok (.iload_n 3, 1) := by decide +kernel
theorem dX11_segment_65 : decode cX11_segment 65 = .ok (.invokespecial 111, 3) := by decide +kernel
theorem dX11_segment_68 : decode cX11_segment 68 = .ok (.invokeinterface 72 2, 5) := by decide +kernel
theorem dX11_segment_73 : decode cX11_segment 73 = .ok (.pop, 1) := by decide +kernel
theorem dX11_segment_74 : decode cX11_segment 74 = .ok (.iload 5, 2) := by decide +kernel
theorem dX11_segment_76 : decode cX11_segment 76 = .ok (.ireturn, 1) := by decide +kernel
theorem dX11_fill_0 : decode cX11_fill 0 = .ok (.aload_n 0, 1) := by decide +kernel
theorem dX11_fill_1 : decode cX11_fill 1 = .ok (.iload_n 1, 1) := by decide +kernel
theorem dX11_fill_2 : decode cX11_fill 2 = .ok (.invokevirtual 76, 3) := by decide +kernel
theorem dX11_fill_5 : decode cX11_fill 5 = .ok (.iload_n 2, 1) := by decide +kernel
theorem dX11_fill_6 : decode cX11_fill 6 = .ok (.invokevirtual 113, 3) := by decide +kernel
theorem dX11_fill_9 : decode cX11_fill 9 = .ok (.astore 6, 2) := by decide +kernel
theorem dX11_fill_11 : decode cX11_fill 11 = .ok (.aload 6, 2) := by decide +kernel
theorem dX11_fill_13 : decode cX11_fill 13 = .ok (.ifnull 21, 3) := by decide +kernel
theorem dX11_fill_16 : decode cX11_fill 16 = .ok (.iload_n 3, 1) := by decide +kernel
theorem dX11_fill_17 : decode cX11_fill 17 = .ok (.ifCond .lt 17, 3) := by decide +kernel
theorem dX11_fill_20 : decode cX11_fill 20 = .ok (.iload_n 3, 1) := by decide +kernel
theorem dX11_fill_21 : decode cX11_fill 21 = .ok (.aload 6, 2) := by decide +kernel
theorem dX11_fill_23 : decode cX11_fill 23 = .ok (.getfield 117, 3) := by decide +kernel
theorem dX11_fill_26 : decode cX11_fill 26 = .ok (.arraylength, 1) := by decide +kernel
theorem dX11_fill_27 : decode cX11_fill 27 = .ok (.if_icmp .ge 7, 3) := by decide +kernel
theorem dX11_fill_30 : decode cX11_fill 30 = .ok (.iconst 1, 1) := by decide +kernel
theorem dX11_fill_31 : decode cX11_fill 31 = .ok (.goto 4, 3) := by decide +kernel
theorem dX11_fill_34 : decode cX11_fill 34 = .ok (.iconst 0, 1) := by decide +kernel
theorem dX11_fill_35 : decode cX11_fill 35 = .ok (.invokestatic 102, 3) := by decide +kernel
theorem dX11_fill_38 : decode cX11_fill 38 = .ok (.aload_n 0, 1) := by decide +kernel
theorem dX11_fill_39 : decode cX11_fill 39 = .ok (.iconst 0, 1) := by decide +kernel
theorem dX11_fill_40 : decode cX11_fill 40 = .ok (.putfield 51, 3) := by decide +kernel
theorem dX11_fill_43 : decode cX11_fill 43 = .ok (.aload 6, 2) := by decide +kernel
theorem dX11_fill_45 : decode cX11_fill 45 = .ok (.getfield 117, 3) := by decide +kernel
theorem dX11_fill_48 : decode cX11_fill 48 = .ok (.iload_n 3, 1) := by decide +kernel
theorem dX11_fill_49 : decode cX11_fill 49 = .ok (.bipush 8, 2) := by decide +kernel
theorem dX11_fill_51 : decode cX11_fill 51 = .ok (.aload 6, 2) := by decide +kernel
theorem dX11_fill_53 : decode cX11_fill 53 = .ok (.getfield 117, 3) := by decide +kernel
theorem dX11_fill_56 : decode cX11_fill 56 = .ok (.arraylength, 1) := by decide +kernel
theorem dX11_fill_57 : decode cX11_fill 57 = .ok (.iload_n 3, 1) := by decide +kernel
theorem dX11_fill_58 : decode cX11_fill 58 = .ok (.isub, 1) := by decide +kernel
theorem dX11_fill_59 : decode cX11_fill 59 = .ok (.invokestatic 121, 3) := by decide +kernel
theorem dX11_fill_62 : decode cX11_fill 62 = .ok (.lload 4, 2) := by decide +kernel
theorem dX11_fill_64 : decode cX11_fill 64 = .ok (.invokestatic 127, 3) := by decide +kernel
theorem dX11_fill_67 : decode cX11_fill 67 = .ok (.return_, 1) := by decide +kernel
theorem dX11_symbol_0 : decode cX11_symbol 0 = .ok (.aload_n 0, 1) := by decide +kernel
theorem dX11_symbol_1 : decode cX11_symbol 1 = .ok (.iload_n 1, 1) := by decide +kernel
theorem dX11_symbol_2 : decode cX11_symbol 2 = .ok (.invokevirtual 76, 3) := by decide +kernel
theorem dX11_symbol_5 : decode cX11_symbol 5 = .ok (.astore 7, 2) := by decide +kernel
theorem dX11_symbol_7 : decode cX11_symbol 7 = .ok (.iload_n 2, 1) := by decide +kernel
theorem dX11_symbol_8 : decode cX11_symbol 8 = .ok (.bipush 30, 2) := by decide +kernel
theorem dX11_symbol_10 : decode cX11_symbol 10 = .ok (.invokestatic 80, 3) := by decide +kernel
theorem dX11_symbol_13 : decode cX11_symbol 13 = .ok (.iload_n 3, 1) := by decide +kernel
theorem dX11_symbol_14 : decode cX11_symbol 14 = .ok (.iconst 1, 1) := by decide +kernel
theorem dX11_symbol_15 : decode cX11_symbol 15 = .ok (.invokestatic 80, 3) := by decide +kernel
theorem dX11_symbol_18 : decode cX11_symbol 18 = .ok (.iload 4, 2) := by decide +kernel
theorem dX11_symbol_20 : decode cX11_symbol 20 = .ok (.iconst 2, 1) := by decide +kernel
theorem dX11_symbol_21 : decode cX11_symbol 21 = .ok (.invokestatic 80, 3) := by decide +kernel
theorem dX11_symbol_24 : decode cX11_symbol 24 = .ok (.iload_n 3, 1) := by decide +kernel
theorem dX11_symbol_25 : decode cX11_symbol 25 = .ok (.ifCond .ne 13, 3) := by decide +kernel
theorem dX11_symbol_28 : decode cX11_symbol 28 = .ok (.aload 7, 2) := by decide +kernel
theorem dX11_symbol_30 : decode cX11_symbol 30 = .ok (.iload 5, 2) := by decide +kernel
theorem dX11_symbol_32 : decode cX11_symbol 32 = .ok (.invokevirtual 131, 3) := by decide +kernel
theorem dX11_symbol_35 : decode cX11_symbol 35 = .ok (.goto 4, 3) := by decide +kernel
theorem dX11_symbol_38 : decode cX11_symbol 38 = .ok (.aconst_null, 1) := by decide +kernel
theorem dX11_symbol_39 : decode cX11_symbol 39 = .ok (.astore 8, 2) := by decide +kernel
theorem dX11_symbol_41 : decode cX11_symbol 41 = .ok (.iload_n 3, 1) := by decide +kernel
theorem dX11_symbol_42 : decode cX11_symbol 42 = .ok (.iconst 1, 1) := by decide +kernel
theorem dX11_symbol_43 : decode cX11_symbol 43 = .ok (.if_icmp .ne 13, 3) := by decide +kernel
theorem dX11_symbol_46 : decode cX11_symbol 46 = .ok (.aload 7, 2) := by decide +kernel
theorem dX11_symbol_48 : decode cX11_symbol 48 = .ok (.iload 5, 2) := by decide +kernel
theorem dX11_symbol_50 : decode cX11_symbol 50 = .ok (.invokevirtual 113, 3) := by decide +kernel
theorem dX11_symbol_53 : decode cX11_symbol 53 = .ok (.goto 4, 3) := by decide +kernel
theorem dX11_symbol_56 : decode cX11_symbol 56 = .ok (.aconst_null, 1) := by decide +kernel
theorem dX11_symbol_57 : decode cX11_symbol 57 = .ok (.astore 9, 2) := by decide +kernel
theorem dX11_symbol_59 : decode cX11_symbol 59 = .ok (.iload 5, 2) := by decide +kernel
theorem dX11_symbol_61 : decode cX11_symbol 61 = .ok (.iconst (-1), 1) := by decide +kernel
theorem dX11_symbol_62 : decode cX11_symbol 62 = .ok (.if_icmp .eq 13, 3) := by decide +kernel
theorem dX11_symbol_65 : decode cX11_symbol 65 = .ok (.aload 8, 2) := by decide +kernel
theorem dX11_symbol_67 : decode cX11_symbol 67 = .ok (.ifnonnull 8, 3) := by decide +kernel
theorem dX11_symbol_70 : decode cX11_symbol 70 = .ok (.aload 9, 2) := by decide +kernel
theorem dX11_symbol_72 : decode cX11_symbol 72 = .ok (.ifnull 7, 3) := by decide +kernel
theorem dX11_symbol_75 : decode cX11_symbol 75 = .ok (.iconst 1, 1) := by decide +kernel
theorem dX11_symbol_76 : decode cX11_symbol 76 = .ok (.goto 4, 3) := by decide +kernel
theorem dX11_symbol_79 : decode cX11_symbol 79 = .ok (.iconst 0, 1) := by decide +kernel
theorem dX11_symbol_80 : decode cX11_symbol 80 = .ok (.invokestatic 102, 3) := by decide +kernel
theorem dX11_symbol_83 : decode cX11_symbol 83 = .ok (.iload 6, 2) := by decide +kernel
theorem dX11_symbol_85 : decode cX11_symbol 85 = .ok (.iload_n 3, 1) := by decide +kernel
theorem dX11_symbol_86 : decode cX11_symbol 86 = .ok (.aload 8, 2) := by decide +kernel
theorem dX11_symbol_88 : decode cX11_symbol 88 = .ok (.aload 9, 2) := by decide +kernel
theorem dX11_symbol_90 : decode cX11_symbol 90 = .ok (.invokestatic 134, 3) := by decide +kernel
theorem dX11_symbol_93 : decode cX11_symbol 93 = .ok (.invokestatic 80, 3) := by decide +kernel
theorem dX11_symbol_96 : decode cX11_symbol 96 = .ok (.aload 7, 2) := by decide +kernel
theorem dX11_symbol_98 : decode cX11_symbol 98 = .ok (.getfield 138, 3) := by decide +kernel
theorem dX11_symbol_101 : decode cX11_symbol 101 = .ok (.invokeinterface 59 1, 5) := by decide +kernel
theorem dX11_symbol_106 : decode cX11_symbol 106 = .ok (.istore 10, 2) := by decide +kernel
theorem dX11_symbol_108 : decode cX11_symbol 108 = .ok (.iload 10, 2) := by decide +kernel
theorem dX11_symbol_110 : decode cX11_symbol 110 = .ok (.bipush 16, 2) := by decide +kernel
theorem dX11_symbol_112 : decode cX11_symbol 112 = .ok (.invokestatic 65, 3) := by decide +kernel
theorem dX11_symbol_115 : decode cX11_symbol 115 = .ok (.aload_n 0, 1) := by decide +kernel
theorem dX11_symbol_116 : decode cX11_symbol 116 = .ok (.iconst 0, 1) := by decide +kernel
theorem dX11_symbol_117 : decode cX11_symbol 117 = .ok (.putfield 51, 3) := by decide +kernel
theorem dX11_symbol_120 : decode cX11_symbol 120 = .ok (.aload 7, 2) := by decide +kernel
theorem dX11_symbol_122 : decode cX11_symbol 122 = .ok (.getfield 138, 3) := by decide +kernel
theorem dX11_symbol_125 : decode cX11_symbol 125 = .ok (.new 141, 3) := by decide +kernel
theorem dX11_symbol_128 : decode cX11_symbol 128 = .ok (.dup, 1) := by decide +kernel
theorem dX11_symbol_129 : decode cX11_symbol 129 = .ok (.bipush 100, 2) := by decide +kernel
theorem dX11_symbol_131 : decode cX11_symbol 131 = .ok (.iload_n 1, 1) := by decide +kernel
theorem dX11_symbol_132 : decode cX11_symbol 132 = .ok (.imul, 1) := by decide +kernel
theorem dX11_symbol_133 : decode cX11_symbol 133 = .ok (.iload 10, 2) := by decide +kernel
theorem dX11_symbol_135 : decode cX11_symbol 135 = .ok (.iadd, 1) := by decide +kernel
theorem dX11_symbol_136 : decode cX11_symbol 136 = .ok (.iload_n 2, 1) := by decide +kernel
theorem dX11_symbol_137 : decode cX11_symbol 137 = .ok (.iload_n 3, 1) := by decide +kernel
theorem dX11_symbol_138 : decode cX11_symbol 138 = .ok (.iload 4, 2) := by decide +kernel
theorem dX11_symbol_140 : decode cX11_symbol 140 = .ok (.aload 8, 2) := by decide +kernel
theorem dX11_symbol_142 : decode cX11_symbol 142 = .ok (.aload 9, 2) := by decide +kernel
theorem dX11_symbol_144 : decode cX11_symbol 144 = .ok (.iload 6, 2) := by decide +kernel
theorem dX11_symbol_146 : decode cX11_symbol 146 = .ok (.invokespecial 143, 3) := by decide +kernel
theorem dX11_symbol_149 : decode cX11_symbol 149 = .ok (.invokeinterface 72 2, 5) := by decide +kernel
theorem dX11_symbol_154 : decode cX11_symbol 154 = .ok (.pop, 1) := by decide +kernel
theorem dX11_symbol_155 : decode cX11_symbol 155 = .ok (.iload 10, 2) := by decide +kernel
theorem dX11_symbol_157 : decode cX11_symbol 157 = .ok (.ireturn, 1) := by decide +kernel
theorem dX11_link_0 : decode cX11_link 0 = .ok (.aload_n 0, 1) := by decide +kernel
theorem dX11_link_1 : decode cX11_link 1 = .ok (.getfield 10, 3) := by decide +kernel
theorem dX11_link_4 : decode cX11_link 4 = .ok (.invokeinterface 146 1, 5) := by decide +kernel
theorem dX11_link_9 : decode cX11_link 9 = .ok (.ifCond .ne 7, 3) := by decide +kernel
theorem dX11_link_12 : decode cX11_link 12 = .ok (.iconst 1, 1) := by decide +kernel
theorem dX11_link_13 : decode cX11_link 13 = .ok (.goto 4, 3) := by decide +kernel
theorem dX11_link_16 : decode cX11_link 16 = .ok (.iconst 0, 1) := by decide +kernel
theorem dX11_link_17 : decode cX11_link 17 = .ok (.invokestatic 150, 3) := by decide +kernel
theorem dX11_link_20 : decode cX11_link 20 = .ok (.aload_n 0, 1) := by decide +kernel
theorem dX11_link_21 : decode cX11_link 21 = .ok (.getfield 33, 3) := by decide +kernel
theorem dX11_link_24 : decode cX11_link 24 = .ok (.aload_n 0, 1) := by decide +kernel
theorem dX11_link_25 : decode cX11_link 25 = .ok (.getfield 10, 3) := by decide +kernel
theorem dX11_link_28 : decode cX11_link 28 = .ok (.invokevirtual 153, 3) := by decide +kernel
theorem dX11_link_31 : decode cX11_link 31 = .ok (.aload_n 0, 1) := by decide +kernel
theorem dX11_link_32 : decode cX11_link 32 = .ok (.getfield 19, 3) := by decide +kernel
theorem dX11_link_35 : decode cX11_link 35 = .ok (.aload_n 0, 1) := by decide +kernel
theorem dX11_link_36 : decode cX11_link 36 = .ok (.getfield 33, 3) := by decide +kernel
theorem dX11_link_39 : decode cX11_link 39 = .ok (.getfield 157, 3) := by decide +kernel
theorem dX11_link_42 : decode cX11_link 42 = .ok (.invokevirtual 158, 3) := by decide +kernel
theorem dX11_link_45 : decode cX11_link 45 = .ok (.iconst 0, 1) := by decide +kernel
theorem dX11_link_46 : decode cX11_link 46 = .ok (.istore_n 1, 1) := by decide +kernel
theorem dX11_link_47 : decode cX11_link 47 = .ok (.aload_n 0, 1) := by decide +kernel
theorem dX11_link_48 : decode cX11_link 48 = .ok (.iconst (-1), 1) := by decide +kernel
theorem dX11_link_49 : decode cX11_link 49 = .ok (.putfield 55, 3) := by decide +kernel
theorem dX11_link_52 : decode cX11_link 52 = .ok (.iconst 1, 1) := by decide +kernel
theorem dX11_link_53 : decode cX11_link 53 = .ok (.istore_n 2, 1) := by decide +kernel
theorem dX11_link_54 : decode cX11_link 54 = .ok (.iload_n 2, 1) := by decide +kernel
theorem dX11_link_55 : decode cX11_link 55 = .ok (.bipush 7, 2) := by decide +kernel
theorem dX11_link_57 : decode cX11_link 57 = .ok (.if_icmp .gt 40, 3) := by decide +kernel
theorem dX11_link_60 : decode cX11_link 60 = .ok (.aload_n 0, 1) := by decide +kernel
theorem dX11_link_61 : decode cX11_link 61 = .ok (.getfield 55, 3) := by decide +kernel
theorem dX11_link_64 : decode cX11_link 64 = .ok (.iconst (-1), 1) := by decide +kernel
theorem dX11_link_65 : decode cX11_link 65 = .ok (.if_icmp .ne 32, 3) := by decide +kernel
theorem dX11_link_68 : decode cX11_link 68 = .ok (.aload_n 0, 1) := by decide +kernel
theorem dX11_link_69 : decode cX11_link 69 = .ok (.aload_n 0, 1) := by decide +kernel
theorem dX11_link_70 : decode cX11_link 70 = .ok (.iload_n 2, 1) := by decide +kernel
theorem dX11_link_71 : decode cX11_link 71 = .ok (.invokevirtual 161, 3) := by decide +kernel
theorem dX11_link_74 : decode cX11_link 74 = .ok (.putfield 55, 3) := by decide +kernel
theorem dX11_link_77 : decode cX11_link 77 = .ok (.aload_n 0, 1) := by decide +kernel
theorem dX11_link_78 : decode cX11_link 78 = .ok (.getfield 55, 3) := by decide +kernel
theorem dX11_link_81 : decode cX11_link 81 = .ok (.iconst (-1), 1) := by decide +kernel
theorem dX11_link_82 : decode cX11_link 82 = .ok (.if_icmp .ne 7, 3) := by decide +kernel
theorem dX11_link_85 : decode cX11_link 85 = .ok (.iconst 0, 1) := by decide +kernel
theorem dX11_link_86 : decode cX11_link 86 = .ok (.goto 4, 3) := by decide +kernel
theorem dX11_link_89 : decode cX11_link 89 = .ok (.iload_n 2, 1) := by decide +kernel
theorem dX11_link_90 : decode cX11_link 90 = .ok (.istore_n 1, 1) := by decide +kernel
theorem dX11_link_91 : decode cX11_link 91 = .ok (.iinc 2 1, 3) := by decide +kernel
theorem dX11_link_94 : decode cX11_link 94 = .ok (.goto (-40), 3) := by decide +kernel
theorem dX11_link_97 : decode cX11_link 97 = .ok (.aload_n 0, 1) := by decide +kernel
theorem dX11_link_98 : decode cX11_link 98 = .ok (.iload_n 1, 1) := by decide +kernel
theorem dX11_link_99 : decode cX11_link 99 = .ok (.ifCond .ne 7, 3) := by decide +kernel
theorem dX11_link_102 : decode cX11_link 102 = .ok (.iconst 1, 1) := by decide +kernel
theorem dX11_link_103 : decode cX11_link 103 = .ok (.goto 4, 3) := by decide +kernel
theorem dX11_link_106 : decode cX11_link 106 = .ok (.iconst 0, 1) := by decide +kernel
theorem dX11_link_107 : decode cX11_link 107 = .ok (.putfield 51, 3) := by decide +kernel
theorem dX11_link_110 : decode cX11_link 110 = .ok (.aload_n 0, 1) := by decide +kernel
theorem dX11_link_111 : decode cX11_link 111 = .ok (.getfield 51, 3) := by decide +kernel
theorem dX11_link_114 : decode cX11_link 114 = .ok (.ifCond .eq 21, 3) := by decide +kernel
theorem dX11_link_117 : decode cX11_link 117 = .ok (.aload_n 0, 1) := by decide +kernel
theorem dX11_link_118 : decode cX11_link 118 = .ok (.getfield 33, 3) := by decide +kernel
theorem dX11_link_121 : decode cX11_link 121 = .ok (.invokevirtual 165, 3) := by decide +kernel
theorem dX11_link_124 : decode cX11_link 124 = .ok (.aload_n 0, 1) := by decide +kernel
theorem dX11_link_125 : decode cX11_link 125 = .ok (.getfield 40, 3) := by decide +kernel
theorem dX11_link_128 : decode cX11_link 128 = .ok (.aload_n 0, 1) := by decide +kernel
theorem dX11_link_129 : decode cX11_link 129 = .ok (.getfield 33, 3) := by decide +kernel
theorem dX11_link_132 : decode cX11_link 132 = .ok (.invokevirtual 168, 3) := by decide +kernel
theorem dX11_link_135 : decode cX11_link 135 = .ok (.iload_n 1, 1) := by decide +kernel
theorem dX11_link_136 : decode cX11_link 136 = .ok (.ireturn, 1) := by decide +kernel
theorem dX11_place_0 : decode cX11_place 0 = .ok (.aload_n 0, 1) := by decide +kernel
theorem dX11_place_1 : decode cX11_place 1 = .ok (.getfield 55, 3) := by decide +kernel
theorem dX11_place_4 : decode cX11_place 4 = .ok (.ireturn, 1) := by decide +kernel
theorem dX11_count_0 : decode cX11_count 0 = .ok (.iload_n 1, 1) := by decide +kernel
theorem dX11_count_1 : decode cX11_count 1 = .ok (.iconst 4, 1) := by decide +kernel
theorem dX11_count_2 : decode cX11_count 2 = .ok (.invokestatic 80, 3) := by decide +kernel
theorem dX11_count_5 : decode cX11_count 5 = .ok (.aload_n 0, 1) := by decide +kernel
theorem dX11_count_6 : decode cX11_count 6 = .ok (.getfield 51, 3) := by decide +kernel
theorem dX11_count_9 : decode cX11_count 9 = .ok (.invokestatic 150, 3) := by decide +kernel
theorem dX11_count_12 : decode cX11_count 12 = .ok (.iload_n 1, 1) := by decide +kernel
theorem dX11_count_13 : decode cX11_count 13 = .ok (.tableswitch 76 0 3 #[31, 42, 55, 63], 31) := by decide +kernel
theorem dX11_count_44 : decode cX11_count 44 = .ok (.aload_n 0, 1) := by decide +kernel
theorem dX11_count_45 : decode cX11_count 45 = .ok (.getfield 40, 3) := by decide +kernel
theorem dX11_count_48 : decode cX11_count 48 = .ok (.getfield 172, 3) := by decide +kernel
theorem dX11_count_51 : decode cX11_count 51 = .ok (.getfield 176, 3) := by decide +kernel
theorem dX11_count_54 : decode cX11_count 54 = .ok (.ireturn, 1) := by decide +kernel
theorem dX11_count_55 : decode cX11_count 55 = .ok (.aload_n 0, 1) := by decide +kernel
theorem dX11_count_56 : decode cX11_count 56 = .ok (.getfield 33, 3) := by decide +kernel
theorem dX11_count_59 : decode cX11_count 59 = .ok (.getfield 179, 3) := by decide +kernel
theorem dX11_count_62 : decode cX11_count 62 = .ok (.invokeinterface 59 1, 5) := by decide +kernel
theorem dX11_count_67 : decode cX11_count 67 = .ok (.ireturn, 1) := by decide +kernel
theorem dX11_count_68 : decode cX11_count 68 = .ok (.aload_n 0, 1) := by decide +kernel
theorem dX11_count_69 : decode cX11_count 69 = .ok (.getfield 33, 3) := by decide +kernel
theorem dX11_count_72 : decode cX11_count 72 = .ok (.getfield 180, 3) := by decide +kernel
theorem dX11_count_75 : decode cX11_count 75 = .ok (.ireturn, 1) := by decide +kernel
theorem dX11_count_76 : decode cX11_count 76 = .ok (.aload_n 0, 1) := by decide +kernel
theorem dX11_count_77 : decode cX11_count 77 = .ok (.getfield 33, 3) := by decide +kernel
theorem dX11_count_80 : decode cX11_count 80 = .ok (.getfield 183, 3) := by decide +kernel
theorem dX11_count_83 : decode cX11_count 83 = .ok (.invokeinterface 59 1, 5) := by decide +kernel
theorem dX11_count_88 : decode cX11_count 88 = .ok (.ireturn, 1) := by decide +kernel
theorem dX11_count_89 : decode cX11_count 89 = .ok (.aload_n 0, 1) := by decide +kernel
theorem dX11_count_90 : decode cX11_count 90 = .ok (.getfield 33, 3) := by decide +kernel
theorem dX11_count_93 : decode cX11_count 93 = .ok (.getfield 186, 3) := by decide +kernel
theorem dX11_count_96 : decode cX11_count 96 = .ok (.ireturn, 1) := by decide +kernel
theorem dX11_byteAt_0 : decode cX11_byteAt 0 = .ok (.iload_n 1, 1) := by decide +kernel
theorem dX11_byteAt_1 : decode cX11_byteAt 1 = .ok (.ifCond .lt 28, 3) := by decide +kernel
theorem dX11_byteAt_4 : decode cX11_byteAt 4 = .ok (.aload_n 0, 1) := by decide +kernel
theorem dX11_byteAt_5 : decode cX11_byteAt 5 = .ok (.getfield 51, 3) := by decide +kernel
theorem dX11_byteAt_8 : decode cX11_byteAt 8 = .ok (.ifCond .eq 17, 3) := by decide +kernel
theorem dX11_byteAt_11 : decode cX11_byteAt 11 = .ok (.iload_n 1, 1) := by decide +kernel
theorem dX11_byteAt_12 : decode cX11_byteAt 12 = .ok (.aload_n 0, 1) := by decide +kernel
theorem dX11_byteAt_13 : decode cX11_byteAt 13 = .ok (.getfield 40, 3) := by decide +kernel
theorem dX11_byteAt_16 : decode cX11_byteAt 16 = .ok (.getfield 172, 3) := by decide +kernel
theorem dX11_byteAt_19 : decode cX11_byteAt 19 = .ok (.getfield 176, 3) := by decide +kernel
theorem dX11_byteAt_22 : decode cX11_byteAt 22 = .ok (.if_icmp .ge 7, 3) := by decide +kernel
theorem dX11_byteAt_25 : decode cX11_byteAt 25 = .ok (.iconst 1, 1) := by decide +kernel
theorem dX11_byteAt_26 : decode cX11_byteAt 26 = .ok (.goto 4, 3) := by decide +kernel
theorem dX11_byteAt_29 : decode cX11_byteAt 29 = .ok (.iconst 0, 1) := by decide +kernel
theorem dX11_byteAt_30 : decode cX11_byteAt 30 = .ok (.invokestatic 102, 3) := by decide +kernel
theorem dX11_byteAt_33 : decode cX11_byteAt 33 = .ok (.aload_n 0, 1) := by decide +kernel
theorem dX11_byteAt_34 : decode cX11_byteAt 34 = .ok (.getfield 51, 3) := by decide +kernel
theorem dX11_byteAt_37 : decode cX11_byteAt 37 = .ok (.invokestatic 150, 3) := by decide +kernel
theorem dX11_byteAt_40 : decode cX11_byteAt 40 = .ok (.aload_n 0, 1) := by decide +kernel
theorem dX11_byteAt_41 : decode cX11_byteAt 41 = .ok (.getfield 40, 3) := by decide +kernel
theorem dX11_byteAt_44 : decode cX11_byteAt 44 = .ok (.getfield 172, 3) := by decide +kernel
theorem dX11_byteAt_47 : decode cX11_byteAt 47 = .ok (.getfield 189, 3) := by decide +kernel
theorem dX11_byteAt_50 : decode cX11_byteAt 50 = .ok (.iload_n 1, 1) := by decide +kernel
theorem dX11_byteAt_51 : decode cX11_byteAt 51 = .ok (.baload, 1) := by decide +kernel
theorem dX11_byteAt_52 : decode cX11_byteAt 52 = .ok (.sipush 255, 3) := by decide +kernel
theorem dX11_byteAt_55 : decode cX11_byteAt 55 = .ok (.iand, 1) := by decide +kernel
theorem dX11_byteAt_56 : decode cX11_byteAt 56 = .ok (.ireturn, 1) := by decide +kernel
theorem dX11_meant_0 : decode cX11_meant 0 = .ok (.aload_n 0, 1) := by decide +kernel
theorem dX11_meant_1 : decode cX11_meant 1 = .ok (.iload_n 1, 1) := by decide +kernel
theorem dX11_meant_2 : decode cX11_meant 2 = .ok (.invokevirtual 76, 3) := by decide +kernel
theorem dX11_meant_5 : decode cX11_meant 5 = .ok (.iload_n 2, 1) := by decide +kernel
theorem dX11_meant_6 : decode cX11_meant 6 = .ok (.invokevirtual 192, 3) := by decide +kernel
theorem dX11_meant_9 : decode cX11_meant 9 = .ok (.astore 4, 2) := by decide +kernel
theorem dX11_meant_11 : decode cX11_meant 11 = .ok (.aload 4, 2) := by decide +kernel
theorem dX11_meant_13 : decode cX11_meant 13 = .ok (.ifnull 7, 3) := by decide +kernel
theorem dX11_meant_16 : decode cX11_meant 16 = .ok (.iconst 1, 1) := by decide +kernel
theorem dX11_meant_17 : decode cX11_meant 17 = .ok (.goto 4, 3) := by decide +kernel
theorem dX11_meant_20 : decode cX11_meant 20 = .ok (.iconst 0, 1) := by decide +kernel
theorem dX11_meant_21 : decode cX11_meant 21 = .ok (.invokestatic 102, 3) := by decide +kernel
theorem dX11_meant_24 : decode cX11_meant 24 = .ok (.iload_n 3, 1) := by decide +kernel
theorem dX11_meant_25 : decode cX11_meant 25 = .ok (.iconst 1, 1) := by decide +kernel
theorem dX11_meant_26 : decode cX11_meant 26 = .ok (.invokestatic 80, 3) := by decide +kernel
theorem dX11_meant_29 : decode cX11_meant 29 = .ok (.aload_n 0, 1) := by decide +kernel
theorem dX11_meant_30 : decode cX11_meant 30 = .ok (.getfield 51, 3) := by decide +kernel
theorem dX11_meant_33 : decode cX11_meant 33 = .ok (.invokestatic 150, 3) := by decide +kernel
theorem dX11_meant_36 : decode cX11_meant 36 = .ok (.iload_n 3, 1) := by decide +kernel
theorem dX11_meant_37 : decode cX11_meant 37 = .ok (.iconst 1, 1) := by decide +kernel
theorem dX11_meant_38 : decode cX11_meant 38 = .ok (.if_icmp .ne 9, 3) := by decide +kernel
theorem dX11_meant_41 : decode cX11_meant 41 = .ok (.aload 4, 2) := by decide +kernel
theorem dX11_meant_43 : decode cX11_meant 43 = .ok (.invokevirtual 196, 3) := by decide +kernel
theorem dX11_meant_46 : decode cX11_meant 46 = .ok (.ireturn, 1) := by decide +kernel
theorem dX11_meant_47 : decode cX11_meant 47 = .ok (.aload 4, 2) := by decide +kernel
theorem dX11_meant_49 : decode cX11_meant 49 = .ok (.getfield 199, 3) := by decide +kernel
theorem dX11_meant_52 : decode cX11_meant 52 = .ok (.iconst 1, 1) := by decide +kernel
theorem dX11_meant_53 : decode cX11_meant 53 = .ok (.if_icmp .ne 9, 3) := by decide +kernel
theorem dX11_meant_56 : decode cX11_meant 56 = .ok (.aload 4, 2) := by decide +kernel
theorem dX11_meant_58 : decode cX11_meant 58 = .ok (.invokevirtual 202, 3) := by decide +kernel
theorem dX11_meant_61 : decode cX11_meant 61 = .ok (.ireturn, 1) := by decide +kernel
theorem dX11_meant_62 : decode cX11_meant 62 = .ok (.aload 4, 2) := by decide +kernel
theorem dX11_meant_64 : decode cX11_meant 64 = .ok (.invokevirtual 205, 3) := by decide +kernel
theorem dX11_meant_67 : decode cX11_meant 67 = .ok (.astore 5, 2) := by decide +kernel
theorem dX11_meant_69 : decode cX11_meant 69 = .ok (.aload 5, 2) := by decide +kernel
theorem dX11_meant_71 : decode cX11_meant 71 = .ok (.ifnonnull 7, 3) := by decide +kernel
theorem dX11_meant_74 : decode cX11_meant 74 = .ok (.iconst (-1), 1) := by decide +kernel
theorem dX11_meant_75 : decode cX11_meant 75 = .ok (.goto 8, 3) := by decide +kernel
theorem dX11_meant_78 : decode cX11_meant 78 = .ok (.aload 5, 2) := by decide +kernel
theorem dX11_meant_80 : decode cX11_meant 80 = .ok (.getfield 209, 3) := by decide +kernel
theorem dX11_meant_83 : decode cX11_meant 83 = .ok (.ireturn, 1) := by decide +kernel
theorem dX11_run_0 : decode cX11_run 0 = .ok (.aload_n 0, 1) := by decide +kernel
theorem dX11_run_1 : decode cX11_run 1 = .ok (.iload_n 1, 1) := by decide +kernel
theorem dX11_run_2 : decode cX11_run 2 = .ok (.iload_n 2, 1) := by decide +kernel
theorem dX11_run_3 : decode cX11_run 3 = .ok (.invokevirtual 91, 3) := by decide +kernel
theorem dX11_run_6 : decode cX11_run 6 = .ok (.astore 8, 2) := by decide +kernel
theorem dX11_run_8 : decode cX11_run 8 = .ok (.iload 7, 2) := by decide +kernel
theorem dX11_run_10 : decode cX11_run 10 = .ok (.sipush 2000, 3) := by decide +kernel
theorem dX11_run_13 : decode cX11_run 13 = .ok (.invokestatic 80, 3) := by decide +kernel
theorem dX11_run_16 : decode cX11_run 16 = .ok (.aload_n 0, 1) := by decide +kernel
theorem dX11_run_17 : decode cX11_run 17 = .ok (.getfield 51, 3) := by decide +kernel
theorem dX11_run_20 : decode cX11_run 20 = .ok (.invokestatic 150, 3) := by decide +kernel
theorem dX11_run_23 : decode cX11_run 23 = .ok (.aload_n 0, 1) := by decide +kernel
theorem dX11_run_24 : decode cX11_run 24 = .ok (.getfield 47, 3) := by decide +kernel
theorem dX11_run_27 : decode cX11_run 27 = .ok (.aload_n 0, 1) := by decide +kernel
theorem dX11_run_28 : decode cX11_run 28 = .ok (.getfield 33, 3) := by decide +kernel
theorem dX11_run_31 : decode cX11_run 31 = .ok (.invokevirtual 211, 3) := by decide +kernel
theorem dX11_run_34 : decode cX11_run 34 = .ok (.aload_n 0, 1) := by decide +kernel
theorem dX11_run_35 : decode cX11_run 35 = .ok (.getfield 47, 3) := by decide +kernel
theorem dX11_run_38 : decode cX11_run 38 = .ok (.aload 8, 2) := by decide +kernel
theorem dX11_run_40 : decode cX11_run 40 = .ok (.lload_n 3, 1) := by decide +kernel
theorem dX11_run_41 : decode cX11_run 41 = .ok (.lload 5, 2) := by decide +kernel
theorem dX11_run_43 : decode cX11_run 43 = .ok (.iload 7, 2) := by decide +kernel
theorem dX11_run_45 : decode cX11_run 45 = .ok (.invokevirtual 214, 3) := by decide +kernel
theorem dX11_run_48 : decode cX11_run 48 = .ok (.ireturn, 1) := by decide +kernel
theorem dX11_told_0 : decode cX11_told 0 = .ok (.iload_n 1, 1) := by decide +kernel
theorem dX11_told_1 : decode cX11_told 1 = .ok (.iconst 2, 1) := by decide +kernel
theorem dX11_told_2 : decode cX11_told 2 = .ok (.invokestatic 80, 3) := by decide +kernel
theorem dX11_told_5 : decode cX11_told 5 = .ok (.iload_n 1, 1) := by decide +kernel
theorem dX11_told_6 : decode cX11_told 6 = .ok (.lookupswitch 43 #[(0, 26), (1, 34)], 26) := by decide +kernel
theorem dX11_told_32 : decode cX11_told 32 = .ok (.aload_n 0, 1) := by decide +kernel
theorem dX11_told_33 : decode cX11_told 33 = .ok (.getfield 47, 3) := by decide +kernel
theorem dX11_told_36 : decode cX11_told 36 = .ok (.getfield 218, 3) := by decide +kernel
theorem dX11_told_39 : decode cX11_told 39 = .ok (.lreturn, 1) := by decide +kernel
theorem dX11_told_40 : decode cX11_told 40 = .ok (.aload_n 0, 1) := by decide +kernel
theorem dX11_told_41 : decode cX11_told 41 = .ok (.getfield 47, 3) := by decide +kernel
theorem dX11_told_44 : decode cX11_told 44 = .ok (.getfield 222, 3) := by decide +kernel
theorem dX11_told_47 : decode cX11_told 47 = .ok (.i2l, 1) := by decide +kernel
theorem dX11_told_48 : decode cX11_told 48 = .ok (.lreturn, 1) := by decide +kernel
theorem dX11_told_49 : decode cX11_told 49 = .ok (.aload_n 0, 1) := by decide +kernel
theorem dX11_told_50 : decode cX11_told 50 = .ok (.getfield 47, 3) := by decide +kernel
theorem dX11_told_53 : decode cX11_told 53 = .ok (.getfield 225, 3) := by decide +kernel
theorem dX11_told_56 : decode cX11_told 56 = .ok (.i2l, 1) := by decide +kernel
theorem dX11_told_57 : decode cX11_told 57 = .ok (.lreturn, 1) := by decide +kernel
theorem dX11_memory_0 : decode cX11_memory 0 = .ok (.iload_n 1, 1) := by decide +kernel
theorem dX11_memory_1 : decode cX11_memory 1 = .ok (.sipush 1023, 3) := by decide +kernel
theorem dX11_memory_4 : decode cX11_memory 4 = .ok (.invokestatic 80, 3) := by decide +kernel
theorem dX11_memory_7 : decode cX11_memory 7 = .ok (.aload_n 0, 1) := by decide +kernel
theorem dX11_memory_8 : decode cX11_memory 8 = .ok (.getfield 47, 3) := by decide +kernel
theorem dX11_memory_11 : decode cX11_memory 11 = .ok (.getfield 228, 3) := by decide +kernel
theorem dX11_memory_14 : decode cX11_memory 14 = .ok (.iload_n 1, 1) := by decide +kernel
theorem dX11_memory_15 : decode cX11_memory 15 = .ok (.baload, 1) := by decide +kernel
theorem dX11_memory_16 : decode cX11_memory 16 = .ok (.sipush 255, 3) := by decide +kernel
theorem dX11_memory_19 : decode cX11_memory 19 = .ok (.iand, 1) := by decide +kernel
theorem dX11_memory_20 : decode cX11_memory 20 = .ok (.ireturn, 1) := by decide +kernel
theorem dX11_placeOf_0 : decode cX11_placeOf 0 = .ok (.iload_n 1, 1) := by decide +kernel
theorem dX11_placeOf_1 : decode cX11_placeOf 1 = .ok (.tableswitch 115 1 6 #[39, 47, 62, 77, 92, 107], 39) := by decide +kernel
theorem dX11_placeOf_40 : decode cX11_placeOf 40 = .ok (.aload_n 0, 1) := by decide +kernel
theorem dX11_placeOf_41 : decode cX11_placeOf 41 = .ok (.getfield 33, 3) := by decide +kernel
theorem dX11_placeOf_44 : decode cX11_placeOf 44 = .ok (.invokevirtual 229, 3) := by decide +kernel
theorem dX11_placeOf_47 : decode cX11_placeOf 47 = .ok (.ireturn, 1) := by decide +kernel
theorem dX11_placeOf_48 : decode cX11_placeOf 48 = .ok (.aload_n 0, 1) := by decide +kernel
theorem dX11_placeOf_49 : decode cX11_placeOf 49 = .ok (.getfield 26, 3) := by decide +kernel
theorem dX11_placeOf_52 : decode cX11_placeOf 52 = .ok (.aload_n 0, 1) := by decide +kernel
theorem dX11_placeOf_53 : decode cX11_placeOf 53 = .ok (.getfield 33, 3) := by decide +kernel
theorem dX11_placeOf_56 : decode cX11_placeOf 56 = .ok (.getfield 179, 3) := by decide +kernel
theorem dX11_placeOf_59 : decode cX11_placeOf 59 = .ok (.invokevirtual 232, 3) := by decide +kernel
theorem dX11_placeOf_62 : decode cX11_placeOf 62 = .ok (.ireturn, 1) := by decide +kernel
theorem dX11_placeOf_63 : decode cX11_placeOf 63 = .ok (.aload_n 0, 1) := by decide +kernel
theorem dX11_placeOf_64 : decode cX11_placeOf 64 = .ok (.getfield 19, 3) := by decide +kernel
theorem dX11_placeOf_67 : decode cX11_placeOf 67 = .ok (.aload_n 0, 1) := by decide +kernel
theorem dX11_placeOf_68 : decode cX11_placeOf 68 = .ok (.getfield 33, 3) := by decide +kernel
theorem dX11_placeOf_71 : decode cX11_placeOf 71 = .ok (.getfield 157, 3) := by decide +kernel
theorem dX11_placeOf_74 : decode cX11_placeOf 74 = .ok (.invokevirtual 236, 3) := by decide +kernel
theorem dX11_placeOf_77 : decode cX11_placeOf 77 = .ok (.ireturn, 1) := by decide +kernel
theorem dX11_placeOf_78 : decode cX11_placeOf 78 = .ok (.aload_n 0, 1) := by decide +kernel
theorem dX11_placeOf_79 : decode cX11_placeOf 79 = .ok (.getfield 19, 3) := by decide +kernel
theorem dX11_placeOf_82 : decode cX11_placeOf 82 = .ok (.aload_n 0, 1) := by decide +kernel
theorem dX11_placeOf_83 : decode cX11_placeOf 83 = .ok (.getfield 33, 3) := by decide +kernel
theorem dX11_placeOf_86 : decode cX11_placeOf 86 = .ok (.getfield 157, 3) := by decide +kernel
theorem dX11_placeOf_89 : decode cX11_placeOf 89 = .ok (.invokevirtual 239, 3) := by decide +kernel
theorem dX11_placeOf_92 : decode cX11_placeOf 92 = .ok (.ireturn, 1) := by decide +kernel
theorem dX11_placeOf_93 : decode cX11_placeOf 93 = .ok (.aload_n 0, 1) := by decide +kernel
theorem dX11_placeOf_94 : decode cX11_placeOf 94 = .ok (.getfield 19, 3) := by decide +kernel
theorem dX11_placeOf_97 : decode cX11_placeOf 97 = .ok (.aload_n 0, 1) := by decide +kernel
theorem dX11_placeOf_98 : decode cX11_placeOf 98 = .ok (.getfield 33, 3) := by decide +kernel
theorem dX11_placeOf_101 : decode cX11_placeOf 101 = .ok (.getfield 157, 3) := by decide +kernel
theorem dX11_placeOf_104 : decode cX11_placeOf 104 = .ok (.invokevirtual 242, 3) := by decide +kernel
theorem dX11_placeOf_107 : decode cX11_placeOf 107 = .ok (.ireturn, 1) := by decide +kernel
theorem dX11_placeOf_108 : decode cX11_placeOf 108 = .ok (.aload_n 0, 1) := by decide +kernel
theorem dX11_placeOf_109 : decode cX11_placeOf 109 = .ok (.getfield 33, 3) := by decide +kernel
theorem dX11_placeOf_112 : decode cX11_placeOf 112 = .ok (.invokevirtual 245, 3) := by decide +kernel
theorem dX11_placeOf_115 : decode cX11_placeOf 115 = .ok (.ireturn, 1) := by decide +kernel
theorem dX11_placeOf_116 : decode cX11_placeOf 116 = .ok (.aload_n 0, 1) := by decide +kernel
theorem dX11_placeOf_117 : decode cX11_placeOf 117 = .ok (.getfield 33, 3) := by decide +kernel
theorem dX11_placeOf_120 : decode cX11_placeOf 120 = .ok (.invokevirtual 248, 3) := by decide +kernel
theorem dX11_placeOf_123 : decode cX11_placeOf 123 = .ok (.aload_n 0, 1) := by decide +kernel
theorem dX11_placeOf_124 : decode cX11_placeOf 124 = .ok (.getfield 33, 3) := by decide +kernel
theorem dX11_placeOf_127 : decode cX11_placeOf 127 = .ok (.getfield 186, 3) := by decide +kernel
theorem dX11_placeOf_130 : decode cX11_placeOf 130 = .ok (.sipush 1024, 3) := by decide +kernel
theorem dX11_placeOf_133 : decode cX11_placeOf 133 = .ok (.if_icmp .le 7, 3) := by decide +kernel
theorem dX11_placeOf_136 : decode cX11_placeOf 136 = .ok (.iconst 0, 1) := by decide +kernel
theorem dX11_placeOf_137 : decode cX11_placeOf 137 = .ok (.goto 4, 3) := by decide +kernel
theorem dX11_placeOf_140 : decode cX11_placeOf 140 = .ok (.iconst (-1), 1) := by decide +kernel
theorem dX11_placeOf_141 : decode cX11_placeOf 141 = .ok (.ireturn, 1) := by decide +kernel
theorem dX11_unitAt_0 : decode cX11_unitAt 0 = .ok (.iload_n 1, 1) := by decide +kernel
theorem dX11_unitAt_1 : decode cX11_unitAt 1 = .ok (.ifCond .lt 20, 3) := by decide +kernel
theorem dX11_unitAt_4 : decode cX11_unitAt 4 = .ok (.iload_n 1, 1) := by decide +kernel
theorem dX11_unitAt_5 : decode cX11_unitAt 5 = .ok (.aload_n 0, 1) := by decide +kernel
theorem dX11_unitAt_6 : decode cX11_unitAt 6 = .ok (.getfield 10, 3) := by decide +kernel
theorem dX11_unitAt_9 : decode cX11_unitAt 9 = .ok (.invokeinterface 59 1, 5) := by decide +kernel
theorem dX11_unitAt_14 : decode cX11_unitAt 14 = .ok (.if_icmp .ge 7, 3) := by decide +kernel
theorem dX11_unitAt_17 : decode cX11_unitAt 17 = .ok (.iconst 1, 1) := by decide +kernel
theorem dX11_unitAt_18 : decode cX11_unitAt 18 = .ok (.goto 4, 3) := by decide +kernel
theorem dX11_unitAt_21 : decode cX11_unitAt 21 = .ok (.iconst 0, 1) := by decide +kernel
theorem dX11_unitAt_22 : decode cX11_unitAt 22 = .ok (.invokestatic 102, 3) := by decide +kernel
theorem dX11_unitAt_25 : decode cX11_unitAt 25 = .ok (.aload_n 0, 1) := by decide +kernel
theorem dX11_unitAt_26 : decode cX11_unitAt 26 = .ok (.getfield 10, 3) := by decide +kernel
theorem dX11_unitAt_29 : decode cX11_unitAt 29 = .ok (.iload_n 1, 1) := by decide +kernel
theorem dX11_unitAt_30 : decode cX11_unitAt 30 = .ok (.invokeinterface 251 2, 5) := by decide +kernel
theorem dX11_unitAt_35 : decode cX11_unitAt 35 = .ok (.checkcast 69, 3) := by decide +kernel
theorem dX11_unitAt_38 : decode cX11_unitAt 38 = .ok (.areturn, 1) := by decide +kernel
theorem dX11_routineAt_0 : decode cX11_routineAt 0 = .ok (.aload_n 0, 1) := by decide +kernel
theorem dX11_routineAt_1 : decode cX11_routineAt 1 = .ok (.iload_n 1, 1) := by decide +kernel
theorem dX11_routineAt_2 : decode cX11_routineAt 2 = .ok (.invokevirtual 76, 3) := by decide +kernel
theorem dX11_routineAt_5 : decode cX11_routineAt 5 = .ok (.iload_n 2, 1) := by decide +kernel
theorem dX11_routineAt_6 : decode cX11_routineAt 6 = .ok (.invokevirtual 131, 3) := by decide +kernel
theorem dX11_routineAt_9 : decode cX11_routineAt 9 = .ok (.astore_n 3, 1) := by decide +kernel
theorem dX11_routineAt_10 : decode cX11_routineAt 10 = .ok (.aload_n 3, 1) := by decide +kernel
theorem dX11_routineAt_11 : decode cX11_routineAt 11 = .ok (.ifnull 7, 3) := by decide +kernel
theorem dX11_routineAt_14 : decode cX11_routineAt 14 = .ok (.iconst 1, 1) := by decide +kernel
theorem dX11_routineAt_15 : decode cX11_routineAt 15 = .ok (.goto 4, 3) := by decide +kernel
theorem dX11_routineAt_18 : decode cX11_routineAt 18 = .ok (.iconst 0, 1) := by decide +kernel
theorem dX11_routineAt_19 : decode cX11_routineAt 19 = .ok (.invokestatic 102, 3) := by decide +kernel
theorem dX11_routineAt_22 : decode cX11_routineAt 22 = .ok (.aload_n 3, 1) := by decide +kernel
theorem dX11_routineAt_23 : decode cX11_routineAt 23 = .ok (.areturn, 1) := by decide +kernel
theorem dX11_largestOffset_0 : decode cX11_largestOffset 0 = .ok (.iload_n 0, 1) := by decide +kernel
theorem dX11_largestOffset_1 : decode cX11_largestOffset 1 = .ok (.iconst 1, 1) := by decide +kernel
theorem dX11_largestOffset_2 : decode cX11_largestOffset 2 = .ok (.if_icmp .ne 17, 3) := by decide +kernel
theorem dX11_largestOffset_5 : decode cX11_largestOffset 5 = .ok (.aload_n 2, 1) := by decide +kernel
theorem dX11_largestOffset_6 : decode cX11_largestOffset 6 = .ok (.ifnonnull 7, 3) := by decide +kernel
theorem dX11_largestOffset_9 : decode cX11_largestOffset 9 = .ok (.iconst 0, 1) := by decide +kernel
theorem dX11_largestOffset_10 : decode cX11_largestOffset 10 = .ok (.goto 8, 3) := by decide +kernel
theorem dX11_largestOffset_13 : decode cX11_largestOffset 13 = .ok (.aload_n 2, 1) := by decide +kernel
theorem dX11_largestOffset_14 : decode cX11_largestOffset 14 = .ok (.getfield 117, 3) := by decide +kernel
theorem dX11_largestOffset_17 : decode cX11_largestOffset 17 = .ok (.arraylength, 1) := by decide +kernel
theorem dX11_largestOffset_18 : decode cX11_largestOffset 18 = .ok (.ireturn, 1) := by decide +kernel
theorem dX11_largestOffset_19 : decode cX11_largestOffset 19 = .ok (.aload_n 1, 1) := by decide +kernel
theorem dX11_largestOffset_20 : decode cX11_largestOffset 20 = .ok (.ifnonnull 8, 3) := by decide +kernel
theorem dX11_largestOffset_23 : decode cX11_largestOffset 23 = .ok (.bipush 9, 2) := by decide +kernel
theorem dX11_largestOffset_25 : decode cX11_largestOffset 25 = .ok (.goto 4, 3) := by decide +kernel
theorem dX11_largestOffset_28 : decode cX11_largestOffset 28 = .ok (.iconst 0, 1) := by decide +kernel
theorem dX11_largestOffset_29 : decode cX11_largestOffset 29 = .ok (.ireturn, 1) := by decide +kernel
theorem dX11_putBytes_0 : decode cX11_putBytes 0 = .ok (.iconst 0, 1) := by decide +kernel
theorem dX11_putBytes_1 : decode cX11_putBytes 1 = .ok (.istore 5, 2) := by decide +kernel
theorem dX11_putBytes_3 : decode cX11_putBytes 3 = .ok (.iload 5, 2) := by decide +kernel
theorem dX11_putBytes_5 : decode cX11_putBytes 5 = .ok (.iload_n 2, 1) := by decide +kernel
theorem dX11_putBytes_6 : decode cX11_putBytes 6 = .ok (.if_icmp .ge 24, 3) := by decide +kernel
theorem dX11_putBytes_9 : decode cX11_putBytes 9 = .ok (.aload_n 0, 1) := by decide +kernel
theorem dX11_putBytes_10 : decode cX11_putBytes 10 = .ok (.iload_n 1, 1) := by decide +kernel
theorem dX11_putBytes_11 : decode cX11_putBytes 11 = .ok (.iload 5, 2) := by decide +kernel
theorem dX11_putBytes_13 : decode cX11_putBytes 13 = .ok (.iadd, 1) := by decide +kernel
theorem dX11_putBytes_14 : decode cX11_putBytes 14 = .ok (.lload_n 3, 1) := by decide +kernel
theorem dX11_putBytes_15 : decode cX11_putBytes 15 = .ok (.bipush 8, 2) := by decide +kernel
theorem dX11_putBytes_17 : decode cX11_putBytes 17 = .ok (.iload 5, 2) := by decide +kernel
theorem dX11_putBytes_19 : decode cX11_putBytes 19 = .ok (.imul, 1) := by decide +kernel
theorem dX11_putBytes_20 : decode cX11_putBytes 20 = .ok (.lushr, 1) := by decide +kernel
theorem dX11_putBytes_21 : decode cX11_putBytes 21 = .ok (.l2i, 1) := by decide +kernel
theorem dX11_putBytes_22 : decode cX11_putBytes 22 = .ok (.i2b, 1) := by decide +kernel
theorem dX11_putBytes_23 : decode cX11_putBytes 23 = .ok (.bastore, 1) := by decide +kernel
theorem dX11_putBytes_24 : decode cX11_putBytes 24 = .ok (.iinc 5 1, 3) := by decide +kernel
theorem dX11_putBytes_27 : decode cX11_putBytes 27 = .ok (.goto (-24), 3) := by decide +kernel
theorem dX11_putBytes_30 : decode cX11_putBytes 30 = .ok (.return_, 1) := by decide +kernel
theorem dX11_requireWithin_0 : decode cX11_requireWithin 0 = .ok (.iload_n 0, 1) := by decide +kernel
theorem dX11_requireWithin_1 : decode cX11_requireWithin 1 = .ok (.ifCond .lt 12, 3) := by decide +kernel
theorem dX11_requireWithin_4 : decode cX11_requireWithin 4 = .ok (.iload_n 0, 1) := by decide +kernel
theorem dX11_requireWithin_5 : decode cX11_requireWithin 5 = .ok (.iload_n 1, 1) := by decide +kernel
theorem dX11_requireWithin_6 : decode cX11_requireWithin 6 = .ok (.if_icmp .gt 7, 3) := by decide +kernel
theorem dX11_requireWithin_9 : decode cX11_requireWithin 9 = .ok (.iconst 1, 1) := by decide +kernel
theorem dX11_requireWithin_10 : decode cX11_requireWithin 10 = .ok (.goto 4, 3) := by decide +kernel
theorem dX11_requireWithin_13 : decode cX11_requireWithin 13 = .ok (.iconst 0, 1) := by decide +kernel
theorem dX11_requireWithin_14 : decode cX11_requireWithin 14 = .ok (.invokestatic 102, 3) := by decide +kernel
theorem dX11_requireWithin_17 : decode cX11_requireWithin 17 = .ok (.return_, 1) := by decide +kernel
theorem dX11_require_0 : decode cX11_require 0 = .ok (.iload_n 0, 1) := by decide +kernel
theorem dX11_require_1 : decode cX11_require 1 = .ok (.ifCond .ne 14, 3) := by decide +kernel
theorem dX11_require_4 : decode cX11_require 4 = .ok (.new 255, 3) := by decide +kernel
theorem dX11_require_7 : decode cX11_require 7 = .ok (.dup, 1) := by decide +kernel
theorem dX11_require_8 : decode cX11_require 8 = .ok (.ldc_w 257, 3) := by decide +kernel
theorem dX11_require_11 : decode cX11_require 11 = .ok (.invokespecial 259, 3) := by decide +kernel
theorem dX11_require_14 : decode cX11_require 14 = .ok (.athrow, 1) := by decide +kernel
theorem dX11_require_15 : decode cX11_require 15 = .ok (.return_, 1) := by decide +kernel
theorem dX11_requireRoom_0 : decode cX11_requireRoom 0 = .ok (.iload_n 0, 1) := by decide +kernel
theorem dX11_requireRoom_1 : decode cX11_requireRoom 1 = .ok (.iload_n 1, 1) := by decide +kernel
theorem dX11_requireRoom_2 : decode cX11_requireRoom 2 = .ok (.if_icmp .ge 7, 3) := by decide +kernel
theorem dX11_requireRoom_5 : decode cX11_requireRoom 5 = .ok (.iconst 1, 1) := by decide +kernel
theorem dX11_requireRoom_6 : decode cX11_requireRoom 6 = .ok (.goto 4, 3) := by decide +kernel
theorem dX11_requireRoom_9 : decode cX11_requireRoom 9 = .ok (.iconst 0, 1) := by decide +kernel
theorem dX11_requireRoom_10 : decode cX11_requireRoom 10 = .ok (.invokestatic 150, 3) := by decide +kernel
theorem dX11_requireRoom_13 : decode cX11_requireRoom 13 = .ok (.return_, 1) := by decide +kernel
theorem dX11_requireState_0 : decode cX11_requireState 0 = .ok (.iload_n 0, 1) := by decide +kernel
theorem dX11_requireState_1 : decode cX11_requireState 1 = .ok (.ifCond .ne 14, 3) := by decide +kernel
theorem dX11_requireState_4 : decode cX11_requireState 4 = .ok (.new 262, 3) := by decide +kernel
theorem dX11_requireState_7 : decode cX11_requireState 7 = .ok (.dup, 1) := by decide +kernel
theorem dX11_requireState_8 : decode cX11_requireState 8 = .ok (.ldc_w 264, 3) := by decide +kernel
theorem dX11_requireState_11 : decode cX11_requireState 11 = .ok (.invokespecial 266, 3) := by decide +kernel
theorem dX11_requireState_14 : decode cX11_requireState 14 = .ok (.athrow, 1) := by decide +kernel
theorem dX11_requireState_15 : decode cX11_requireState 15 = .ok (.return_, 1) := by decide +kernel
theorem dX12_init_0 : decode cX12_init 0 = .ok (.aload_n 0, 1) := by decide +kernel
theorem dX12_init_1 : decode cX12_init 1 = .ok (.invokespecial 1, 3) := by decide +kernel
theorem dX12_init_4 : decode cX12_init 4 = .ok (.aload_n 0, 1) := by decide +kernel
theorem dX12_init_5 : decode cX12_init 5 = .ok (.bipush 6, 2) := by decide +kernel
theorem dX12_init_7 : decode cX12_init 7 = .ok (.newarray .int, 2) := by decide +kernel
theorem dX12_init_9 : decode cX12_init 9 = .ok (.putfield 7, 3) := by decide +kernel
theorem dX12_init_12 : decode cX12_init 12 = .ok (.aload_n 0, 1) := by decide +kernel
theorem dX12_init_13 : decode cX12_init 13 = .ok (.bipush 6, 2) := by decide +kernel
theorem dX12_init_15 : decode cX12_init 15 = .ok (.newarray .int, 2) := by decide +kernel
theorem dX12_init_17 : decode cX12_init 17 = .ok (.putfield 13, 3) := by decide +kernel
theorem dX12_init_20 : decode cX12_init 20 = .ok (.aload_n 0, 1) := by decide +kernel
theorem dX12_init_21 : decode cX12_init 21 = .ok (.bipush 6, 2) := by decide +kernel
theorem dX12_init_23 : decode cX12_init 23 = .ok (.newarray .int, 2) := by decide +kernel
theorem dX12_init_25 : decode cX12_init 25 = .ok (.putfield 16, 3) := by decide +kernel
theorem dX12_init_28 : decode cX12_init 28 = .ok (.aload_n 0, 1) := by decide +kernel
theorem dX12_init_29 : decode cX12_init 29 = .ok (.bipush 48, 2) := by decide +kernel
theorem dX12_init_31 : decode cX12_init 31 = .ok (.newarray .int, 2) := by decide +kernel
theorem dX12_init_33 : decode cX12_init 33 = .ok (.putfield 19, 3) := by decide +kernel
theorem dX12_init_36 : decode cX12_init 36 = .ok (.aload_n 0, 1) := by decide +kernel
theorem dX12_init_37 : decode cX12_init 37 = .ok (.bipush 48, 2) := by decide +kernel
theorem dX12_init_39 : decode cX12_init 39 = .ok (.newarray .int, 2) := by decide +kernel
theorem dX12_init_41 : decode cX12_init 41 = .ok (.putfield 22, 3) := by decide +kernel
theorem dX12_init_44 : decode cX12_init 44 = .ok (.aload_n 0, 1) := by decide +kernel
theorem dX12_init_45 : decode cX12_init 45 = .ok (.bipush 48, 2) := by decide +kernel
theorem dX12_init_47 : decode cX12_init 47 = .ok (.newarray .int, 2) := by decide +kernel
theorem dX12_init_49 : decode cX12_init 49 = .ok (.putfield 25, 3) := by decide +kernel
theorem dX12_init_52 : decode cX12_init 52 = .ok (.aload_n 0, 1) := by decide +kernel
theorem dX12_init_53 : decode cX12_init 53 = .ok (.bipush 48, 2) := by decide +kernel
theorem dX12_init_55 : decode cX12_init 55 = .ok (.newarray .int, 2) := by decide +kernel
theorem dX12_init_57 : decode cX12_init 57 = .ok (.putfield 28, 3) := by decide +kernel
theorem dX12_init_60 : decode cX12_init 60 = .ok (.aload_n 0, 1) := by decide +kernel
theorem dX12_init_61 : decode cX12_init 61 = .ok (.sipush 2880, 3) := by decide +kernel
theorem dX12_init_64 : decode cX12_init 64 = .ok (.newarray .int, 2) := by decide +kernel
theorem dX12_init_66 : decode cX12_init 66 = .ok (.putfield 31, 3) := by decide +kernel
theorem dX12_init_69 : decode cX12_init 69 = .ok (.aload_n 0, 1) := by decide +kernel
theorem dX12_init_70 : decode cX12_init 70 = .ok (.sipush 2880, 3) := by decide +kernel
theorem dX12_init_73 : decode cX12_init 73 = .ok (.newarray .int, 2) := by decide +kernel
theorem dX12_init_75 : decode cX12_init 75 = .ok (.putfield 34, 3) := by decide +kernel
theorem dX12_init_78 : decode cX12_init 78 = .ok (.aload_n 0, 1) := by decide +kernel
theorem dX12_init_79 : decode cX12_init 79 = .ok (.bipush 24, 2) := by decide +kernel
theorem dX12_init_81 : decode cX12_init 81 = .ok (.newarray .int, 2) := by decide +kernel
theorem dX12_init_83 : decode cX12_init 83 = .ok (.putfield 37, 3) := by decide +kernel
theorem dX12_init_86 : decode cX12_init 86 = .ok (.aload_n 0, 1) := by decide +kernel
theorem dX12_init_87 : decode cX12_init 87 = .ok (.bipush 24, 2) := by decide +kernel
theorem dX12_init_89 : decode cX12_init 89 = .ok (.newarray .int, 2) := by decide +kernel
theorem dX12_init_91 : decode cX12_init 91 = .ok (.putfield 40, 3) := by decide +kernel
theorem dX12_init_94 : decode cX12_init 94 = .ok (.aload_n 0, 1) := by decide +kernel
theorem dX12_init_95 : decode cX12_init 95 = .ok (.sipush 1536, 3) := by decide +kernel
theorem dX12_init_98 : decode cX12_init 98 = .ok (.newarray .byte, 2) := by decide +kernel
theorem dX12_init_100 : decode cX12_init 100 = .ok (.putfield 43, 3) := by decide +kernel
theorem dX12_init_103 : decode cX12_init 103 = .ok (.aload_n 0, 1) := by decide +kernel
theorem dX12_init_104 : decode cX12_init 104 = .ok (.bipush 96, 2) := by decide +kernel
theorem dX12_init_106 : decode cX12_init 106 = .ok (.newarray .int, 2) := by decide +kernel
theorem dX12_init_108 : decode cX12_init 108 = .ok (.putfield 47, 3) := by decide +kernel
theorem dX12_init_111 : decode cX12_init 111 = .ok (.aload_n 0, 1) := by decide +kernel
theorem dX12_init_112 : decode cX12_init 112 = .ok (.bipush 96, 2) := by decide +kernel
theorem dX12_init_114 : decode cX12_init 114 = .ok (.newarray .int, 2) := by decide +kernel
theorem dX12_init_116 : decode cX12_init 116 = .ok (.putfield 50, 3) := by decide +kernel
theorem dX12_init_119 : decode cX12_init 119 = .ok (.aload_n 0, 1) := by decide +kernel
theorem dX12_init_120 : decode cX12_init 120 = .ok (.bipush 96, 2) := by decide +kernel
theorem dX12_init_122 : decode cX12_init 122 = .ok (.newarray .int, 2) := by decide +kernel
theorem dX12_init_124 : decode cX12_init 124 = .ok (.putfield 53, 3) := by decide +kernel
theorem dX12_init_127 : decode cX12_init 127 = .ok (.aload_n 0, 1) := by decide +kernel
theorem dX12_init_128 : decode cX12_init 128 = .ok (.bipush 96, 2) := by decide +kernel
theorem dX12_init_130 : decode cX12_init 130 = .ok (.newarray .int, 2) := by decide +kernel
theorem dX12_init_132 : decode cX12_init 132 = .ok (.putfield 56, 3) := by decide +kernel
theorem dX12_init_135 : decode cX12_init 135 = .ok (.aload_n 0, 1) := by decide +kernel
theorem dX12_init_136 : decode cX12_init 136 = .ok (.bipush 96, 2) := by decide +kernel
theorem dX12_init_138 : decode cX12_init 138 = .ok (.newarray .int, 2) := by decide +kernel
theorem dX12_init_140 : decode cX12_init 140 = .ok (.putfield 59, 3) := by decide +kernel
theorem dX12_init_143 : decode cX12_init 143 = .ok (.aload_n 0, 1) := by decide +kernel
theorem dX12_init_144 : decode cX12_init 144 = .ok (.iconst (-1), 1) := by decide +kernel
theorem dX12_init_145 : decode cX12_init 145 = .ok (.putfield 62, 3) := by decide +kernel
theorem dX12_init_148 : decode cX12_init 148 = .ok (.aload_n 0, 1) := by decide +kernel
theorem dX12_init_149 : decode cX12_init 149 = .ok (.ldc 66, 2) := by decide +kernel
theorem dX12_init_151 : decode cX12_init 151 = .ok (.newarray .byte, 2) := by decide +kernel
theorem dX12_init_153 : decode cX12_init 153 = .ok (.putfield 67, 3) := by decide +kernel
theorem dX12_init_156 : decode cX12_init 156 = .ok (.aload_n 0, 1) := by decide +kernel
theorem dX12_init_157 : decode cX12_init 157 = .ok (.bipush 48, 2) := by decide +kernel
theorem dX12_init_159 : decode cX12_init 159 = .ok (.newarray .int, 2) := by decide +kernel
theorem dX12_init_161 : decode cX12_init 161 = .ok (.putfield 70, 3) := by decide +kernel
theorem dX12_init_164 : decode cX12_init 164 = .ok (.aload_n 0, 1) := by decide +kernel
theorem dX12_init_165 : decode cX12_init 165 = .ok (.bipush 60, 2) := by decide +kernel
theorem dX12_init_167 : decode cX12_init 167 = .ok (.newarray .int, 2) := by decide +kernel
theorem dX12_init_169 : decode cX12_init 169 = .ok (.putfield 73, 3) := by decide +kernel
theorem dX12_init_172 : decode cX12_init 172 = .ok (.aload_n 0, 1) := by decide +kernel
theorem dX12_init_173 : decode cX12_init 173 = .ok (.sipush 1024, 3) := by decide +kernel
theorem dX12_init_176 : decode cX12_init 176 = .ok (.newarray .byte, 2) := by decide +kernel
theorem dX12_init_178 : decode cX12_init 178 = .ok (.putfield 76, 3) := by decide +kernel
theorem dX12_init_181 : decode cX12_init 181 = .ok (.aload_n 0, 1) := by decide +kernel
theorem dX12_init_182 : decode cX12_init 182 = .ok (.bipush 62, 2) := by decide +kernel
theorem dX12_init_184 : decode cX12_init 184 = .ok (.newarray .int, 2) := by decide +kernel
theorem dX12_init_186 : decode cX12_init 186 = .ok (.putfield 79, 3) := by decide +kernel
theorem dX12_init_189 : decode cX12_init 189 = .ok (.aload_n 0, 1) := by decide +kernel
theorem dX12_init_190 : decode cX12_init 190 = .ok (.bipush 62, 2) := by decide +kernel
theorem dX12_init_192 : decode cX12_init 192 = .ok (.newarray .int, 2) := by decide +kernel
theorem dX12_init_194 : decode cX12_init 194 = .ok (.putfield 82, 3) := by decide +kernel
theorem dX12_init_197 : decode cX12_init 197 = .ok (.aload_n 0, 1) := by decide +kernel
theorem dX12_init_198 : decode cX12_init 198 = .ok (.bipush 62, 2) := by decide +kernel
theorem dX12_init_200 : decode cX12_init 200 = .ok (.newarray .int, 2) := by decide +kernel
theorem dX12_init_202 : decode cX12_init 202 = .ok (.putfield 85, 3) := by decide +kernel
theorem dX12_init_205 : decode cX12_init 205 = .ok (.aload_n 0, 1) := by decide +kernel
theorem dX12_init_206 : decode cX12_init 206 = .ok (.bipush 62, 2) := by decide +kernel
theorem dX12_init_208 : decode cX12_init 208 = .ok (.newarray .boolean, 2) := by decide +kernel
theorem dX12_init_210 : decode cX12_init 210 = .ok (.putfield 88, 3) := by decide +kernel
theorem dX12_init_213 : decode cX12_init 213 = .ok (.aload_n 0, 1) := by decide +kernel
theorem dX12_init_214 : decode cX12_init 214 = .ok (.bipush 62, 2) := by decide +kernel
theorem dX12_init_216 : decode cX12_init 216 = .ok (.newarray .boolean, 2) := by decide +kernel
theorem dX12_init_218 : decode cX12_init 218 = .ok (.putfield 92, 3) := by decide +kernel
theorem dX12_init_221 : decode cX12_init 221 = .ok (.aload_n 0, 1) := by decide +kernel
theorem dX12_init_222 : decode cX12_init 222 = .ok (.bipush 41, 2) := by decide +kernel
theorem dX12_init_224 : decode cX12_init 224 = .ok (.newarray .int, 2) := by decide +kernel
theorem dX12_init_226 : decode cX12_init 226 = .ok (.putfield 95, 3) := by decide +kernel
theorem dX12_init_229 : decode cX12_init 229 = .ok (.aload_n 0, 1) := by decide +kernel
theorem dX12_init_230 : decode cX12_init 230 = .ok (.bipush 41, 2) := by decide +kernel
theorem dX12_init_232 : decode cX12_init 232 = .ok (.newarray .int, 2) := by decide +kernel
theorem dX12_init_234 : decode cX12_init 234 = .ok (.putfield 98, 3) := by decide +kernel
theorem dX12_init_237 : decode cX12_init 237 = .ok (.aload_n 0, 1) := by decide +kernel
theorem dX12_init_238 : decode cX12_init 238 = .ok (.bipush 41, 2) := by decide +kernel
theorem dX12_init_240 : decode cX12_init 240 = .ok (.newarray .int, 2) := by decide +kernel
theorem dX12_init_242 : decode cX12_init 242 = .ok (.putfield 101, 3) := by decide +kernel
theorem dX12_init_245 : decode cX12_init 245 = .ok (.aload_n 0, 1) := by decide +kernel
theorem dX12_init_246 : decode cX12_init 246 = .ok (.bipush 41, 2) := by decide +kernel
theorem dX12_init_248 : decode cX12_init 248 = .ok (.newarray .int, 2) := by decide +kernel
theorem dX12_init_250 : decode cX12_init 250 = .ok (.putfield 104, 3) := by decide +kernel
theorem dX12_init_253 : decode cX12_init 253 = .ok (.aload_n 0, 1) := by decide +kernel
theorem dX12_init_254 : decode cX12_init 254 = .ok (.sipush 328, 3) := by decide +kernel
theorem dX12_init_257 : decode cX12_init 257 = .ok (.newarray .long, 2) := by decide +kernel
theorem dX12_init_259 : decode cX12_init 259 = .ok (.putfield 107, 3) := by decide +kernel
theorem dX12_init_262 : decode cX12_init 262 = .ok (.aload_n 0, 1) := by decide +kernel
theorem dX12_init_263 : decode cX12_init 263 = .ok (.sipush 5000, 3) := by decide +kernel
theorem dX12_init_266 : decode cX12_init 266 = .ok (.newarray .long, 2) := by decide +kernel
theorem dX12_init_268 : decode cX12_init 268 = .ok (.putfield 111, 3) := by decide +kernel
theorem dX12_init_271 : decode cX12_init 271 = .ok (.aload_n 0, 1) := by decide +kernel
theorem dX12_init_272 : decode cX12_init 272 = .ok (.sipush 2600, 3) := by decide +kernel
theorem dX12_init_275 : decode cX12_init 275 = .ok (.newarray .int, 2) := by decide +kernel
theorem dX12_init_277 : decode cX12_init 277 = .ok (.putfield 114, 3) := by decide +kernel
theorem dX12_init_280 : decode cX12_init 280 = .ok (.aload_n 0, 1) := by decide +kernel
theorem dX12_init_281 : decode cX12_init 281 = .ok (.sipush 2600, 3) := by decide +kernel
theorem dX12_init_284 : decode cX12_init 284 = .ok (.newarray .int, 2) := by decide +kernel
theorem dX12_init_286 : decode cX12_init 286 = .ok (.putfield 117, 3) := by decide +kernel
theorem dX12_init_289 : decode cX12_init 289 = .ok (.return_, 1) := by decide +kernel
theorem dX12_thrown_0 : decode cX12_thrown 0 = .ok (.aload_n 0, 1) := by decide +kernel
theorem dX12_thrown_1 : decode cX12_thrown 1 = .ok (.getfield 120, 3) := by decide +kernel
theorem dX12_thrown_4 : decode cX12_thrown 4 = .ok (.ireturn, 1) := by decide +kernel
theorem dX12_isIn_0 : decode cX12_isIn 0 = .ok (.iload_n 0, 1) := by decide +kernel
theorem dX12_isIn_1 : decode cX12_isIn 1 = .ok (.iload_n 1, 1) := by decide +kernel
theorem dX12_isIn_2 : decode cX12_isIn 2 = .ok (.if_icmp .lt 12, 3) := by decide +kernel
theorem dX12_isIn_5 : decode cX12_isIn 5 = .ok (.iload_n 0, 1) := by decide +kernel
theorem dX12_isIn_6 : decode cX12_isIn 6 = .ok (.iload_n 2, 1) := by decide +kernel
theorem dX12_isIn_7 : decode cX12_isIn 7 = .ok (.if_icmp .gt 7, 3) := by decide +kernel
theorem dX12_isIn_10 : decode cX12_isIn 10 = .ok (.iconst 1, 1) := by decide +kernel
theorem dX12_isIn_11 : decode cX12_isIn 11 = .ok (.goto 4, 3) := by decide +kernel
theorem dX12_isIn_14 : decode cX12_isIn 14 = .ok (.iconst 0, 1) := by decide +kernel
theorem dX12_isIn_15 : decode cX12_isIn 15 = .ok (.ireturn, 1) := by decide +kernel
theorem dX12_isObject_0 : decode cX12_isObject 0 = .ok (.iload_n 1, 1) := by decide +kernel
theorem dX12_isObject_1 : decode cX12_isObject 1 = .ok (.iconst 0, 1) := by decide +kernel
theorem dX12_isObject_2 : decode cX12_isObject 2 = .ok (.aload_n 0, 1) := by decide +kernel
theorem dX12_isObject_3 : decode cX12_isObject 3 = .ok (.getfield 123, 3) := by decide +kernel
theorem dX12_isObject_6 : decode cX12_isObject 6 = .ok (.iconst 1, 1) := by decide +kernel
theorem dX12_isObject_7 : decode cX12_isObject 7 = .ok (.isub, 1) := by decide +kernel
theorem dX12_isObject_8 : decode cX12_isObject 8 = .ok (.invokestatic 126, 3) := by decide +kernel
theorem dX12_isObject_11 : decode cX12_isObject 11 = .ok (.ireturn, 1) := by decide +kernel
theorem dX12_isFunction_0 : decode cX12_isFunction 0 = .ok (.aload_n 0, 1) := by decide +kernel
theorem dX12_isFunction_1 : decode cX12_isFunction 1 = .ok (.iload_n 1, 1) := by decide +kernel
theorem dX12_isFunction_2 : decode cX12_isFunction 2 = .ok (.invokevirtual 130, 3) := by decide +kernel
theorem dX12_isFunction_5 : decode cX12_isFunction 5 = .ok (.ifCond .eq 21, 3) := by decide +kernel
theorem dX12_isFunction_8 : decode cX12_isFunction 8 = .ok (.iload_n 2, 1) := by decide +kernel
theorem dX12_isFunction_9 : decode cX12_isFunction 9 = .ok (.ifCond .lt 17, 3) := by decide +kernel
theorem dX12_isFunction_12 : decode cX12_isFunction 12 = .ok (.iload_n 2, 1) := by decide +kernel
theorem dX12_isFunction_13 : decode cX12_isFunction 13 = .ok (.aload_n 0, 1) := by decide +kernel
theorem dX12_isFunction_14 : decode cX12_isFunction 14 = .ok (.getfield 7, 3) := by decide +kernel
theorem dX12_isFunction_17 : decode cX12_isFunction 17 = .ok (.iload_n 1, 1) := by decide +kernel
theorem dX12_isFunction_18 : decode cX12_isFunction 18 = .ok (.iaload, 1) := by decide +kernel
theorem dX12_isFunction_19 : decode cX12_isFunction 19 = .ok (.if_icmp .ge 7, 3) := by decide +kernel
theorem dX12_isFunction_22 : decode cX12_isFunction 22 = .ok (.iconst 1, 1) := by decide +kernel
theorem dX12_isFunction_23 : decode cX12_isFunction 23 = .ok (.goto 4, 3) := by decide +kernel
theorem dX12_isFunction_26 : decode cX12_isFunction 26 = .ok (.iconst 0, 1) := by decide +kernel
theorem dX12_isFunction_27 : decode cX12_isFunction 27 = .ok (.ireturn, 1) := by decide +kernel
theorem dX12_isSegment_0 : decode cX12_isSegment 0 = .ok (.aload_n 0, 1) := by decide +kernel
theorem dX12_isSegment_1 : decode cX12_isSegment 1 = .ok (.iload_n 1, 1) := by decide +kernel
theorem dX12_isSegment_2 : decode cX12_isSegment 2 = .ok (.invokevirtual 130, 3) := by decide +kernel
theorem dX12_isSegment_5 : decode cX12_isSegment 5 = .ok (.ifCond .eq 21, 3) := by decide +kernel
theorem dX12_isSegment_8 : decode cX12_isSegment 8 = .ok (.iload_n 2, 1) := by decide +kernel
theorem dX12_isSegment_9 : decode cX12_isSegment 9 = .ok (.ifCond .lt 17, 3) := by decide +kernel
theorem dX12_isSegment_12 : decode cX12_isSegment 12 = .ok (.iload_n 2, 1) := by decide +kernel
theorem dX12_isSegment_13 : decode cX12_isSegment 13 = .ok (.aload_n 0, 1) := by decide +kernel
theorem dX12_isSegment_14 : decode cX12_isSegment 14 = .ok (.getfield 13, 3) := by decide +kernel
theorem dX12_isSegment_17 : decode cX12_isSegment 17 = .ok (.iload_n 1, 1) := by decide +kernel
theorem dX12_isSegment_18 : decode cX12_isSegment 18 = .ok (.iaload, 1) := by decide +kernel
theorem dX12_isSegment_19 : decode cX12_isSegment 19 = .ok (.if_icmp .ge 7, 3) := by decide +kernel
theorem dX12_isSegment_22 : decode cX12_isSegment 22 = .ok (.iconst 1, 1) := by decide +kernel
theorem dX12_isSegment_23 : decode cX12_isSegment 23 = .ok (.goto 4, 3) := by decide +kernel
theorem dX12_isSegment_26 : decode cX12_isSegment 26 = .ok (.iconst 0, 1) := by decide +kernel
theorem dX12_isSegment_27 : decode cX12_isSegment 27 = .ok (.ireturn, 1) := by decide +kernel
theorem dX12_object_0 : decode cX12_object 0 = .ok (.aload_n 0, 1) := by decide +kernel
theorem dX12_object_1 : decode cX12_object 1 = .ok (.aload_n 0, 1) := by decide +kernel
theorem dX12_object_2 : decode cX12_object 2 = .ok (.getfield 123, 3) := by decide +kernel
theorem dX12_object_5 : decode cX12_object 5 = .ok (.bipush 6, 2) := by decide +kernel
theorem dX12_object_7 : decode cX12_object 7 = .ok (.if_icmp .ne 7, 3) := by decide +kernel
theorem dX12_object_10 : decode cX12_object 10 = .ok (.iconst 1, 1) := by decide +kernel
theorem dX12_object_11 : decode cX12_object 11 = .ok (.goto 4, 3) := by decide +kernel
theorem dX12_object_14 : decode cX12_object 14 = .ok (.iconst 0, 1) := by decide +kernel
theorem dX12_object_15 : decode cX12_object 15 = .ok (.putfield 120, 3) := by decide +kernel
theorem dX12_object_18 : decode cX12_object 18 = .ok (.aload_n 0, 1) := by decide +kernel
theorem dX12_object_19 : decode cX12_object 19 = .ok (.getfield 120, 3) := by decide +kernel
theorem dX12_object_22 : decode cX12_object 22 = .ok (.ifCond .le 5, 3) := by decide +kernel
theorem dX12_object_25 : decode cX12_object 25 = .ok (.iconst 0, 1) := by decide +kernel
theorem dX12_object_26 : decode cX12_object 26 = .ok (.ireturn, 1) := by decide +kernel
theorem dX12_object_27 : decode cX12_object 27 = .ok (.aload_n 0, 1) := by decide +kernel
theorem dX12_object_28 : decode cX12_object 28 = .ok (.iconst 0, 1) := by decide +kernel
theorem dX12_object_29 : decode cX12_object 29 = .ok (.putfield 134, 3) := by decide +kernel
theorem dX12_object_32 : decode cX12_object 32 = .ok (.aload_n 0, 1) := by decide +kernel
theorem dX12_object_33 : decode cX12_object 33 = .ok (.dup, 1) := by decide +kernel
theorem dX12_object_34 : decode cX12_object 34 = .ok (.getfield 123, 3) := by decide +kernel
theorem dX12_object_37 : decode cX12_object 37 = .ok (.iconst 1, 1) := by decide +kernel
theorem dX12_object_38 : decode cX12_object 38 = .ok (.iadd, 1) := by decide +kernel
theorem dX12_object_39 : decode cX12_object 39 = .ok (.putfield 123, 3) := by decide +kernel
theorem dX12_object_42 : decode cX12_object 42 = .ok (.aload_n 0, 1) := by decide +kernel
theorem dX12_object_43 : decode cX12_object 43 = .ok (.getfield 123, 3) := by decide +kernel
theorem dX12_object_46 : decode cX12_object 46 = .ok (.iconst 1, 1) := by decide +kernel
theorem dX12_object_47 : decode cX12_object 47 = .ok (.isub, 1) := by decide +kernel
theorem dX12_object_48 : decode cX12_object 48 = .ok (.ireturn, 1) := by decide +kernel
theorem dX12_function_0 : decode cX12_function 0 = .ok (.aload_n 0, 1) := by decide +kernel
theorem dX12_function_1 : decode cX12_function 1 = .ok (.aload_n 0, 1) := by decide +kernel
theorem dX12_function_2 : decode cX12_function 2 = .ok (.iload_n 1, 1) := by decide +kernel
theorem dX12_function_3 : decode cX12_function 3 = .ok (.invokevirtual 130, 3) := by decide +kernel
theorem dX12_function_6 : decode cX12_function 6 = .ok (.ifCond .eq 31, 3) := by decide +kernel
theorem dX12_function_9 : decode cX12_function 9 = .ok (.iload_n 2, 1) := by decide +kernel
theorem dX12_function_10 : decode cX12_function 10 = .ok (.iconst 0, 1) := by decide +kernel
theorem dX12_function_11 : decode cX12_function 11 = .ok (.iconst 4, 1) := by decide +kernel
theorem dX12_function_12 : decode cX12_function 12 = .ok (.invokestatic 126, 3) := by decide +kernel
theorem dX12_function_15 : decode cX12_function 15 = .ok (.ifCond .eq 22, 3) := by decide +kernel
theorem dX12_function_18 : decode cX12_function 18 = .ok (.iload_n 3, 1) := by decide +kernel
theorem dX12_function_19 : decode cX12_function 19 = .ok (.iconst 0, 1) := by decide +kernel
theorem dX12_function_20 : decode cX12_function 20 = .ok (.iconst 1, 1) := by decide +kernel
theorem dX12_function_21 : decode cX12_function 21 = .ok (.invokestatic 126, 3) := by decide +kernel
theorem dX12_function_24 : decode cX12_function 24 = .ok (.ifCond .eq 13, 3) := by decide +kernel
theorem dX12_function_27 : decode cX12_function 27 = .ok (.iload 4, 2) := by decide +kernel
theorem dX12_function_29 : decode cX12_function 29 = .ok (.iconst 0, 1) := by decide +kernel
theorem dX12_function_30 : decode cX12_function 30 = .ok (.iconst 4, 1) := by decide +kernel
theorem dX12_function_31 : decode cX12_function 31 = .ok (.invokestatic 126, 3) := by decide +kernel
theorem dX12_function_34 : decode cX12_function 34 = .ok (.ifCond .ne 7, 3) := by decide +kernel
theorem dX12_function_37 : decode cX12_function 37 = .ok (.iconst 1, 1) := by decide +kernel
theorem dX12_function_38 : decode cX12_function 38 = .ok (.goto 19, 3) := by decide +kernel
theorem dX12_function_41 : decode cX12_function 41 = .ok (.aload_n 0, 1) := by decide +kernel
theorem dX12_function_42 : decode cX12_function 42 = .ok (.getfield 7, 3) := by decide +kernel
theorem dX12_function_45 : decode cX12_function 45 = .ok (.iload_n 1, 1) := by decide +kernel
theorem dX12_function_46 : decode cX12_function 46 = .ok (.iaload, 1) := by decide +kernel
theorem dX12_function_47 : decode cX12_function 47 = .ok (.bipush 8, 2) := by decide +kernel
theorem dX12_function_49 : decode cX12_function 49 = .ok (.if_icmp .ne 7, 3) := by decide +kernel
theorem dX12_function_52 : decode cX12_function 52 = .ok (.iconst 2, 1) := by decide +kernel
theorem dX12_function_53 : decode cX12_function 53 = .ok (.goto 4, 3) := by decide +kernel
theorem dX12_function_56 : decode cX12_function 56 = .ok (.iconst 0, 1) := by decide +kernel
theorem dX12_function_57 : decode cX12_function 57 = .ok (.putfield 120, 3) := by decide +kernel
theorem dX12_function_60 : decode cX12_function 60 = .ok (.aload_n 0, 1) := by decide +kernel
theorem dX12_function_61 : decode cX12_function 61 = .ok (.getfield 120, 3) := by decide +kernel
theorem dX12_function_64 : decode cX12_function 64 = .ok (.ifCond .le 5, 3) := by decide +kernel
theorem dX12_function_67 : decode cX12_function 67 = .ok (.iconst 0, 1) := by decide +kernel
theorem dX12_function_68 : decode cX12_function 68 = .ok (.ireturn, 1) := by decide +kernel
theorem dX12_function_69 : decode cX12_function 69 = .ok (.aload_n 0, 1) := by decide +kernel
theorem dX12_function_70 : decode cX12_function 70 = .ok (.iconst 0, 1) := by decide +kernel
theorem dX12_function_71 : decode cX12_function 71 = .ok (.putfield 134, 3) := by decide +kernel
theorem dX12_function_74 : decode cX12_function 74 = .ok (.bipush 8, 2) := by decide +kernel
theorem dX12_function_76 : decode cX12_function 76 = .ok (.iload_n 1, 1) := by decide +kernel
theorem dX12_function_77 : decode cX12_function 77 = .ok (.imul, 1) := by decide +kernel
theorem dX12_function_78 : decode cX12_function 78 = .ok (.aload_n 0, 1) := by decide +kernel
theorem dX12_function_79 : decode cX12_function 79 = .ok (.getfield 7, 3) := by decide +kernel
theorem dX12_function_82 : decode cX12_function 82 = .ok (.iload_n 1, 1) := by decide +kernel
theorem dX12_function_83 : decode cX12_function 83 = .ok (.iaload, 1) := by decide +kernel
theorem dX12_function_84 : decode cX12_function 84 = .ok (.iadd, 1) := by decide +kernel
theorem dX12_function_85 : decode cX12_function 85 = .ok (.istore 5, 2) := by decide +kernel
theorem dX12_function_87 : decode cX12_function 87 = .ok (.aload_n 0, 1) := by decide +kernel
theorem dX12_function_88 : decode cX12_function 88 = .ok (.getfield 19, 3) := by decide +kernel
theorem dX12_function_91 : decode cX12_function 91 = .ok (.iload 5, 2) := by decide +kernel
theorem dX12_function_93 : decode cX12_function 93 = .ok (.iload_n 2, 1) := by decide +kernel
theorem dX12_function_94 : decode cX12_function 94 = .ok (.iastore, 1) := by decide +kernel
theorem dX12_function_95 : decode cX12_function 95 = .ok (.aload_n 0, 1) := by decide +kernel
theorem dX12_function_96 : decode cX12_function 96 = .ok (.getfield 22, 3) := by decide +kernel
theorem dX12_function_99 : decode cX12_function 99 = .ok (.iload 5, 2) := by decide +kernel
theorem dX12_function_101 : decode cX12_function 101 = .ok (.iload_n 3, 1) := by decide +kernel
theorem dX12_function_102 : decode cX12_function 102 = .ok (.iastore, 1) := by decide +kernel
theorem dX12_function_103 : decode cX12_function 103 = .ok (.aload_n 0, 1) := by decide +kernel
theorem dX12_function_104 : decode cX12_function 104 = .ok (.getfield 25, 3) := by decide +kernel
theorem dX12_function_107 : decode cX12_function 107 = .ok (.iload 5, 2) := by decide +kernel
theorem dX12_function_109 : decode cX12_function 109 = .ok (.iload 4, 2) := by decide +kernel
theorem dX12_function_111 : decode cX12_function 111 = .ok (.iastore, 1) := by decide +kernel
theorem dX12_function_112 : decode cX12_function 112 = .ok (.aload_n 0, 1) := by decide +kernel
theorem dX12_function_113 : decode cX12_function 113 = .ok (.getfield 7, 3) := by decide +kernel
theorem dX12_function_116 : decode cX12_function 116 = .ok (.iload_n 1, 1) := by decide +kernel
theorem dX12_function_117 : decode cX12_function 117 = .ok (.dup2, 1) := by decide +kernel
theorem dX12_function_118 : decode cX12_function 118 = .ok (.iaload, 1) := by decide +kernel
theorem dX12_function_119 : decode cX12_function 119 = .ok (.iconst 1, 1) := by decide +kernel
theorem dX12_function_120 : decode cX12_function 120 = .ok (.iadd, 1) := by decide +kernel
theorem dX12_function_121 : decode cX12_function 121 = .ok (.iastore, 1) := by decide +kernel
theorem dX12_function_122 : decode cX12_function 122 = .ok (.aload_n 0, 1) := by decide +kernel
theorem dX12_function_123 : decode cX12_function 123 = .ok (.getfield 7, 3) := by decide +kernel
theorem dX12_function_126 : decode cX12_function 126 = .ok (.iload_n 1, 1) := by decide +kernel
theorem dX12_function_127 : decode cX12_function 127 = .ok (.iaload, 1) := by decide +kernel
theorem dX12_function_128 : decode cX12_function 128 = .ok (.iconst 1, 1) := by decide +kernel
theorem dX12_function_129 : decode cX12_function 129 = .ok (.isub, 1) := by decide +kernel
theorem dX12_function_130 : decode cX12_function 130 = .ok (.ireturn, 1) := by decide +kernel
theorem dX12_code_0 : decode cX12_code 0 = .ok (.aload_n 0, 1) := by decide +kernel
theorem dX12_code_1 : decode cX12_code 1 = .ok (.aload_n 0, 1) := by decide +kernel
theorem dX12_code_2 : decode cX12_code 2 = .ok (.iload_n 1, 1) := by decide +kernel
theorem dX12_code_3 : decode cX12_code 3 = .ok (.iload_n 2, 1) := by decide +kernel
theorem dX12_code_4 : decode cX12_code 4 = .ok (.invokevirtual 138, 3) := by decide +kernel
theorem dX12_code_7 : decode cX12_code 7 = .ok (.ifCond .eq 13, 3) := by decide +kernel
theorem dX12_code_10 : decode cX12_code 10 = .ok (.iload_n 3, 1) := by decide +kernel
theorem dX12_code_11 : decode cX12_code 11 = .ok (.iconst 0, 1) := by decide +kernel
theorem dX12_code_12 : decode cX12_code 12 = .ok (.bipush 35, 2) := by decide +kernel
theorem dX12_code_14 : decode cX12_code 14 = .ok (.invokestatic 126, 3) := by decide +kernel
theorem dX12_code_17 : decode cX12_code 17 = .ok (.ifCond .ne 7, 3) := by decide +kernel
theorem dX12_code_20 : decode cX12_code 20 = .ok (.iconst 1, 1) := by decide +kernel
theorem dX12_code_21 : decode cX12_code 21 = .ok (.goto 24, 3) := by decide +kernel
theorem dX12_code_24 : decode cX12_code 24 = .ok (.aload_n 0, 1) := by decide +kernel
theorem dX12_code_25 : decode cX12_code 25 = .ok (.getfield 28, 3) := by decide +kernel
theorem dX12_code_28 : decode cX12_code 28 = .ok (.bipush 8, 2) := by decide +kernel
theorem dX12_code_30 : decode cX12_code 30 = .ok (.iload_n 1, 1) := by decide +kernel
theorem dX12_code_31 : decode cX12_code 31 = .ok (.imul, 1) := by decide +kernel
theorem dX12_code_32 : decode cX12_code 32 = .ok (.iload_n 2, 1) := by decide +kernel
theorem dX12_code_33 : decode cX12_code 33 = .ok (.iadd, 1) := by decide +kernel
theorem dX12_code_34 : decode cX12_code 34 = .ok (.iaload, 1) := by decide +kernel
theorem dX12_code_35 : decode cX12_code 35 = .ok (.bipush 60, 2) := by decide +kernel
theorem dX12_code_37 : decode cX12_code 37 = .ok (.if_icmp .ne 7, 3) := by decide +kernel
theorem dX12_code_40 : decode cX12_code 40 = .ok (.iconst 2, 1) := by decide +kernel
theorem dX12_code_41 : decode cX12_code 41 = .ok (.goto 4, 3) := by decide +kernel
theorem dX12_code_44 : decode cX12_code 44 = .ok (.iconst 0, 1) := by decide +kernel
theorem dX12_code_45 : decode cX12_code 45 = .ok (.putfield 120, 3) := by decide +kernel
theorem dX12_code_48 : decode cX12_code 48 = .ok (.aload_n 0, 1) := by decide +kernel
theorem dX12_code_49 : decode cX12_code 49 = .ok (.getfield 120, 3) := by decide +kernel
theorem dX12_code_52 : decode cX12_code 52 = .ok (.ifCond .le 5, 3) := by decide +kernel
theorem dX12_code_55 : decode cX12_code 55 = .ok (.iconst 0, 1) := by decide +kernel
theorem dX12_code_56 : decode cX12_code 56 = .ok (.ireturn, 1) := by decide +kernel
theorem dX12_code_57 : decode cX12_code 57 = .ok (.aload_n 0, 1) := by decide +kernel
theorem dX12_code_58 : decode cX12_code 58 = .ok (.iconst 0, 1) := by decide +kernel
theorem dX12_code_59 : decode cX12_code 59 = .ok (.putfield 134, 3) := by decide +kernel
theorem dX12_code_62 : decode cX12_code 62 = .ok (.bipush 60, 2) := by decide +kernel
theorem dX12_code_64 : decode cX12_code 64 = .ok (.bipush 8, 2) := by decide +kernel
theorem dX12_code_66 : decode cX12_code 66 = .ok (.iload_n 1, 1) := by decide +kernel
theorem dX12_code_67 : decode cX12_code 67 = .ok (.imul, 1) := by decide +kernel
theorem dX12_code_68 : decode cX12_code 68 = .ok (.iload_n 2, 1) := by decide +kernel
theorem dX12_code_69 : decode cX12_code 69 = .ok (.iadd, 1) := by decide +kernel
theorem dX12_code_70 : decode cX12_code 70 = .ok (.imul, 1) := by decide +kernel
theorem dX12_code_71 : decode cX12_code 71 = .ok (.aload_n 0, 1) := by decide +kernel
theorem dX12_code_72 : decode cX12_code 72 = .ok (.getfield 28, 3) := by decide +kernel
theorem dX12_code_75 : decode cX12_code 75 = .ok (.bipush 8, 2) := by decide +kernel
theorem dX12_code_77 : decode cX12_code 77 = .ok (.iload_n 1, 1) := by decide +kernel
theorem dX12_code_78 : decode cX12_code 78 = .ok (.imul, 1) := by decide +kernel
theorem dX12_code_79 : decode cX12_code 79 = .ok (.iload_n 2, 1) := by decide +kernel
theorem dX12_code_80 : decode cX12_code 80 = .ok (.iadd, 1) := by decide +kernel
theorem dX12_code_81 : decode cX12_code 81 = .ok (.iaload, 1) := by decide +kernel
theorem dX12_code_82 : decode cX12_code 82 = .ok (.iadd, 1) := by decide +kernel
theorem dX12_code_83 : decode cX12_code 83 = .ok (.istore 5, 2) := by decide +kernel
theorem dX12_code_85 : decode cX12_code 85 = .ok (.aload_n 0, 1) := by decide +kernel
theorem dX12_code_86 : decode cX12_code 86 = .ok (.getfield 31, 3) := by decide +kernel
theorem dX12_code_89 : decode cX12_code 89 = .ok (.iload 5, 2) := by decide +kernel
theorem dX12_code_91 : decode cX12_code 91 = .ok (.iload_n 3, 1) := by decide +kernel
theorem dX12_code_92 : decode cX12_code 92 = .ok (.iastore, 1) := by decide +kernel
theorem dX12_code_93 : decode cX12_code 93 = .ok (.aload_n 0, 1) := by decide +kernel
theorem dX12_code_94 : decode cX12_code 94 = .ok (.getfield 34, 3) := by decide +kernel
theorem dX12_code_97 : decode cX12_code 97 = .ok (.iload 5, 2) := by decide +kernel
theorem dX12_code_99 : decode cX12_code 99 = .ok (.iload 4, 2) := by decide +kernel
theorem dX12_code_101 : decode cX12_code 101 = .ok (.iastore, 1) := by decide +kernel
theorem dX12_code_102 : decode cX12_code 102 = .ok (.aload_n 0, 1) := by decide +kernel
theorem dX12_code_103 : decode cX12_code 103 = .ok (.getfield 28, 3) := by decide +kernel
theorem dX12_code_106 : decode cX12_code 106 = .ok (.bipush 8, 2) := by decide +kernel
theorem dX12_code_108 : decode cX12_code 108 = .ok (.iload_n 1, 1) := by decide +kernel
theorem dX12_code_109 : decode cX12_code 109 = .ok (.imul, 1) := by decide +kernel
theorem dX12_code_110 : decode cX12_code 110 = .ok (.iload_n 2, 1) := by decide +kernel
theorem dX12_code_111 : decode cX12_code 111 = .ok (.iadd, 1) := by decide +kernel
theorem dX12_code_112 : decode cX12_code 112 = .ok (.dup2, 1) := by decide +kernel
theorem dX12_code_113 : decode cX12_code 113 = .ok (.iaload, 1) := by decide +kernel
theorem dX12_code_114 : decode cX12_code 114 = .ok (.iconst 1, 1) := by decide +kernel
theorem dX12_code_115 : decode cX12_code 115 = .ok (.iadd, 1) := by decide +kernel
theorem dX12_code_116 : decode cX12_code 116 = .ok (.iastore, 1) := by decide +kernel
theorem dX12_code_117 : decode cX12_code 117 = .ok (.aload_n 0, 1) := by decide +kernel
theorem dX12_code_118 : decode cX12_code 118 = .ok (.getfield 28, 3) := by decide +kernel
theorem dX12_code_121 : decode cX12_code 121 = .ok (.bipush 8, 2) := by decide +kernel
theorem dX12_code_123 : decode cX12_code 123 = .ok (.iload_n 1, 1) := by decide +kernel
theorem dX12_code_124 : decode cX12_code 124 = .ok (.imul, 1) := by decide +kernel
theorem dX12_code_125 : decode cX12_code 125 = .ok (.iload_n 2, 1) := by decide +kernel
theorem dX12_code_126 : decode cX12_code 126 = .ok (.iadd, 1) := by decide +kernel
theorem dX12_code_127 : decode cX12_code 127 = .ok (.iaload, 1) := by decide +kernel
theorem dX12_code_128 : decode cX12_code 128 = .ok (.iconst 1, 1) := by decide +kernel
theorem dX12_code_129 : decode cX12_code 129 = .ok (.isub, 1) := by decide +kernel
theorem dX12_code_130 : decode cX12_code 130 = .ok (.ireturn, 1) := by decide +kernel
theorem dX12_segment_0 : decode cX12_segment 0 = .ok (.aload_n 0, 1) := by decide +kernel
theorem dX12_segment_1 : decode cX12_segment 1 = .ok (.aload_n 0, 1) := by decide +kernel
theorem dX12_segment_2 : decode cX12_segment 2 = .ok (.iload_n 1, 1) := by decide +kernel
theorem dX12_segment_3 : decode cX12_segment 3 = .ok (.invokevirtual 130, 3) := by decide +kernel
theorem dX12_segment_6 : decode cX12_segment 6 = .ok (.ifCond .eq 22, 3) := by decide +kernel
theorem dX12_segment_9 : decode cX12_segment 9 = .ok (.iload_n 2, 1) := by decide +kernel
theorem dX12_segment_10 : decode cX12_segment 10 = .ok (.iconst 1, 1) := by decide +kernel
theorem dX12_segment_11 : decode cX12_segment 11 = .ok (.bipush 64, 2) := by decide +kernel
theorem dX12_segment_13 : decode cX12_segment 13 = .ok (.invokestatic 126, 3) := by decide +kernel
theorem dX12_segment_16 : decode cX12_segment 16 = .ok (.ifCond .eq 12, 3) := by decide +kernel
theorem dX12_segment_19 : decode cX12_segment 19 = .ok (.iload_n 3, 1) := by decide +kernel
theorem dX12_segment_20 : decode cX12_segment 20 = .ok (.iconst 0, 1) := by decide +kernel
theorem dX12_segment_21 : decode cX12_segment 21 = .ok (.iconst 4, 1) := by decide +kernel
theorem dX12_segment_22 : decode cX12_segment 22 = .ok (.invokestatic 126, 3) := by decide +kernel
theorem dX12_segment_25 : decode cX12_segment 25 = .ok (.ifCond .ne 7, 3) := by decide +kernel
theorem dX12_segment_28 : decode cX12_segment 28 = .ok (.iconst 1, 1) := by decide +kernel
theorem dX12_segment_29 : decode cX12_segment 29 = .ok (.goto 18, 3) := by decide +kernel
theorem dX12_segment_32 : decode cX12_segment 32 = .ok (.aload_n 0, 1) := by decide +kernel
theorem dX12_segment_33 : decode cX12_segment 33 = .ok (.getfield 13, 3) := by decide +kernel
theorem dX12_segment_36 : decode cX12_segment 36 = .ok (.iload_n 1, 1) := by decide +kernel
theorem dX12_segment_37 : decode cX12_segment 37 = .ok (.iaload, 1) := by decide +kernel
theorem dX12_segment_38 : decode cX12_segment 38 = .ok (.iconst 4, 1) := by decide +kernel
theorem dX12_segment_39 : decode cX12_segment 39 = .ok (.if_icmp .ne 7, 3) := by decide +kernel
theorem dX12_segment_42 : decode cX12_segment 42 = .ok (.iconst 2, 1) := by decide +kernel
theorem dX12_segment_43 : decode cX12_segment 43 = .ok (.goto 4, 3) := by decide +kernel
theorem dX12_segment_46 : decode cX12_segment 46 = .ok (.iconst 0, 1) := by decide +kernel
theorem dX12_segment_47 : decode cX12_segment 47 = .ok (.putfield 120, 3) := by decide +kernel
theorem dX12_segment_50 : decode cX12_segment 50 = .ok (.aload_n 0, 1) := by decide +kernel
theorem dX12_segment_51 : decode cX12_segment 51 = .ok (.getfield 120, 3) := by decide +kernel
theorem dX12_segment_54 : decode cX12_segment 54 = .ok (.ifCond .le 5, 3) := by decide +kernel
theorem dX12_segment_57 : decode cX12_segment 57 = .ok (.iconst 0, 1) := by decide +kernel
theorem dX12_segment_58 : decode cX12_segment 58 = .ok (.ireturn, 1) := by decide +kernel
theorem dX12_segment_59 : decode cX12_segment 59 = .ok (.aload_n 0, 1) := by decide +kernel
theorem dX12_segment_60 : decode cX12_segment 60 = .ok (.iconst 0, 1) := by decide +kernel
theorem dX12_segment_61 : decode cX12_segment 61 = .ok (.putfield 134, 3) := by decide +kernel
theorem dX12_segment_64 : decode cX12_segment 64 = .ok (.aload_n 0, 1) := by decide +kernel
theorem dX12_segment_65 : decode cX12_segment 65 = .ok (.getfield 37, 3) := by decide +kernel
theorem dX12_segment_68 : decode cX12_segment 68 = .ok (.iconst 4, 1) := by decide +kernel
theorem dX12_segment_69 : decode cX12_segment 69 = .ok (.iload_n 1, 1) := by decide +kernel
theorem dX12_segment_70 : decode cX12_segment 70 = .ok (.imul, 1) := by decide +kernel
theorem dX12_segment_71 : decode cX12_segment 71 = .ok (.aload_n 0, 1) := by decide +kernel
theorem dX12_segment_72 : decode cX12_segment 72 = .ok (.getfield 13, 3) := by decide +kernel
theorem dX12_segment_75 : decode cX12_segment 75 = .ok (.iload_n 1, 1) := by decide +kernel
theorem dX12_segment_76 : decode cX12_segment 76 = .ok (.iaload, 1) := by decide +kernel
theorem dX12_segment_77 : decode cX12_segment 77 = .ok (.iadd, 1) := by decide +kernel
theorem dX12_segment_78 : decode cX12_segment 78 = .ok (.iload_n 2, 1) := by decide +kernel
theorem dX12_segment_79 : decode cX12_segment 79 = .ok (.iastore, 1) := by decide +kernel
theorem dX12_segment_80 : decode cX12_segment 80 = .ok (.aload_n 0, 1) := by decide +kernel
theorem dX12_segment_81 : decode cX12_segment 81 = .ok (.getfield 40, 3) := by decide +kernel
theorem dX12_segment_84 : decode cX12_segment 84 = .ok (.iconst 4, 1) := by decide +kernel
theorem dX12_segment_85 : decode cX12_segment 85 = .ok (.iload_n 1, 1) := by decide +kernel
theorem dX12_segment_86 : decode cX12_segment 86 = .ok (.imul, 1) := by decide +kernel
theorem dX12_segment_87 : decode cX12_segment 87 = .ok (.aload_n 0, 1) := by decide +kernel
theorem dX12_segment_88 : decode cX12_segment 88 = .ok (.getfield 13, 3) := by decide +kernel
theorem dX12_segment_91 : decode cX12_segment 91 = .ok (.iload_n 1, 1) := by decide +kernel
theorem dX12_segment_92 : decode cX12_segment 92 = .ok (.iaload, 1) := by decide +kernel
theorem dX12_segment_93 : decode cX12_segment 93 = .ok (.iadd, 1) := by decide +kernel
theorem dX12_segment_94 : decode cX12_segment 94 = .ok (.iload_n 3, 1) := by decide +kernel
theorem dX12_segment_95 : decode cX12_segment 95 = .ok (.iastore, 1) := by decide +kernel
theorem dX12_segment_96 : decode cX12_segment 96 = .ok (.aload_n 0, 1) := by decide +kernel
theorem dX12_segment_97 : decode cX12_segment 97 = .ok (.getfield 13, 3) := by decide +kernel
theorem dX12_segment_100 : decode cX12_segment 100 = .ok (.iload_n 1, 1) := by decide +kernel
theorem dX12_segment_101 : decode cX12_segment 101 = .ok (.dup2, 1) := by decide +kernel
theorem dX12_segment_102 : decode cX12_segment 102 = .ok (.iaload, 1) := by decide +kernel
theorem dX12_segment_103 : decode cX12_segment 103 = .ok (.iconst 1, 1) := by decide +kernel
theorem dX12_segment_104 : decode cX12_segment 104 = .ok (.iadd, 1) := by decide +kernel
theorem dX12_segment_105 : decode cX12_segment 105 = .ok (.iastore, 1) := by decide +kernel
theorem dX12_segment_106 : decode cX12_segment 106 = .ok (.aload_n 0, 1) := by decide +kernel
theorem dX12_segment_107 : decode cX12_segment 107 = .ok (.getfield 13, 3) := by decide +kernel
theorem dX12_segment_110 : decode cX12_segment 110 = .ok (.iload_n 1, 1) := by decide +kernel
theorem dX12_segment_111 : decode cX12_segment 111 = .ok (.iaload, 1) := by decide +kernel
theorem dX12_segment_112 : decode cX12_segment 112 = .ok (.iconst 1, 1) := by decide +kernel
theorem dX12_segment_113 : decode cX12_segment 113 = .ok (.isub, 1) := by decide +kernel
theorem dX12_segment_114 : decode cX12_segment 114 = .ok (.ireturn, 1) := by decide +kernel
theorem dX12_fill_0 : decode cX12_fill 0 = .ok (.aload_n 0, 1) := by decide +kernel
theorem dX12_fill_1 : decode cX12_fill 1 = .ok (.aload_n 0, 1) := by decide +kernel
theorem dX12_fill_2 : decode cX12_fill 2 = .ok (.iload_n 1, 1) := by decide +kernel
theorem dX12_fill_3 : decode cX12_fill 3 = .ok (.iload_n 2, 1) := by decide +kernel
theorem dX12_fill_4 : decode cX12_fill 4 = .ok (.invokevirtual 142, 3) := by decide +kernel
theorem dX12_fill_7 : decode cX12_fill 7 = .ok (.ifCond .eq 7, 3) := by decide +kernel
theorem dX12_fill_10 : decode cX12_fill 10 = .ok (.iload_n 3, 1) := by decide +kernel
theorem dX12_fill_11 : decode cX12_fill 11 = .ok (.ifCond .ge 7, 3) := by decide +kernel
theorem dX12_fill_14 : decode cX12_fill 14 = .ok (.iconst 1, 1) := by decide +kernel
theorem dX12_fill_15 : decode cX12_fill 15 = .ok (.goto 22, 3) := by decide +kernel
theorem dX12_fill_18 : decode cX12_fill 18 = .ok (.iload_n 3, 1) := by decide +kernel
theorem dX12_fill_19 : decode cX12_fill 19 = .ok (.aload_n 0, 1) := by decide +kernel
theorem dX12_fill_20 : decode cX12_fill 20 = .ok (.getfield 37, 3) := by decide +kernel
theorem dX12_fill_23 : decode cX12_fill 23 = .ok (.iconst 4, 1) := by decide +kernel
theorem dX12_fill_24 : decode cX12_fill 24 = .ok (.iload_n 1, 1) := by decide +kernel
theorem dX12_fill_25 : decode cX12_fill 25 = .ok (.imul, 1) := by decide +kernel
theorem dX12_fill_26 : decode cX12_fill 26 = .ok (.iload_n 2, 1) := by decide +kernel
theorem dX12_fill_27 : decode cX12_fill 27 = .ok (.iadd, 1) := by decide +kernel
theorem dX12_fill_28 : decode cX12_fill 28 = .ok (.iaload, 1) := by decide +kernel
theorem dX12_fill_29 : decode cX12_fill 29 = .ok (.if_icmp .lt 7, 3) := by decide +kernel
theorem dX12_fill_32 : decode cX12_fill 32 = .ok (.iconst 1, 1) := by decide +kernel
theorem dX12_fill_33 : decode cX12_fill 33 = .ok (.goto 4, 3) := by decide +kernel
theorem dX12_fill_36 : decode cX12_fill 36 = .ok (.iconst 0, 1) := by decide +kernel
theorem dX12_fill_37 : decode cX12_fill 37 = .ok (.putfield 120, 3) := by decide +kernel
theorem dX12_fill_40 : decode cX12_fill 40 = .ok (.aload_n 0, 1) := by decide +kernel
theorem dX12_fill_41 : decode cX12_fill 41 = .ok (.getfield 120, 3) := by decide +kernel
theorem dX12_fill_44 : decode cX12_fill 44 = .ok (.ifCond .le 4, 3) := by decide +kernel
theorem dX12_fill_47 : decode cX12_fill 47 = .ok (.return_, 1) := by decide +kernel
theorem dX12_fill_48 : decode cX12_fill 48 = .ok (.aload_n 0, 1) := by decide +kernel
theorem dX12_fill_49 : decode cX12_fill 49 = .ok (.iconst 0, 1) := by decide +kernel
theorem dX12_fill_50 : decode cX12_fill 50 = .ok (.putfield 134, 3) := by decide +kernel
theorem dX12_fill_53 : decode cX12_fill 53 = .ok (.iconst 0, 1) := by decide +kernel
theorem dX12_fill_54 : decode cX12_fill 54 = .ok (.istore 6, 2) := by decide +kernel
theorem dX12_fill_56 : decode cX12_fill 56 = .ok (.iload 6, 2) := by decide +kernel
theorem dX12_fill_58 : decode cX12_fill 58 = .ok (.bipush 8, 2) := by decide +kernel
theorem dX12_fill_60 : decode cX12_fill 60 = .ok (.if_icmp .ge 54, 3) := by decide +kernel
theorem dX12_fill_63 : decode cX12_fill 63 = .ok (.iload_n 3, 1) := by decide +kernel
theorem dX12_fill_64 : decode cX12_fill 64 = .ok (.iload 6, 2) := by decide +kernel
theorem dX12_fill_66 : decode cX12_fill 66 = .ok (.iadd, 1) := by decide +kernel
theorem dX12_fill_67 : decode cX12_fill 67 = .ok (.aload_n 0, 1) := by decide +kernel
theorem dX12_fill_68 : decode cX12_fill 68 = .ok (.getfield 37, 3) := by decide +kernel
theorem dX12_fill_71 : decode cX12_fill 71 = .ok (.iconst 4, 1) := by decide +kernel
theorem dX12_fill_72 : decode cX12_fill 72 = .ok (.iload_n 1, 1) := by decide +kernel
theorem dX12_fill_73 : decode cX12_fill 73 = .ok (.imul, 1) := by decide +kernel
theorem dX12_fill_74 : decode cX12_fill 74 = .ok (.iload_n 2, 1) := by decide +kernel
theorem dX12_fill_75 : decode cX12_fill 75 = .ok (.iadd, 1) := by decide +kernel
theorem dX12_fill_76 : decode cX12_fill 76 = .ok (.iaload, 1) := by decide +kernel
theorem dX12_fill_77 : decode cX12_fill 77 = .ok (.if_icmp .ge 37, 3) := by decide +kernel
theorem dX12_fill_80 : decode cX12_fill 80 = .ok (.aload_n 0, 1) := by decide +kernel
theorem dX12_fill_81 : decode cX12_fill 81 = .ok (.getfield 43, 3) := by decide +kernel
theorem dX12_fill_84 : decode cX12_fill 84 = .ok (.bipush 64, 2) := by decide +kernel
theorem dX12_fill_86 : decode cX12_fill 86 = .ok (.iconst 4, 1) := by decide +kernel
theorem dX12_fill_87 : decode cX12_fill 87 = .ok (.iload_n 1, 1) := by decide +kernel
theorem dX12_fill_88 : decode cX12_fill 88 = .ok (.imul, 1) := by decide +kernel
theorem dX12_fill_89 : decode cX12_fill 89 = .ok (.iload_n 2, 1) := by decide +kernel
theorem dX12_fill_90 : decode cX12_fill 90 = .ok (.iadd, 1) := by decide +kernel
theorem dX12_fill_91 : decode cX12_fill 91 = .ok (.imul, 1) := by decide +kernel
theorem dX12_fill_92 : decode cX12_fill 92 = .ok (.iload_n 3, 1) := by decide +kernel
theorem dX12_fill_93 : decode cX12_fill 93 = .ok (.iadd, 1) := by decide +kernel
theorem dX12_fill_94 : decode cX12_fill 94 = .ok (.iload 6, 2) := by decide +kernel
theorem dX12_fill_96 : decode cX12_fill 96 = .ok (.iadd, 1) := by decide +kernel
theorem dX12_fill_97 : decode cX12_fill 97 = .ok (.lload 4, 2) := by decide +kernel
theorem dX12_fill_99 : decode cX12_fill 99 = .ok (.bipush 8, 2) := by decide +kernel
theorem dX12_fill_101 : decode cX12_fill 101 = .ok (.iload 6, 2) := by decide +kernel
theorem dX12_fill_103 : decode cX12_fill 103 = .ok (.imul, 1) := by decide +kernel
theorem dX12_fill_104 : decode cX12_fill 104 = .ok (.lshr, 1) := by decide +kernel
theorem dX12_fill_105 : decode cX12_fill 105 = .ok (.l2i, 1) := by decide +kernel
theorem dX12_fill_106 : decode cX12_fill 106 = .ok (.i2b, 1) := by decide +kernel
theorem dX12_fill_107 : decode cX12_fill 107 = .ok (.bastore, 1) := by decide +kernel
theorem dX12_fill_108 : decode cX12_fill 108 = .ok (.iinc 6 1, 3) := by decide +kernel
theorem dX12_fill_111 : decode cX12_fill 111 = .ok (.goto (-55), 3) := by decide +kernel
theorem dX12_fill_114 : decode cX12_fill 114 = .ok (.return_, 1) := by decide +kernel
theorem dX12_symbol_0 : decode cX12_symbol 0 = .ok (.aload_n 0, 1) := by decide +kernel
theorem dX12_symbol_1 : decode cX12_symbol 1 = .ok (.iload_n 1, 1) := by decide +kernel
theorem dX12_symbol_2 : decode cX12_symbol 2 = .ok (.invokevirtual 130, 3) := by decide +kernel
theorem dX12_symbol_5 : decode cX12_symbol 5 = .ok (.ifCond .eq 36, 3) := by decide +kernel
theorem dX12_symbol_8 : decode cX12_symbol 8 = .ok (.iload_n 2, 1) := by decide +kernel
theorem dX12_symbol_9 : decode cX12_symbol 9 = .ok (.iconst 0, 1) := by decide +kernel
theorem dX12_symbol_10 : decode cX12_symbol 10 = .ok (.bipush 30, 2) := by decide +kernel
theorem dX12_symbol_12 : decode cX12_symbol 12 = .ok (.invokestatic 126, 3) := by decide +kernel
theorem dX12_symbol_15 : decode cX12_symbol 15 = .ok (.ifCond .eq 26, 3) := by decide +kernel
theorem dX12_symbol_18 : decode cX12_symbol 18 = .ok (.iload_n 3, 1) := by decide +kernel
theorem dX12_symbol_19 : decode cX12_symbol 19 = .ok (.iconst 0, 1) := by decide +kernel
theorem dX12_symbol_20 : decode cX12_symbol 20 = .ok (.iconst 1, 1) := by decide +kernel
theorem dX12_symbol_21 : decode cX12_symbol 21 = .ok (.invokestatic 126, 3) := by decide +kernel
theorem dX12_symbol_24 : decode cX12_symbol 24 = .ok (.ifCond .eq 17, 3) := by decide +kernel
theorem dX12_symbol_27 : decode cX12_symbol 27 = .ok (.iload 4, 2) := by decide +kernel
theorem dX12_symbol_29 : decode cX12_symbol 29 = .ok (.iconst 0, 1) := by decide +kernel
theorem dX12_symbol_30 : decode cX12_symbol 30 = .ok (.iconst 2, 1) := by decide +kernel
theorem dX12_symbol_31 : decode cX12_symbol 31 = .ok (.invokestatic 126, 3) := by decide +kernel
theorem dX12_symbol_34 : decode cX12_symbol 34 = .ok (.ifCond .eq 7, 3) := by decide +kernel
theorem dX12_symbol_37 : decode cX12_symbol 37 = .ok (.iconst 1, 1) := by decide +kernel
theorem dX12_symbol_38 : decode cX12_symbol 38 = .ok (.goto 4, 3) := by decide +kernel
theorem dX12_symbol_41 : decode cX12_symbol 41 = .ok (.iconst 0, 1) := by decide +kernel
theorem dX12_symbol_42 : decode cX12_symbol 42 = .ok (.istore 7, 2) := by decide +kernel
theorem dX12_symbol_44 : decode cX12_symbol 44 = .ok (.iload 7, 2) := by decide +kernel
theorem dX12_symbol_46 : decode cX12_symbol 46 = .ok (.ifCond .eq 32, 3) := by decide +kernel
theorem dX12_symbol_49 : decode cX12_symbol 49 = .ok (.iload 5, 2) := by decide +kernel
theorem dX12_symbol_51 : decode cX12_symbol 51 = .ok (.iconst (-1), 1) := by decide +kernel
theorem dX12_symbol_52 : decode cX12_symbol 52 = .ok (.if_icmp .eq 26, 3) := by decide +kernel
theorem dX12_symbol_55 : decode cX12_symbol 55 = .ok (.iload_n 3, 1) := by decide +kernel
theorem dX12_symbol_56 : decode cX12_symbol 56 = .ok (.ifCond .ne 13, 3) := by decide +kernel
theorem dX12_symbol_59 : decode cX12_symbol 59 = .ok (.aload_n 0, 1) := by decide +kernel
theorem dX12_symbol_60 : decode cX12_symbol 60 = .ok (.iload_n 1, 1) := by decide +kernel
theorem dX12_symbol_61 : decode cX12_symbol 61 = .ok (.iload 5, 2) := by decide +kernel
theorem dX12_symbol_63 : decode cX12_symbol 63 = .ok (.invokevirtual 138, 3) := by decide +kernel
theorem dX12_symbol_66 : decode cX12_symbol 66 = .ok (.goto 10, 3) := by decide +kernel
theorem dX12_symbol_69 : decode cX12_symbol 69 = .ok (.aload_n 0, 1) := by decide +kernel
theorem dX12_symbol_70 : decode cX12_symbol 70 = .ok (.iload_n 1, 1) := by decide +kernel
theorem dX12_symbol_71 : decode cX12_symbol 71 = .ok (.iload 5, 2) := by decide +kernel
theorem dX12_symbol_73 : decode cX12_symbol 73 = .ok (.invokevirtual 142, 3) := by decide +kernel
theorem dX12_symbol_76 : decode cX12_symbol 76 = .ok (.istore 7, 2) := by decide +kernel
theorem dX12_symbol_78 : decode cX12_symbol 78 = .ok (.iload 7, 2) := by decide +kernel
theorem dX12_symbol_80 : decode cX12_symbol 80 = .ok (.ifCond .eq 57, 3) := by decide +kernel
theorem dX12_symbol_83 : decode cX12_symbol 83 = .ok (.iload_n 3, 1) := by decide +kernel
theorem dX12_symbol_84 : decode cX12_symbol 84 = .ok (.ifCond .ne 24, 3) := by decide +kernel
theorem dX12_symbol_87 : decode cX12_symbol 87 = .ok (.iload 6, 2) := by decide +kernel
theorem dX12_symbol_89 : decode cX12_symbol 89 = .ok (.iconst 0, 1) := by decide +kernel
theorem dX12_symbol_90 : decode cX12_symbol 90 = .ok (.iload 5, 2) := by decide +kernel
theorem dX12_symbol_92 : decode cX12_symbol 92 = .ok (.iconst (-1), 1) := by decide +kernel
theorem dX12_symbol_93 : decode cX12_symbol 93 = .ok (.if_icmp .ne 8, 3) := by decide +kernel
theorem dX12_symbol_96 : decode cX12_symbol 96 = .ok (.bipush 9, 2) := by decide +kernel
theorem dX12_symbol_98 : decode cX12_symbol 98 = .ok (.goto 4, 3) := by decide +kernel
theorem dX12_symbol_101 : decode cX12_symbol 101 = .ok (.iconst 0, 1) := by decide +kernel
theorem dX12_symbol_102 : decode cX12_symbol 102 = .ok (.invokestatic 126, 3) := by decide +kernel
theorem dX12_symbol_105 : decode cX12_symbol 105 = .ok (.goto 30, 3) := by decide +kernel
theorem dX12_symbol_108 : decode cX12_symbol 108 = .ok (.iload 6, 2) := by decide +kernel
theorem dX12_symbol_110 : decode cX12_symbol 110 = .ok (.iconst 0, 1) := by decide +kernel
theorem dX12_symbol_111 : decode cX12_symbol 111 = .ok (.iload 5, 2) := by decide +kernel
theorem dX12_symbol_113 : decode cX12_symbol 113 = .ok (.iconst (-1), 1) := by decide +kernel
theorem dX12_symbol_114 : decode cX12_symbol 114 = .ok (.if_icmp .ne 7, 3) := by decide +kernel
theorem dX12_symbol_117 : decode cX12_symbol 117 = .ok (.iconst 0, 1) := by decide +kernel
theorem dX12_symbol_118 : decode cX12_symbol 118 = .ok (.goto 14, 3) := by decide +kernel
theorem dX12_symbol_121 : decode cX12_symbol 121 = .ok (.aload_n 0, 1) := by decide +kernel
theorem dX12_symbol_122 : decode cX12_symbol 122 = .ok (.getfield 37, 3) := by decide +kernel
theorem dX12_symbol_125 : decode cX12_symbol 125 = .ok (.iconst 4, 1) := by decide +kernel
theorem dX12_symbol_126 : decode cX12_symbol 126 = .ok (.iload_n 1, 1) := by decide +kernel
theorem dX12_symbol_127 : decode cX12_symbol 127 = .ok (.imul, 1) := by decide +kernel
theorem dX12_symbol_128 : decode cX12_symbol 128 = .ok (.iload 5, 2) := by decide +kernel
theorem dX12_symbol_130 : decode cX12_symbol 130 = .ok (.iadd, 1) := by decide +kernel
theorem dX12_symbol_131 : decode cX12_symbol 131 = .ok (.iaload, 1) := by decide +kernel
theorem dX12_symbol_132 : decode cX12_symbol 132 = .ok (.invokestatic 126, 3) := by decide +kernel
theorem dX12_symbol_135 : decode cX12_symbol 135 = .ok (.istore 7, 2) := by decide +kernel
theorem dX12_symbol_137 : decode cX12_symbol 137 = .ok (.aload_n 0, 1) := by decide +kernel
theorem dX12_symbol_138 : decode cX12_symbol 138 = .ok (.iload 7, 2) := by decide +kernel
theorem dX12_symbol_140 : decode cX12_symbol 140 = .ok (.ifCond .ne 7, 3) := by decide +kernel
theorem dX12_symbol_143 : decode cX12_symbol 143 = .ok (.iconst 1, 1) := by decide +kernel
theorem dX12_symbol_144 : decode cX12_symbol 144 = .ok (.goto 19, 3) := by decide +kernel
theorem dX12_symbol_147 : decode cX12_symbol 147 = .ok (.aload_n 0, 1) := by decide +kernel
theorem dX12_symbol_148 : decode cX12_symbol 148 = .ok (.getfield 16, 3) := by decide +kernel
theorem dX12_symbol_151 : decode cX12_symbol 151 = .ok (.iload_n 1, 1) := by decide +kernel
theorem dX12_symbol_152 : decode cX12_symbol 152 = .ok (.iaload, 1) := by decide +kernel
theorem dX12_symbol_153 : decode cX12_symbol 153 = .ok (.bipush 16, 2) := by decide +kernel
theorem dX12_symbol_155 : decode cX12_symbol 155 = .ok (.if_icmp .ne 7, 3) := by decide +kernel
theorem dX12_symbol_158 : decode cX12_symbol 158 = .ok (.iconst 2, 1) := by decide +kernel
theorem dX12_symbol_159 : decode cX12_symbol 159 = .ok (.goto 4, 3) := by decide +kernel
theorem dX12_symbol_162 : decode cX12_symbol 162 = .ok (.iconst 0, 1) := by decide +kernel
theorem dX12_symbol_163 : decode cX12_symbol 163 = .ok (.putfield 120, 3) := by decide +kernel
theorem dX12_symbol_166 : decode cX12_symbol 166 = .ok (.aload_n 0, 1) := by decide +kernel
theorem dX12_symbol_167 : decode cX12_symbol 167 = .ok (.getfield 120, 3) := by decide +kernel
theorem dX12_symbol_170 : decode cX12_symbol 170 = .ok (.ifCond .le 5, 3) := by decide +kernel
theorem dX12_symbol_173 : decode cX12_symbol 173 = .ok (.iconst 0, 1) := by decide +kernel
theorem dX12_symbol_174 : decode cX12_symbol 174 = .ok (.ireturn, 1) := by decide +kernel
theorem dX12_symbol_175 : decode cX12_symbol 175 = .ok (.aload_n 0, 1) := by decide +kernel
theorem dX12_symbol_176 : decode cX12_symbol 176 = .ok (.iconst 0, 1) := by decide +kernel
theorem dX12_symbol_177 : decode cX12_symbol 177 = .ok (.putfield 134, 3) := by decide +kernel
theorem dX12_symbol_180 : decode cX12_symbol 180 = .ok (.bipush 16, 2) := by decide +kernel
theorem dX12_symbol_182 : decode cX12_symbol 182 = .ok (.iload_n 1, 1) := by decide +kernel
theorem dX12_symbol_183 : decode cX12_symbol 183 = .ok (.imul, 1) := by decide +kernel
theorem dX12_symbol_184 : decode cX12_symbol 184 = .ok (.aload_n 0, 1) := by decide +kernel
theorem dX12_symbol_185 : decode cX12_symbol 185 = .ok (.getfield 16, 3) := by decide +kernel
theorem dX12_symbol_188 : decode cX12_symbol 188 = .ok (.iload_n 1, 1) := by decide +kernel
theorem dX12_symbol_189 : decode cX12_symbol 189 = .ok (.iaload, 1) := by decide +kernel
theorem dX12_symbol_190 : decode cX12_symbol 190 = .ok (.iadd, 1) := by decide +kernel
theorem dX12_symbol_191 : decode cX12_symbol 191 = .ok (.istore 8, 2) := by decide +kernel
theorem dX12_symbol_193 : decode cX12_symbol 193 = .ok (.aload_n 0, 1) := by decide +kernel
theorem dX12_symbol_194 : decode cX12_symbol 194 = .ok (.getfield 47, 3) := by decide +kernel
theorem dX12_symbol_197 : decode cX12_symbol 197 = .ok (.iload 8, 2) := by decide +kernel
theorem dX12_symbol_199 : decode cX12_symbol 199 = .ok (.iload_n 2, 1) := by decide +kernel
theorem dX12_symbol_200 : decode cX12_symbol 200 = .ok (.iastore, 1) := by decide +kernel
theorem dX12_symbol_201 : decode cX12_symbol 201 = .ok (.aload_n 0, 1) := by decide +kernel
theorem dX12_symbol_202 : decode cX12_symbol 202 = .ok (.getfield 50, 3) := by decide +kernel
theorem dX12_symbol_205 : decode cX12_symbol 205 = .ok (.iload 8, 2) := by decide +kernel
theorem dX12_symbol_207 : decode cX12_symbol 207 = .ok (.iload_n 3, 1) := by decide +kernel
theorem dX12_symbol_208 : decode cX12_symbol 208 = .ok (.iastore, 1) := by decide +kernel
theorem dX12_symbol_209 : decode cX12_symbol 209 = .ok (.aload_n 0, 1) := by decide +kernel
theorem dX12_symbol_210 : decode cX12_symbol 210 = .ok (.getfield 53, 3) := by decide +kernel
theorem dX12_symbol_213 : decode cX12_symbol 213 = .ok (.iload 8, 2) := by decide +kernel
theorem dX12_symbol_215 : decode cX12_symbol 215 = .ok (.iload 4, 2) := by decide +kernel
theorem dX12_symbol_217 : decode cX12_symbol 217 = .ok (.iastore, 1) := by decide +kernel
theorem dX12_symbol_218 : decode cX12_symbol 218 = .ok (.aload_n 0, 1) := by decide +kernel
theorem dX12_symbol_219 : decode cX12_symbol 219 = .ok (.getfield 56, 3) := by decide +kernel
theorem dX12_symbol_222 : decode cX12_symbol 222 = .ok (.iload 8, 2) := by decide +kernel
theorem dX12_symbol_224 : decode cX12_symbol 224 = .ok (.iload 5, 2) := by decide +kernel
theorem dX12_symbol_226 : decode cX12_symbol 226 = .ok (.iastore, 1) := by decide +kernel
theorem dX12_symbol_227 : decode cX12_symbol 227 = .ok (.aload_n 0, 1) := by decide +kernel
theorem dX12_symbol_228 : decode cX12_symbol 228 = .ok (.getfield 59, 3) := by decide +kernel
theorem dX12_symbol_231 : decode cX12_symbol 231 = .ok (.iload 8, 2) := by decide +kernel
theorem dX12_symbol_233 : decode cX12_symbol 233 = .ok (.iload 6, 2) := by decide +kernel
theorem dX12_symbol_235 : decode cX12_symbol 235 = .ok (.iastore, 1) := by decide +kernel
theorem dX12_symbol_236 : decode cX12_symbol 236 = .ok (.aload_n 0, 1) := by decide +kernel
theorem dX12_symbol_237 : decode cX12_symbol 237 = .ok (.getfield 16, 3) := by decide +kernel
theorem dX12_symbol_240 : decode cX12_symbol 240 = .ok (.iload_n 1, 1) := by decide +kernel
theorem dX12_symbol_241 : decode cX12_symbol 241 = .ok (.dup2, 1) := by decide +kernel
theorem dX12_symbol_242 : decode cX12_symbol 242 = .ok (.iaload, 1) := by decide +kernel
theorem dX12_symbol_243 : decode cX12_symbol 243 = .ok (.iconst 1, 1) := by decide +kernel
theorem dX12_symbol_244 : decode cX12_symbol 244 = .ok (.iadd, 1) := by decide +kernel
theorem dX12_symbol_245 : decode cX12_symbol 245 = .ok (.iastore, 1) := by decide +kernel
theorem dX12_symbol_246 : decode cX12_symbol 246 = .ok (.aload_n 0, 1) := by decide +kernel
theorem dX12_symbol_247 : decode cX12_symbol 247 = .ok (.getfield 16, 3) := by decide +kernel
theorem dX12_symbol_250 : decode cX12_symbol 250 = .ok (.iload_n 1, 1) := by decide +kernel
theorem dX12_symbol_251 : decode cX12_symbol 251 = .ok (.iaload, 1) := by decide +kernel
theorem dX12_symbol_252 : decode cX12_symbol 252 = .ok (.iconst 1, 1) := by decide +kernel
theorem dX12_symbol_253 : decode cX12_symbol 253 = .ok (.isub, 1) := by decide +kernel
theorem dX12_symbol_254 : decode cX12_symbol 254 = .ok (.ireturn, 1) := by decide +kernel
theorem dX12_meaning_0 : decode cX12_meaning 0 = .ok (.aload_n 0, 1) := by decide +kernel
theorem dX12_meaning_1 : decode cX12_meaning 1 = .ok (.getfield 53, 3) := by decide +kernel
theorem dX12_meaning_4 : decode cX12_meaning 4 = .ok (.iload_n 1, 1) := by decide +kernel
theorem dX12_meaning_5 : decode cX12_meaning 5 = .ok (.iaload, 1) := by decide +kernel
theorem dX12_meaning_6 : decode cX12_meaning 6 = .ok (.iconst 2, 1) := by decide +kernel
theorem dX12_meaning_7 : decode cX12_meaning 7 = .ok (.if_icmp .ne 19, 3) := by decide +kernel
theorem dX12_meaning_10 : decode cX12_meaning 10 = .ok (.aload_n 0, 1) := by decide +kernel
theorem dX12_meaning_11 : decode cX12_meaning 11 = .ok (.getfield 56, 3) := by decide +kernel
theorem dX12_meaning_14 : decode cX12_meaning 14 = .ok (.iload_n 1, 1) := by decide +kernel
theorem dX12_meaning_15 : decode cX12_meaning 15 = .ok (.iaload, 1) := by decide +kernel
theorem dX12_meaning_16 : decode cX12_meaning 16 = .ok (.iconst (-1), 1) := by decide +kernel
theorem dX12_meaning_17 : decode cX12_meaning 17 = .ok (.if_icmp .ne 7, 3) := by decide +kernel
theorem dX12_meaning_20 : decode cX12_meaning 20 = .ok (.iconst (-1), 1) := by decide +kernel
theorem dX12_meaning_21 : decode cX12_meaning 21 = .ok (.goto 4, 3) := by decide +kernel
theorem dX12_meaning_24 : decode cX12_meaning 24 = .ok (.iload_n 1, 1) := by decide +kernel
theorem dX12_meaning_25 : decode cX12_meaning 25 = .ok (.ireturn, 1) := by decide +kernel
theorem dX12_meaning_26 : decode cX12_meaning 26 = .ok (.iconst (-1), 1) := by decide +kernel
theorem dX12_meaning_27 : decode cX12_meaning 27 = .ok (.istore_n 2, 1) := by decide +kernel
theorem dX12_meaning_28 : decode cX12_meaning 28 = .ok (.iconst 0, 1) := by decide +kernel
theorem dX12_meaning_29 : decode cX12_meaning 29 = .ok (.istore_n 3, 1) := by decide +kernel
theorem dX12_meaning_30 : decode cX12_meaning 30 = .ok (.iload_n 3, 1) := by decide +kernel
theorem dX12_meaning_31 : decode cX12_meaning 31 = .ok (.aload_n 0, 1) := by decide +kernel
theorem dX12_meaning_32 : decode cX12_meaning 32 = .ok (.getfield 123, 3) := by decide +kernel
theorem dX12_meaning_35 : decode cX12_meaning 35 = .ok (.if_icmp .ge 98, 3) := by decide +kernel
theorem dX12_meaning_38 : decode cX12_meaning 38 = .ok (.bipush 16, 2) := by decide +kernel
theorem dX12_meaning_40 : decode cX12_meaning 40 = .ok (.iload_n 3, 1) := by decide +kernel
theorem dX12_meaning_41 : decode cX12_meaning 41 = .ok (.imul, 1) := by decide +kernel
theorem dX12_meaning_42 : decode cX12_meaning 42 = .ok (.istore 4, 2) := by decide +kernel
theorem dX12_meaning_44 : decode cX12_meaning 44 = .ok (.iload 4, 2) := by decide +kernel
theorem dX12_meaning_46 : decode cX12_meaning 46 = .ok (.bipush 16, 2) := by decide +kernel
theorem dX12_meaning_48 : decode cX12_meaning 48 = .ok (.iload_n 3, 1) := by decide +kernel
theorem dX12_meaning_49 : decode cX12_meaning 49 = .ok (.imul, 1) := by decide +kernel
theorem dX12_meaning_50 : decode cX12_meaning 50 = .ok (.aload_n 0, 1) := by decide +kernel
theorem dX12_meaning_51 : decode cX12_meaning 51 = .ok (.getfield 16, 3) := by decide +kernel
theorem dX12_meaning_54 : decode cX12_meaning 54 = .ok (.iload_n 3, 1) := by decide +kernel
theorem dX12_meaning_55 : decode cX12_meaning 55 = .ok (.iaload, 1) := by decide +kernel
theorem dX12_meaning_56 : decode cX12_meaning 56 = .ok (.iadd, 1) := by decide +kernel
theorem dX12_meaning_57 : decode cX12_meaning 57 = .ok (.if_icmp .ge 70, 3) := by decide +kernel
theorem dX12_meaning_60 : decode cX12_meaning 60 = .ok (.aload_n 0, 1) := by decide +kernel
theorem dX12_meaning_61 : decode cX12_meaning 61 = .ok (.getfield 53, 3) := by decide +kernel
theorem dX12_meaning_64 : decode cX12_meaning 64 = .ok (.iload 4, 2) := by decide +kernel
theorem dX12_meaning_66 : decode cX12_meaning 66 = .ok (.iaload, 1) := by decide +kernel
theorem dX12_meaning_67 : decode cX12_meaning 67 = .ok (.iconst 2, 1) := by decide +kernel
theorem dX12_meaning_68 : decode cX12_meaning 68 = .ok (.if_icmp .eq 53, 3) := by decide +kernel
theorem dX12_meaning_71 : decode cX12_meaning 71 = .ok (.aload_n 0, 1) := by decide +kernel
theorem dX12_meaning_72 : decode cX12_meaning 72 = .ok (.getfield 47, 3) := by decide +kernel
theorem dX12_meaning_75 : decode cX12_meaning 75 = .ok (.iload 4, 2) := by decide +kernel
theorem dX12_meaning_77 : decode cX12_meaning 77 = .ok (.iaload, 1) := by decide +kernel
theorem dX12_meaning_78 : decode cX12_meaning 78 = .ok (.aload_n 0, 1) := by decide +kernel
theorem dX12_meaning_79 : decode cX12_meaning 79 = .ok (.getfield 47, 3) := by decide +kernel
theorem dX12_meaning_82 : decode cX12_meaning 82 = .ok (.iload_n 1, 1) := by decide +kernel
theorem dX12_meaning_83 : decode cX12_meaning 83 = .ok (.iaload, 1) := by decide +kernel
theorem dX12_meaning_84 : decode cX12_meaning 84 = .ok (.if_icmp .ne 37, 3) := by decide +kernel
theorem dX12_meaning_87 : decode cX12_meaning 87 = .ok (.aload_n 0, 1) := by decide +kernel
theorem dX12_meaning_88 : decode cX12_meaning 88 = .ok (.getfield 56, 3) := by decide +kernel
theorem dX12_meaning_91 : decode cX12_meaning 91 = .ok (.iload 4, 2) := by decide +kernel
theorem dX12_meaning_93 : decode cX12_meaning 93 = .ok (.iaload, 1) := by decide +kernel
theorem dX12_meaning_94 : decode cX12_meaning 94 = .ok (.iconst (-1), 1) := by decide +kernel
theorem dX12_meaning_95 : decode cX12_meaning 95 = .ok (.if_icmp .ne 6, 3) := by decide +kernel
theorem dX12_meaning_98 : decode cX12_meaning 98 = .ok (.goto 23, 3) := by decide +kernel
theorem dX12_meaning_101 : decode cX12_meaning 101 = .ok (.aload_n 0, 1) := by decide +kernel
theorem dX12_meaning_102 : decode cX12_meaning 102 = .ok (.getfield 53, 3) := by decide +kernel
theorem dX12_meaning_105 : decode cX12_meaning 105 = .ok (.iload 4, 2) := by decide +kernel
theorem dX12_meaning_107 : decode cX12_meaning 107 = .ok (.iaload, 1) := by decide +kernel
theorem dX12_meaning_108 : decode cX12_meaning 108 = .ok (.ifCond .ne 6, 3) := by decide +kernel
theorem dX12_meaning_111 : decode cX12_meaning 111 = .ok (.iload 4, 2) := by decide +kernel
theorem dX12_meaning_113 : decode cX12_meaning 113 = .ok (.ireturn, 1) := by decide +kernel
theorem dX12_meaning_114 : decode cX12_meaning 114 = .ok (.iload_n 2, 1) := by decide +kernel
theorem dX12_meaning_115 : decode cX12_meaning 115 = .ok (.ifCond .ge 6, 3) := by decide +kernel
theorem dX12_meaning_118 : decode cX12_meaning 118 = .ok (.iload 4, 2) := by decide +kernel
theorem dX12_meaning_120 : decode cX12_meaning 120 = .ok (.istore_n 2, 1) := by decide +kernel
theorem dX12_meaning_121 : decode cX12_meaning 121 = .ok (.iinc 4 1, 3) := by decide +kernel
theorem dX12_meaning_124 : decode cX12_meaning 124 = .ok (.goto (-80), 3) := by decide +kernel
theorem dX12_meaning_127 : decode cX12_meaning 127 = .ok (.iinc 3 1, 3) := by decide +kernel
theorem dX12_meaning_130 : decode cX12_meaning 130 = .ok (.goto (-100), 3) := by decide +kernel
theorem dX12_meaning_133 : decode cX12_meaning 133 = .ok (.iload_n 2, 1) := by decide +kernel
theorem dX12_meaning_134 : decode cX12_meaning 134 = .ok (.ireturn, 1) := by decide +kernel
theorem dX12_functionOf_0 : decode cX12_functionOf 0 = .ok (.aload_n 0, 1) := by decide +kernel
theorem dX12_functionOf_1 : decode cX12_functionOf 1 = .ok (.iload_n 1, 1) := by decide +kernel
theorem dX12_functionOf_2 : decode cX12_functionOf 2 = .ok (.invokevirtual 145, 3) := by decide +kernel
theorem dX12_functionOf_5 : decode cX12_functionOf 5 = .ok (.istore_n 2, 1) := by decide +kernel
theorem dX12_functionOf_6 : decode cX12_functionOf 6 = .ok (.iload_n 2, 1) := by decide +kernel
theorem dX12_functionOf_7 : decode cX12_functionOf 7 = .ok (.ifCond .ge 7, 3) := by decide +kernel
theorem dX12_functionOf_10 : decode cX12_functionOf 10 = .ok (.iconst (-1), 1) := by decide +kernel
theorem dX12_functionOf_11 : decode cX12_functionOf 11 = .ok (.goto 17, 3) := by decide +kernel
theorem dX12_functionOf_14 : decode cX12_functionOf 14 = .ok (.bipush 8, 2) := by decide +kernel
theorem dX12_functionOf_16 : decode cX12_functionOf 16 = .ok (.iload_n 2, 1) := by decide +kernel
theorem dX12_functionOf_17 : decode cX12_functionOf 17 = .ok (.bipush 16, 2) := by decide +kernel
theorem dX12_functionOf_19 : decode cX12_functionOf 19 = .ok (.idiv, 1) := by decide +kernel
theorem dX12_functionOf_20 : decode cX12_functionOf 20 = .ok (.imul, 1) := by decide +kernel
theorem dX12_functionOf_21 : decode cX12_functionOf 21 = .ok (.aload_n 0, 1) := by decide +kernel
theorem dX12_functionOf_22 : decode cX12_functionOf 22 = .ok (.getfield 56, 3) := by decide +kernel
theorem dX12_functionOf_25 : decode cX12_functionOf 25 = .ok (.iload_n 2, 1) := by decide +kernel
theorem dX12_functionOf_26 : decode cX12_functionOf 26 = .ok (.iaload, 1) := by decide +kernel
theorem dX12_functionOf_27 : decode cX12_functionOf 27 = .ok (.iadd, 1) := by decide +kernel
