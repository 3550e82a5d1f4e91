theorem dX3_divide_53 : decode cX3_divide 53 = .ok (.lload 4, 2) := by decide +kernel
theorem dX3_divide_55 : decode cX3_divide 55 = .ok (.lrem, 1) := by decide +kernel
theorem dX3_divide_56 : decode cX3_divide 56 = .ok (.invokevirtual 93, 3) := by decide +kernel
theorem dX3_divide_59 : decode cX3_divide 59 = .ok (.return_, 1) := by decide +kernel
theorem dX3_access_0 : decode cX3_access 0 = .ok (.iload_n 1, 1) := by decide +kernel
theorem dX3_access_1 : decode cX3_access 1 = .ok (.bipush 20, 2) := by decide +kernel
theorem dX3_access_3 : decode cX3_access 3 = .ok (.if_icmp .eq 9, 3) := by decide +kernel
theorem dX3_access_6 : decode cX3_access 6 = .ok (.iload_n 1, 1) := by decide +kernel
theorem dX3_access_7 : decode cX3_access 7 = .ok (.bipush 22, 2) := by decide +kernel
theorem dX3_access_9 : decode cX3_access 9 = .ok (.if_icmp .ne 7, 3) := by decide +kernel
theorem dX3_access_12 : decode cX3_access 12 = .ok (.iconst 1, 1) := by decide +kernel
theorem dX3_access_13 : decode cX3_access 13 = .ok (.goto 4, 3) := by decide +kernel
theorem dX3_access_16 : decode cX3_access 16 = .ok (.iconst 0, 1) := by decide +kernel
theorem dX3_access_17 : decode cX3_access 17 = .ok (.istore_n 3, 1) := by decide +kernel
theorem dX3_access_18 : decode cX3_access 18 = .ok (.iload_n 1, 1) := by decide +kernel
theorem dX3_access_19 : decode cX3_access 19 = .ok (.bipush 19, 2) := by decide +kernel
theorem dX3_access_21 : decode cX3_access 21 = .ok (.if_icmp .eq 9, 3) := by decide +kernel
theorem dX3_access_24 : decode cX3_access 24 = .ok (.iload_n 1, 1) := by decide +kernel
theorem dX3_access_25 : decode cX3_access 25 = .ok (.bipush 20, 2) := by decide +kernel
theorem dX3_access_27 : decode cX3_access 27 = .ok (.if_icmp .ne 8, 3) := by decide +kernel
theorem dX3_access_30 : decode cX3_access 30 = .ok (.bipush 8, 2) := by decide +kernel
theorem dX3_access_32 : decode cX3_access 32 = .ok (.goto 4, 3) := by decide +kernel
theorem dX3_access_35 : decode cX3_access 35 = .ok (.iconst 1, 1) := by decide +kernel
theorem dX3_access_36 : decode cX3_access 36 = .ok (.istore 4, 2) := by decide +kernel
theorem dX3_access_38 : decode cX3_access 38 = .ok (.iload_n 3, 1) := by decide +kernel
theorem dX3_access_39 : decode cX3_access 39 = .ok (.ifCond .eq 10, 3) := by decide +kernel
theorem dX3_access_42 : decode cX3_access 42 = .ok (.aload_n 0, 1) := by decide +kernel
theorem dX3_access_43 : decode cX3_access 43 = .ok (.invokevirtual 128, 3) := by decide +kernel
theorem dX3_access_46 : decode cX3_access 46 = .ok (.goto 4, 3) := by decide +kernel
theorem dX3_access_49 : decode cX3_access 49 = .ok (.lconst 0, 1) := by decide +kernel
theorem dX3_access_50 : decode cX3_access 50 = .ok (.lstore 5, 2) := by decide +kernel
theorem dX3_access_52 : decode cX3_access 52 = .ok (.aload_n 0, 1) := by decide +kernel
theorem dX3_access_53 : decode cX3_access 53 = .ok (.invokevirtual 128, 3) := by decide +kernel
theorem dX3_access_56 : decode cX3_access 56 = .ok (.lstore 7, 2) := by decide +kernel
theorem dX3_access_58 : decode cX3_access 58 = .ok (.lload 7, 2) := by decide +kernel
theorem dX3_access_60 : decode cX3_access 60 = .ok (.lconst 0, 1) := by decide +kernel
theorem dX3_access_61 : decode cX3_access 61 = .ok (.lcmp, 1) := by decide +kernel
theorem dX3_access_62 : decode cX3_access 62 = .ok (.ifCond .lt 18, 3) := by decide +kernel
theorem dX3_access_65 : decode cX3_access 65 = .ok (.lload 7, 2) := by decide +kernel
theorem dX3_access_67 : decode cX3_access 67 = .ok (.sipush 1024, 3) := by decide +kernel
theorem dX3_access_70 : decode cX3_access 70 = .ok (.iload 4, 2) := by decide +kernel
theorem dX3_access_72 : decode cX3_access 72 = .ok (.isub, 1) := by decide +kernel
theorem dX3_access_73 : decode cX3_access 73 = .ok (.iload_n 2, 1) := by decide +kernel
theorem dX3_access_74 : decode cX3_access 74 = .ok (.isub, 1) := by decide +kernel
theorem dX3_access_75 : decode cX3_access 75 = .ok (.i2l, 1) := by decide +kernel
theorem dX3_access_76 : decode cX3_access 76 = .ok (.lcmp, 1) := by decide +kernel
theorem dX3_access_77 : decode cX3_access 77 = .ok (.ifCond .le 9, 3) := by decide +kernel
theorem dX3_access_80 : decode cX3_access 80 = .ok (.aload_n 0, 1) := by decide +kernel
theorem dX3_access_81 : decode cX3_access 81 = .ok (.iconst 3, 1) := by decide +kernel
theorem dX3_access_82 : decode cX3_access 82 = .ok (.putfield 77, 3) := by decide +kernel
theorem dX3_access_85 : decode cX3_access 85 = .ok (.return_, 1) := by decide +kernel
theorem dX3_access_86 : decode cX3_access 86 = .ok (.lload 7, 2) := by decide +kernel
theorem dX3_access_88 : decode cX3_access 88 = .ok (.l2i, 1) := by decide +kernel
theorem dX3_access_89 : decode cX3_access 89 = .ok (.iload_n 2, 1) := by decide +kernel
theorem dX3_access_90 : decode cX3_access 90 = .ok (.iadd, 1) := by decide +kernel
theorem dX3_access_91 : decode cX3_access 91 = .ok (.istore 9, 2) := by decide +kernel
theorem dX3_access_93 : decode cX3_access 93 = .ok (.iload_n 3, 1) := by decide +kernel
theorem dX3_access_94 : decode cX3_access 94 = .ok (.ifCond .eq 19, 3) := by decide +kernel
theorem dX3_access_97 : decode cX3_access 97 = .ok (.aload_n 0, 1) := by decide +kernel
theorem dX3_access_98 : decode cX3_access 98 = .ok (.getfield 28, 3) := by decide +kernel
theorem dX3_access_101 : decode cX3_access 101 = .ok (.iload 9, 2) := by decide +kernel
theorem dX3_access_103 : decode cX3_access 103 = .ok (.iload 4, 2) := by decide +kernel
theorem dX3_access_105 : decode cX3_access 105 = .ok (.lload 5, 2) := by decide +kernel
theorem dX3_access_107 : decode cX3_access 107 = .ok (.invokestatic 187, 3) := by decide +kernel
theorem dX3_access_110 : decode cX3_access 110 = .ok (.goto 15, 3) := by decide +kernel
theorem dX3_access_113 : decode cX3_access 113 = .ok (.aload_n 0, 1) := by decide +kernel
theorem dX3_access_114 : decode cX3_access 114 = .ok (.aload_n 0, 1) := by decide +kernel
theorem dX3_access_115 : decode cX3_access 115 = .ok (.iload 9, 2) := by decide +kernel
theorem dX3_access_117 : decode cX3_access 117 = .ok (.iload 4, 2) := by decide +kernel
theorem dX3_access_119 : decode cX3_access 119 = .ok (.invokevirtual 191, 3) := by decide +kernel
theorem dX3_access_122 : decode cX3_access 122 = .ok (.invokevirtual 93, 3) := by decide +kernel
theorem dX3_access_125 : decode cX3_access 125 = .ok (.return_, 1) := by decide +kernel
theorem dX3_loaded_0 : decode cX3_loaded 0 = .ok (.lconst 0, 1) := by decide +kernel
theorem dX3_loaded_1 : decode cX3_loaded 1 = .ok (.lstore_n 3, 1) := by decide +kernel
theorem dX3_loaded_2 : decode cX3_loaded 2 = .ok (.iconst 0, 1) := by decide +kernel
theorem dX3_loaded_3 : decode cX3_loaded 3 = .ok (.istore 5, 2) := by decide +kernel
theorem dX3_loaded_5 : decode cX3_loaded 5 = .ok (.iload 5, 2) := by decide +kernel
theorem dX3_loaded_7 : decode cX3_loaded 7 = .ok (.iload_n 2, 1) := by decide +kernel
theorem dX3_loaded_8 : decode cX3_loaded 8 = .ok (.if_icmp .ge 32, 3) := by decide +kernel
theorem dX3_loaded_11 : decode cX3_loaded 11 = .ok (.lload_n 3, 1) := by decide +kernel
theorem dX3_loaded_12 : decode cX3_loaded 12 = .ok (.aload_n 0, 1) := by decide +kernel
theorem dX3_loaded_13 : decode cX3_loaded 13 = .ok (.getfield 28, 3) := by decide +kernel
theorem dX3_loaded_16 : decode cX3_loaded 16 = .ok (.iload_n 1, 1) := by decide +kernel
theorem dX3_loaded_17 : decode cX3_loaded 17 = .ok (.iload 5, 2) := by decide +kernel
theorem dX3_loaded_19 : decode cX3_loaded 19 = .ok (.iadd, 1) := by decide +kernel
theorem dX3_loaded_20 : decode cX3_loaded 20 = .ok (.baload, 1) := by decide +kernel
theorem dX3_loaded_21 : decode cX3_loaded 21 = .ok (.i2l, 1) := by decide +kernel
theorem dX3_loaded_22 : decode cX3_loaded 22 = .ok (.ldc2_w 195, 3) := by decide +kernel
theorem dX3_loaded_25 : decode cX3_loaded 25 = .ok (.land, 1) := by decide +kernel
theorem dX3_loaded_26 : decode cX3_loaded 26 = .ok (.bipush 8, 2) := by decide +kernel
theorem dX3_loaded_28 : decode cX3_loaded 28 = .ok (.iload 5, 2) := by decide +kernel
theorem dX3_loaded_30 : decode cX3_loaded 30 = .ok (.imul, 1) := by decide +kernel
theorem dX3_loaded_31 : decode cX3_loaded 31 = .ok (.lshl, 1) := by decide +kernel
theorem dX3_loaded_32 : decode cX3_loaded 32 = .ok (.lor, 1) := by decide +kernel
theorem dX3_loaded_33 : decode cX3_loaded 33 = .ok (.lstore_n 3, 1) := by decide +kernel
theorem dX3_loaded_34 : decode cX3_loaded 34 = .ok (.iinc 5 1, 3) := by decide +kernel
theorem dX3_loaded_37 : decode cX3_loaded 37 = .ok (.goto (-32), 3) := by decide +kernel
theorem dX3_loaded_40 : decode cX3_loaded 40 = .ok (.lload_n 3, 1) := by decide +kernel
theorem dX3_loaded_41 : decode cX3_loaded 41 = .ok (.lreturn, 1) := by decide +kernel
theorem dX3_go_0 : decode cX3_go 0 = .ok (.aload_n 1, 1) := by decide +kernel
theorem dX3_go_1 : decode cX3_go 1 = .ok (.getfield 132, 3) := by decide +kernel
theorem dX3_go_4 : decode cX3_go 4 = .ok (.iload_n 2, 1) := by decide +kernel
theorem dX3_go_5 : decode cX3_go 5 = .ok (.iaload, 1) := by decide +kernel
theorem dX3_go_6 : decode cX3_go 6 = .ok (.tableswitch 133 25 30 #[38, 67, 133, 87, 101, 124], 38) := by decide +kernel
theorem dX3_go_44 : decode cX3_go 44 = .ok (.aload_n 0, 1) := by decide +kernel
theorem dX3_go_45 : decode cX3_go 45 = .ok (.invokevirtual 128, 3) := by decide +kernel
theorem dX3_go_48 : decode cX3_go 48 = .ok (.lconst 0, 1) := by decide +kernel
theorem dX3_go_49 : decode cX3_go 49 = .ok (.lcmp, 1) := by decide +kernel
theorem dX3_go_50 : decode cX3_go 50 = .ok (.ifCond .ne 89, 3) := by decide +kernel
theorem dX3_go_53 : decode cX3_go 53 = .ok (.aload_n 0, 1) := by decide +kernel
theorem dX3_go_54 : decode cX3_go 54 = .ok (.getfield 21, 3) := by decide +kernel
theorem dX3_go_57 : decode cX3_go 57 = .ok (.aload_n 0, 1) := by decide +kernel
theorem dX3_go_58 : decode cX3_go 58 = .ok (.getfield 74, 3) := by decide +kernel
theorem dX3_go_61 : decode cX3_go 61 = .ok (.iconst 1, 1) := by decide +kernel
theorem dX3_go_62 : decode cX3_go 62 = .ok (.isub, 1) := by decide +kernel
theorem dX3_go_63 : decode cX3_go 63 = .ok (.aload_n 1, 1) := by decide +kernel
theorem dX3_go_64 : decode cX3_go 64 = .ok (.getfield 197, 3) := by decide +kernel
theorem dX3_go_67 : decode cX3_go 67 = .ok (.iload_n 2, 1) := by decide +kernel
theorem dX3_go_68 : decode cX3_go 68 = .ok (.iaload, 1) := by decide +kernel
theorem dX3_go_69 : decode cX3_go 69 = .ok (.iastore, 1) := by decide +kernel
theorem dX3_go_70 : decode cX3_go 70 = .ok (.goto 69, 3) := by decide +kernel
theorem dX3_go_73 : decode cX3_go 73 = .ok (.aload_n 0, 1) := by decide +kernel
theorem dX3_go_74 : decode cX3_go 74 = .ok (.getfield 21, 3) := by decide +kernel
theorem dX3_go_77 : decode cX3_go 77 = .ok (.aload_n 0, 1) := by decide +kernel
theorem dX3_go_78 : decode cX3_go 78 = .ok (.getfield 74, 3) := by decide +kernel
theorem dX3_go_81 : decode cX3_go 81 = .ok (.iconst 1, 1) := by decide +kernel
theorem dX3_go_82 : decode cX3_go 82 = .ok (.isub, 1) := by decide +kernel
theorem dX3_go_83 : decode cX3_go 83 = .ok (.aload_n 1, 1) := by decide +kernel
theorem dX3_go_84 : decode cX3_go 84 = .ok (.getfield 200, 3) := by decide +kernel
theorem dX3_go_87 : decode cX3_go 87 = .ok (.iload_n 2, 1) := by decide +kernel
theorem dX3_go_88 : decode cX3_go 88 = .ok (.iaload, 1) := by decide +kernel
theorem dX3_go_89 : decode cX3_go 89 = .ok (.iastore, 1) := by decide +kernel
theorem dX3_go_90 : decode cX3_go 90 = .ok (.goto 49, 3) := by decide +kernel
theorem dX3_go_93 : decode cX3_go 93 = .ok (.aload_n 0, 1) := by decide +kernel
theorem dX3_go_94 : decode cX3_go 94 = .ok (.aload_n 1, 1) := by decide +kernel
theorem dX3_go_95 : decode cX3_go 95 = .ok (.aload_n 1, 1) := by decide +kernel
theorem dX3_go_96 : decode cX3_go 96 = .ok (.getfield 197, 3) := by decide +kernel
theorem dX3_go_99 : decode cX3_go 99 = .ok (.iload_n 2, 1) := by decide +kernel
theorem dX3_go_100 : decode cX3_go 100 = .ok (.iaload, 1) := by decide +kernel
theorem dX3_go_101 : decode cX3_go 101 = .ok (.invokevirtual 203, 3) := by decide +kernel
theorem dX3_go_104 : decode cX3_go 104 = .ok (.goto 35, 3) := by decide +kernel
theorem dX3_go_107 : decode cX3_go 107 = .ok (.aload_n 0, 1) := by decide +kernel
theorem dX3_go_108 : decode cX3_go 108 = .ok (.invokevirtual 128, 3) := by decide +kernel
theorem dX3_go_111 : decode cX3_go 111 = .ok (.lconst 0, 1) := by decide +kernel
theorem dX3_go_112 : decode cX3_go 112 = .ok (.lcmp, 1) := by decide +kernel
theorem dX3_go_113 : decode cX3_go 113 = .ok (.ifCond .eq 26, 3) := by decide +kernel
theorem dX3_go_116 : decode cX3_go 116 = .ok (.aload_n 0, 1) := by decide +kernel
theorem dX3_go_117 : decode cX3_go 117 = .ok (.aload_n 1, 1) := by decide +kernel
theorem dX3_go_118 : decode cX3_go 118 = .ok (.aload_n 1, 1) := by decide +kernel
theorem dX3_go_119 : decode cX3_go 119 = .ok (.getfield 197, 3) := by decide +kernel
theorem dX3_go_122 : decode cX3_go 122 = .ok (.iload_n 2, 1) := by decide +kernel
theorem dX3_go_123 : decode cX3_go 123 = .ok (.iaload, 1) := by decide +kernel
theorem dX3_go_124 : decode cX3_go 124 = .ok (.invokevirtual 203, 3) := by decide +kernel
theorem dX3_go_127 : decode cX3_go 127 = .ok (.goto 12, 3) := by decide +kernel
theorem dX3_go_130 : decode cX3_go 130 = .ok (.aload_n 0, 1) := by decide +kernel
theorem dX3_go_131 : decode cX3_go 131 = .ok (.aload_n 1, 1) := by decide +kernel
theorem dX3_go_132 : decode cX3_go 132 = .ok (.iconst (-1), 1) := by decide +kernel
theorem dX3_go_133 : decode cX3_go 133 = .ok (.invokevirtual 203, 3) := by decide +kernel
theorem dX3_go_136 : decode cX3_go 136 = .ok (.goto 3, 3) := by decide +kernel
theorem dX3_go_139 : decode cX3_go 139 = .ok (.return_, 1) := by decide +kernel
theorem dX3_jump_0 : decode cX3_jump 0 = .ok (.iload_n 2, 1) := by decide +kernel
theorem dX3_jump_1 : decode cX3_jump 1 = .ok (.iconst (-1), 1) := by decide +kernel
theorem dX3_jump_2 : decode cX3_jump 2 = .ok (.if_icmp .ne 19, 3) := by decide +kernel
theorem dX3_jump_5 : decode cX3_jump 5 = .ok (.aload_n 0, 1) := by decide +kernel
theorem dX3_jump_6 : decode cX3_jump 6 = .ok (.getfield 21, 3) := by decide +kernel
theorem dX3_jump_9 : decode cX3_jump 9 = .ok (.aload_n 0, 1) := by decide +kernel
theorem dX3_jump_10 : decode cX3_jump 10 = .ok (.getfield 74, 3) := by decide +kernel
theorem dX3_jump_13 : decode cX3_jump 13 = .ok (.iconst 1, 1) := by decide +kernel
theorem dX3_jump_14 : decode cX3_jump 14 = .ok (.isub, 1) := by decide +kernel
theorem dX3_jump_15 : decode cX3_jump 15 = .ok (.aload_n 1, 1) := by decide +kernel
theorem dX3_jump_16 : decode cX3_jump 16 = .ok (.getfield 116, 3) := by decide +kernel
theorem dX3_jump_19 : decode cX3_jump 19 = .ok (.iastore, 1) := by decide +kernel
theorem dX3_jump_20 : decode cX3_jump 20 = .ok (.return_, 1) := by decide +kernel
theorem dX3_jump_21 : decode cX3_jump 21 = .ok (.aload_n 1, 1) := by decide +kernel
theorem dX3_jump_22 : decode cX3_jump 22 = .ok (.getfield 132, 3) := by decide +kernel
theorem dX3_jump_25 : decode cX3_jump 25 = .ok (.iload_n 2, 1) := by decide +kernel
theorem dX3_jump_26 : decode cX3_jump 26 = .ok (.iaload, 1) := by decide +kernel
theorem dX3_jump_27 : decode cX3_jump 27 = .ok (.bipush 24, 2) := by decide +kernel
theorem dX3_jump_29 : decode cX3_jump 29 = .ok (.if_icmp .ne 7, 3) := by decide +kernel
theorem dX3_jump_32 : decode cX3_jump 32 = .ok (.iconst 1, 1) := by decide +kernel
theorem dX3_jump_33 : decode cX3_jump 33 = .ok (.goto 4, 3) := by decide +kernel
theorem dX3_jump_36 : decode cX3_jump 36 = .ok (.iconst 0, 1) := by decide +kernel
theorem dX3_jump_37 : decode cX3_jump 37 = .ok (.istore_n 3, 1) := by decide +kernel
theorem dX3_jump_38 : decode cX3_jump 38 = .ok (.aload_n 0, 1) := by decide +kernel
theorem dX3_jump_39 : decode cX3_jump 39 = .ok (.getfield 25, 3) := by decide +kernel
theorem dX3_jump_42 : decode cX3_jump 42 = .ok (.aload_n 0, 1) := by decide +kernel
theorem dX3_jump_43 : decode cX3_jump 43 = .ok (.getfield 74, 3) := by decide +kernel
theorem dX3_jump_46 : decode cX3_jump 46 = .ok (.iconst 1, 1) := by decide +kernel
theorem dX3_jump_47 : decode cX3_jump 47 = .ok (.isub, 1) := by decide +kernel
theorem dX3_jump_48 : decode cX3_jump 48 = .ok (.iaload, 1) := by decide +kernel
theorem dX3_jump_49 : decode cX3_jump 49 = .ok (.aload_n 1, 1) := by decide +kernel
theorem dX3_jump_50 : decode cX3_jump 50 = .ok (.getfield 90, 3) := by decide +kernel
theorem dX3_jump_53 : decode cX3_jump 53 = .ok (.iadd, 1) := by decide +kernel
theorem dX3_jump_54 : decode cX3_jump 54 = .ok (.aload_n 1, 1) := by decide +kernel
theorem dX3_jump_55 : decode cX3_jump 55 = .ok (.getfield 113, 3) := by decide +kernel
theorem dX3_jump_58 : decode cX3_jump 58 = .ok (.iadd, 1) := by decide +kernel
theorem dX3_jump_59 : decode cX3_jump 59 = .ok (.aload_n 1, 1) := by decide +kernel
theorem dX3_jump_60 : decode cX3_jump 60 = .ok (.getfield 206, 3) := by decide +kernel
theorem dX3_jump_63 : decode cX3_jump 63 = .ok (.iload_n 2, 1) := by decide +kernel
theorem dX3_jump_64 : decode cX3_jump 64 = .ok (.iaload, 1) := by decide +kernel
theorem dX3_jump_65 : decode cX3_jump 65 = .ok (.iadd, 1) := by decide +kernel
theorem dX3_jump_66 : decode cX3_jump 66 = .ok (.istore 4, 2) := by decide +kernel
theorem dX3_jump_68 : decode cX3_jump 68 = .ok (.aload_n 0, 1) := by decide +kernel
theorem dX3_jump_69 : decode cX3_jump 69 = .ok (.iload 4, 2) := by decide +kernel
theorem dX3_jump_71 : decode cX3_jump 71 = .ok (.iload_n 3, 1) := by decide +kernel
theorem dX3_jump_72 : decode cX3_jump 72 = .ok (.ifCond .eq 7, 3) := by decide +kernel
theorem dX3_jump_75 : decode cX3_jump 75 = .ok (.iconst 0, 1) := by decide +kernel
theorem dX3_jump_76 : decode cX3_jump 76 = .ok (.goto 9, 3) := by decide +kernel
theorem dX3_jump_79 : decode cX3_jump 79 = .ok (.aload_n 1, 1) := by decide +kernel
theorem dX3_jump_80 : decode cX3_jump 80 = .ok (.getfield 141, 3) := by decide +kernel
theorem dX3_jump_83 : decode cX3_jump 83 = .ok (.iload_n 2, 1) := by decide +kernel
theorem dX3_jump_84 : decode cX3_jump 84 = .ok (.iaload, 1) := by decide +kernel
theorem dX3_jump_85 : decode cX3_jump 85 = .ok (.invokevirtual 124, 3) := by decide +kernel
theorem dX3_jump_88 : decode cX3_jump 88 = .ok (.aload_n 0, 1) := by decide +kernel
theorem dX3_jump_89 : decode cX3_jump 89 = .ok (.getfield 21, 3) := by decide +kernel
theorem dX3_jump_92 : decode cX3_jump 92 = .ok (.aload_n 0, 1) := by decide +kernel
theorem dX3_jump_93 : decode cX3_jump 93 = .ok (.getfield 74, 3) := by decide +kernel
theorem dX3_jump_96 : decode cX3_jump 96 = .ok (.iconst 1, 1) := by decide +kernel
theorem dX3_jump_97 : decode cX3_jump 97 = .ok (.isub, 1) := by decide +kernel
theorem dX3_jump_98 : decode cX3_jump 98 = .ok (.iload_n 3, 1) := by decide +kernel
theorem dX3_jump_99 : decode cX3_jump 99 = .ok (.ifCond .eq 7, 3) := by decide +kernel
theorem dX3_jump_102 : decode cX3_jump 102 = .ok (.iload_n 2, 1) := by decide +kernel
theorem dX3_jump_103 : decode cX3_jump 103 = .ok (.goto 9, 3) := by decide +kernel
theorem dX3_jump_106 : decode cX3_jump 106 = .ok (.aload_n 1, 1) := by decide +kernel
theorem dX3_jump_107 : decode cX3_jump 107 = .ok (.getfield 200, 3) := by decide +kernel
theorem dX3_jump_110 : decode cX3_jump 110 = .ok (.iload_n 2, 1) := by decide +kernel
theorem dX3_jump_111 : decode cX3_jump 111 = .ok (.iaload, 1) := by decide +kernel
theorem dX3_jump_112 : decode cX3_jump 112 = .ok (.iconst 1, 1) := by decide +kernel
theorem dX3_jump_113 : decode cX3_jump 113 = .ok (.iadd, 1) := by decide +kernel
theorem dX3_jump_114 : decode cX3_jump 114 = .ok (.iastore, 1) := by decide +kernel
theorem dX3_jump_115 : decode cX3_jump 115 = .ok (.return_, 1) := by decide +kernel
theorem dX3_enterMeant_0 : decode cX3_enterMeant 0 = .ok (.aload_n 1, 1) := by decide +kernel
theorem dX3_enterMeant_1 : decode cX3_enterMeant 1 = .ok (.ifnonnull 12, 3) := by decide +kernel
theorem dX3_enterMeant_4 : decode cX3_enterMeant 4 = .ok (.aload_n 0, 1) := by decide +kernel
theorem dX3_enterMeant_5 : decode cX3_enterMeant 5 = .ok (.bipush 7, 2) := by decide +kernel
theorem dX3_enterMeant_7 : decode cX3_enterMeant 7 = .ok (.putfield 77, 3) := by decide +kernel
theorem dX3_enterMeant_10 : decode cX3_enterMeant 10 = .ok (.goto 8, 3) := by decide +kernel
theorem dX3_enterMeant_13 : decode cX3_enterMeant 13 = .ok (.aload_n 0, 1) := by decide +kernel
theorem dX3_enterMeant_14 : decode cX3_enterMeant 14 = .ok (.aload_n 1, 1) := by decide +kernel
theorem dX3_enterMeant_15 : decode cX3_enterMeant 15 = .ok (.invokevirtual 97, 3) := by decide +kernel
theorem dX3_enterMeant_18 : decode cX3_enterMeant 18 = .ok (.return_, 1) := by decide +kernel
theorem dX3_enterSlot_0 : decode cX3_enterSlot 0 = .ok (.aload_n 0, 1) := by decide +kernel
theorem dX3_enterSlot_1 : decode cX3_enterSlot 1 = .ok (.invokevirtual 128, 3) := by decide +kernel
theorem dX3_enterSlot_4 : decode cX3_enterSlot 4 = .ok (.lstore_n 2, 1) := by decide +kernel
theorem dX3_enterSlot_5 : decode cX3_enterSlot 5 = .ok (.aload_n 0, 1) := by decide +kernel
theorem dX3_enterSlot_6 : decode cX3_enterSlot 6 = .ok (.getfield 32, 3) := by decide +kernel
theorem dX3_enterSlot_9 : decode cX3_enterSlot 9 = .ok (.ifnull 24, 3) := by decide +kernel
theorem dX3_enterSlot_12 : decode cX3_enterSlot 12 = .ok (.lload_n 2, 1) := by decide +kernel
theorem dX3_enterSlot_13 : decode cX3_enterSlot 13 = .ok (.lconst 1, 1) := by decide +kernel
theorem dX3_enterSlot_14 : decode cX3_enterSlot 14 = .ok (.lcmp, 1) := by decide +kernel
theorem dX3_enterSlot_15 : decode cX3_enterSlot 15 = .ok (.ifCond .lt 18, 3) := by decide +kernel
theorem dX3_enterSlot_18 : decode cX3_enterSlot 18 = .ok (.lload_n 2, 1) := by decide +kernel
theorem dX3_enterSlot_19 : decode cX3_enterSlot 19 = .ok (.aload_n 0, 1) := by decide +kernel
theorem dX3_enterSlot_20 : decode cX3_enterSlot 20 = .ok (.getfield 32, 3) := by decide +kernel
theorem dX3_enterSlot_23 : decode cX3_enterSlot 23 = .ok (.invokeinterface 48 1, 5) := by decide +kernel
theorem dX3_enterSlot_28 : decode cX3_enterSlot 28 = .ok (.i2l, 1) := by decide +kernel
theorem dX3_enterSlot_29 : decode cX3_enterSlot 29 = .ok (.lcmp, 1) := by decide +kernel
theorem dX3_enterSlot_30 : decode cX3_enterSlot 30 = .ok (.ifCond .le 9, 3) := by decide +kernel
theorem dX3_enterSlot_33 : decode cX3_enterSlot 33 = .ok (.aload_n 0, 1) := by decide +kernel
theorem dX3_enterSlot_34 : decode cX3_enterSlot 34 = .ok (.iconst 4, 1) := by decide +kernel
theorem dX3_enterSlot_35 : decode cX3_enterSlot 35 = .ok (.putfield 77, 3) := by decide +kernel
theorem dX3_enterSlot_38 : decode cX3_enterSlot 38 = .ok (.return_, 1) := by decide +kernel
theorem dX3_enterSlot_39 : decode cX3_enterSlot 39 = .ok (.aload_n 0, 1) := by decide +kernel
theorem dX3_enterSlot_40 : decode cX3_enterSlot 40 = .ok (.getfield 32, 3) := by decide +kernel
theorem dX3_enterSlot_43 : decode cX3_enterSlot 43 = .ok (.lload_n 2, 1) := by decide +kernel
theorem dX3_enterSlot_44 : decode cX3_enterSlot 44 = .ok (.l2i, 1) := by decide +kernel
theorem dX3_enterSlot_45 : decode cX3_enterSlot 45 = .ok (.iconst 1, 1) := by decide +kernel
theorem dX3_enterSlot_46 : decode cX3_enterSlot 46 = .ok (.isub, 1) := by decide +kernel
theorem dX3_enterSlot_47 : decode cX3_enterSlot 47 = .ok (.invokeinterface 54 2, 5) := by decide +kernel
theorem dX3_enterSlot_52 : decode cX3_enterSlot 52 = .ok (.checkcast 15, 3) := by decide +kernel
theorem dX3_enterSlot_55 : decode cX3_enterSlot 55 = .ok (.astore 4, 2) := by decide +kernel
theorem dX3_enterSlot_57 : decode cX3_enterSlot 57 = .ok (.aload 4, 2) := by decide +kernel
theorem dX3_enterSlot_59 : decode cX3_enterSlot 59 = .ok (.invokevirtual 209, 3) := by decide +kernel
theorem dX3_enterSlot_62 : decode cX3_enterSlot 62 = .ok (.iload_n 1, 1) := by decide +kernel
theorem dX3_enterSlot_63 : decode cX3_enterSlot 63 = .ok (.if_icmp .eq 11, 3) := by decide +kernel
theorem dX3_enterSlot_66 : decode cX3_enterSlot 66 = .ok (.aload_n 0, 1) := by decide +kernel
theorem dX3_enterSlot_67 : decode cX3_enterSlot 67 = .ok (.iconst 5, 1) := by decide +kernel
theorem dX3_enterSlot_68 : decode cX3_enterSlot 68 = .ok (.putfield 77, 3) := by decide +kernel
theorem dX3_enterSlot_71 : decode cX3_enterSlot 71 = .ok (.goto 9, 3) := by decide +kernel
theorem dX3_enterSlot_74 : decode cX3_enterSlot 74 = .ok (.aload_n 0, 1) := by decide +kernel
theorem dX3_enterSlot_75 : decode cX3_enterSlot 75 = .ok (.aload 4, 2) := by decide +kernel
theorem dX3_enterSlot_77 : decode cX3_enterSlot 77 = .ok (.invokevirtual 97, 3) := by decide +kernel
theorem dX3_enterSlot_80 : decode cX3_enterSlot 80 = .ok (.return_, 1) := by decide +kernel
theorem dX3_keep_0 : decode cX3_keep 0 = .ok (.iload_n 2, 1) := by decide +kernel
theorem dX3_keep_1 : decode cX3_keep 1 = .ok (.ifCond .ne 7, 3) := by decide +kernel
theorem dX3_keep_4 : decode cX3_keep 4 = .ok (.lconst 0, 1) := by decide +kernel
theorem dX3_keep_5 : decode cX3_keep 5 = .ok (.goto 7, 3) := by decide +kernel
theorem dX3_keep_8 : decode cX3_keep 8 = .ok (.aload_n 0, 1) := by decide +kernel
theorem dX3_keep_9 : decode cX3_keep 9 = .ok (.invokevirtual 128, 3) := by decide +kernel
theorem dX3_keep_12 : decode cX3_keep 12 = .ok (.lstore_n 3, 1) := by decide +kernel
theorem dX3_keep_13 : decode cX3_keep 13 = .ok (.aload_n 0, 1) := by decide +kernel
theorem dX3_keep_14 : decode cX3_keep 14 = .ok (.iload_n 1, 1) := by decide +kernel
theorem dX3_keep_15 : decode cX3_keep 15 = .ok (.putfield 71, 3) := by decide +kernel
theorem dX3_keep_18 : decode cX3_keep 18 = .ok (.iload_n 2, 1) := by decide +kernel
theorem dX3_keep_19 : decode cX3_keep 19 = .ok (.ifCond .eq 8, 3) := by decide +kernel
theorem dX3_keep_22 : decode cX3_keep 22 = .ok (.aload_n 0, 1) := by decide +kernel
theorem dX3_keep_23 : decode cX3_keep 23 = .ok (.lload_n 3, 1) := by decide +kernel
theorem dX3_keep_24 : decode cX3_keep 24 = .ok (.invokevirtual 93, 3) := by decide +kernel
theorem dX3_keep_27 : decode cX3_keep 27 = .ok (.return_, 1) := by decide +kernel
theorem dX3_push_0 : decode cX3_push 0 = .ok (.aload_n 0, 1) := by decide +kernel
theorem dX3_push_1 : decode cX3_push 1 = .ok (.getfield 71, 3) := by decide +kernel
theorem dX3_push_4 : decode cX3_push 4 = .ok (.aload_n 0, 1) := by decide +kernel
theorem dX3_push_5 : decode cX3_push 5 = .ok (.getfield 9, 3) := by decide +kernel
theorem dX3_push_8 : decode cX3_push 8 = .ok (.arraylength, 1) := by decide +kernel
theorem dX3_push_9 : decode cX3_push 9 = .ok (.if_icmp .ge 23, 3) := by decide +kernel
theorem dX3_push_12 : decode cX3_push 12 = .ok (.aload_n 0, 1) := by decide +kernel
theorem dX3_push_13 : decode cX3_push 13 = .ok (.getfield 9, 3) := by decide +kernel
theorem dX3_push_16 : decode cX3_push 16 = .ok (.aload_n 0, 1) := by decide +kernel
theorem dX3_push_17 : decode cX3_push 17 = .ok (.getfield 71, 3) := by decide +kernel
theorem dX3_push_20 : decode cX3_push 20 = .ok (.lload_n 1, 1) := by decide +kernel
theorem dX3_push_21 : decode cX3_push 21 = .ok (.lastore, 1) := by decide +kernel
theorem dX3_push_22 : decode cX3_push 22 = .ok (.aload_n 0, 1) := by decide +kernel
theorem dX3_push_23 : decode cX3_push 23 = .ok (.dup, 1) := by decide +kernel
theorem dX3_push_24 : decode cX3_push 24 = .ok (.getfield 71, 3) := by decide +kernel
theorem dX3_push_27 : decode cX3_push 27 = .ok (.iconst 1, 1) := by decide +kernel
theorem dX3_push_28 : decode cX3_push 28 = .ok (.iadd, 1) := by decide +kernel
theorem dX3_push_29 : decode cX3_push 29 = .ok (.putfield 71, 3) := by decide +kernel
theorem dX3_push_32 : decode cX3_push 32 = .ok (.return_, 1) := by decide +kernel
theorem dX3_pop_0 : decode cX3_pop 0 = .ok (.aload_n 0, 1) := by decide +kernel
theorem dX3_pop_1 : decode cX3_pop 1 = .ok (.getfield 71, 3) := by decide +kernel
theorem dX3_pop_4 : decode cX3_pop 4 = .ok (.ifCond .gt 5, 3) := by decide +kernel
theorem dX3_pop_7 : decode cX3_pop 7 = .ok (.lconst 0, 1) := by decide +kernel
theorem dX3_pop_8 : decode cX3_pop 8 = .ok (.lreturn, 1) := by decide +kernel
theorem dX3_pop_9 : decode cX3_pop 9 = .ok (.aload_n 0, 1) := by decide +kernel
theorem dX3_pop_10 : decode cX3_pop 10 = .ok (.dup, 1) := by decide +kernel
theorem dX3_pop_11 : decode cX3_pop 11 = .ok (.getfield 71, 3) := by decide +kernel
theorem dX3_pop_14 : decode cX3_pop 14 = .ok (.iconst 1, 1) := by decide +kernel
theorem dX3_pop_15 : decode cX3_pop 15 = .ok (.isub, 1) := by decide +kernel
theorem dX3_pop_16 : decode cX3_pop 16 = .ok (.putfield 71, 3) := by decide +kernel
theorem dX3_pop_19 : decode cX3_pop 19 = .ok (.aload_n 0, 1) := by decide +kernel
theorem dX3_pop_20 : decode cX3_pop 20 = .ok (.getfield 9, 3) := by decide +kernel
theorem dX3_pop_23 : decode cX3_pop 23 = .ok (.aload_n 0, 1) := by decide +kernel
theorem dX3_pop_24 : decode cX3_pop 24 = .ok (.getfield 71, 3) := by decide +kernel
theorem dX3_pop_27 : decode cX3_pop 27 = .ok (.laload, 1) := by decide +kernel
theorem dX3_pop_28 : decode cX3_pop 28 = .ok (.lreturn, 1) := by decide +kernel
theorem dX4_init_0 : decode cX4_init 0 = .ok (.aload_n 0, 1) := by decide +kernel
theorem dX4_init_1 : decode cX4_init 1 = .ok (.invokespecial 3, 3) := by decide +kernel
theorem dX4_init_4 : decode cX4_init 4 = .ok (.aload_n 0, 1) := by decide +kernel
theorem dX4_init_5 : decode cX4_init 5 = .ok (.new 9, 3) := by decide +kernel
theorem dX4_init_8 : decode cX4_init 8 = .ok (.dup, 1) := by decide +kernel
theorem dX4_init_9 : decode cX4_init 9 = .ok (.invokespecial 11, 3) := by decide +kernel
theorem dX4_init_12 : decode cX4_init 12 = .ok (.putfield 12, 3) := by decide +kernel
theorem dX4_init_15 : decode cX4_init 15 = .ok (.aload_n 0, 1) := by decide +kernel
theorem dX4_init_16 : decode cX4_init 16 = .ok (.new 9, 3) := by decide +kernel
theorem dX4_init_19 : decode cX4_init 19 = .ok (.dup, 1) := by decide +kernel
theorem dX4_init_20 : decode cX4_init 20 = .ok (.invokespecial 11, 3) := by decide +kernel
theorem dX4_init_23 : decode cX4_init 23 = .ok (.putfield 18, 3) := by decide +kernel
theorem dX4_init_26 : decode cX4_init 26 = .ok (.aload_n 0, 1) := by decide +kernel
theorem dX4_init_27 : decode cX4_init 27 = .ok (.new 9, 3) := by decide +kernel
theorem dX4_init_30 : decode cX4_init 30 = .ok (.dup, 1) := by decide +kernel
theorem dX4_init_31 : decode cX4_init 31 = .ok (.invokespecial 11, 3) := by decide +kernel
theorem dX4_init_34 : decode cX4_init 34 = .ok (.putfield 21, 3) := by decide +kernel
theorem dX4_init_37 : decode cX4_init 37 = .ok (.return_, 1) := by decide +kernel
theorem dX4_write_0 : decode cX4_write 0 = .ok (.aload_n 0, 1) := by decide +kernel
theorem dX4_write_1 : decode cX4_write 1 = .ok (.getfield 12, 3) := by decide +kernel
theorem dX4_write_4 : decode cX4_write 4 = .ok (.iconst 0, 1) := by decide +kernel
theorem dX4_write_5 : decode cX4_write 5 = .ok (.putfield 24, 3) := by decide +kernel
theorem dX4_write_8 : decode cX4_write 8 = .ok (.aload_n 0, 1) := by decide +kernel
theorem dX4_write_9 : decode cX4_write 9 = .ok (.invokevirtual 28, 3) := by decide +kernel
theorem dX4_write_12 : decode cX4_write 12 = .ok (.aload_n 0, 1) := by decide +kernel
theorem dX4_write_13 : decode cX4_write 13 = .ok (.aload_n 1, 1) := by decide +kernel
theorem dX4_write_14 : decode cX4_write 14 = .ok (.invokevirtual 31, 3) := by decide +kernel
theorem dX4_write_17 : decode cX4_write 17 = .ok (.aload_n 0, 1) := by decide +kernel
theorem dX4_write_18 : decode cX4_write 18 = .ok (.aload_n 1, 1) := by decide +kernel
theorem dX4_write_19 : decode cX4_write 19 = .ok (.invokevirtual 35, 3) := by decide +kernel
theorem dX4_write_22 : decode cX4_write 22 = .ok (.aload_n 0, 1) := by decide +kernel
theorem dX4_write_23 : decode cX4_write 23 = .ok (.aload_n 1, 1) := by decide +kernel
theorem dX4_write_24 : decode cX4_write 24 = .ok (.invokevirtual 38, 3) := by decide +kernel
theorem dX4_write_27 : decode cX4_write 27 = .ok (.aload_n 0, 1) := by decide +kernel
theorem dX4_write_28 : decode cX4_write 28 = .ok (.aload_n 1, 1) := by decide +kernel
theorem dX4_write_29 : decode cX4_write 29 = .ok (.invokevirtual 41, 3) := by decide +kernel
theorem dX4_write_32 : decode cX4_write 32 = .ok (.aload_n 0, 1) := by decide +kernel
theorem dX4_write_33 : decode cX4_write 33 = .ok (.aload_n 1, 1) := by decide +kernel
theorem dX4_write_34 : decode cX4_write 34 = .ok (.invokevirtual 44, 3) := by decide +kernel
theorem dX4_write_37 : decode cX4_write 37 = .ok (.aload_n 0, 1) := by decide +kernel
theorem dX4_write_38 : decode cX4_write 38 = .ok (.aload_n 1, 1) := by decide +kernel
theorem dX4_write_39 : decode cX4_write 39 = .ok (.invokevirtual 47, 3) := by decide +kernel
theorem dX4_write_42 : decode cX4_write 42 = .ok (.return_, 1) := by decide +kernel
theorem dX4_writeHeader_0 : decode cX4_writeHeader 0 = .ok (.aload_n 0, 1) := by decide +kernel
theorem dX4_writeHeader_1 : decode cX4_writeHeader 1 = .ok (.getfield 12, 3) := by decide +kernel
theorem dX4_writeHeader_4 : decode cX4_writeHeader 4 = .ok (.iconst 0, 1) := by decide +kernel
theorem dX4_writeHeader_5 : decode cX4_writeHeader 5 = .ok (.invokevirtual 50, 3) := by decide +kernel
theorem dX4_writeHeader_8 : decode cX4_writeHeader 8 = .ok (.aload_n 0, 1) := by decide +kernel
theorem dX4_writeHeader_9 : decode cX4_writeHeader 9 = .ok (.getfield 12, 3) := by decide +kernel
theorem dX4_writeHeader_12 : decode cX4_writeHeader 12 = .ok (.bipush 97, 2) := by decide +kernel
theorem dX4_writeHeader_14 : decode cX4_writeHeader 14 = .ok (.invokevirtual 50, 3) := by decide +kernel
theorem dX4_writeHeader_17 : decode cX4_writeHeader 17 = .ok (.aload_n 0, 1) := by decide +kernel
theorem dX4_writeHeader_18 : decode cX4_writeHeader 18 = .ok (.getfield 12, 3) := by decide +kernel
theorem dX4_writeHeader_21 : decode cX4_writeHeader 21 = .ok (.bipush 115, 2) := by decide +kernel
theorem dX4_writeHeader_23 : decode cX4_writeHeader 23 = .ok (.invokevirtual 50, 3) := by decide +kernel
theorem dX4_writeHeader_26 : decode cX4_writeHeader 26 = .ok (.aload_n 0, 1) := by decide +kernel
theorem dX4_writeHeader_27 : decode cX4_writeHeader 27 = .ok (.getfield 12, 3) := by decide +kernel
theorem dX4_writeHeader_30 : decode cX4_writeHeader 30 = .ok (.bipush 109, 2) := by decide +kernel
theorem dX4_writeHeader_32 : decode cX4_writeHeader 32 = .ok (.invokevirtual 50, 3) := by decide +kernel
theorem dX4_writeHeader_35 : decode cX4_writeHeader 35 = .ok (.aload_n 0, 1) := by decide +kernel
theorem dX4_writeHeader_36 : decode cX4_writeHeader 36 = .ok (.getfield 12, 3) := by decide +kernel
theorem dX4_writeHeader_39 : decode cX4_writeHeader 39 = .ok (.iconst 1, 1) := by decide +kernel
theorem dX4_writeHeader_40 : decode cX4_writeHeader 40 = .ok (.invokevirtual 50, 3) := by decide +kernel
theorem dX4_writeHeader_43 : decode cX4_writeHeader 43 = .ok (.aload_n 0, 1) := by decide +kernel
theorem dX4_writeHeader_44 : decode cX4_writeHeader 44 = .ok (.getfield 12, 3) := by decide +kernel
theorem dX4_writeHeader_47 : decode cX4_writeHeader 47 = .ok (.iconst 0, 1) := by decide +kernel
theorem dX4_writeHeader_48 : decode cX4_writeHeader 48 = .ok (.invokevirtual 50, 3) := by decide +kernel
theorem dX4_writeHeader_51 : decode cX4_writeHeader 51 = .ok (.aload_n 0, 1) := by decide +kernel
theorem dX4_writeHeader_52 : decode cX4_writeHeader 52 = .ok (.getfield 12, 3) := by decide +kernel
theorem dX4_writeHeader_55 : decode cX4_writeHeader 55 = .ok (.iconst 0, 1) := by decide +kernel
theorem dX4_writeHeader_56 : decode cX4_writeHeader 56 = .ok (.invokevirtual 50, 3) := by decide +kernel
theorem dX4_writeHeader_59 : decode cX4_writeHeader 59 = .ok (.aload_n 0, 1) := by decide +kernel
theorem dX4_writeHeader_60 : decode cX4_writeHeader 60 = .ok (.getfield 12, 3) := by decide +kernel
theorem dX4_writeHeader_63 : decode cX4_writeHeader 63 = .ok (.iconst 0, 1) := by decide +kernel
theorem dX4_writeHeader_64 : decode cX4_writeHeader 64 = .ok (.invokevirtual 50, 3) := by decide +kernel
theorem dX4_writeHeader_67 : decode cX4_writeHeader 67 = .ok (.return_, 1) := by decide +kernel
theorem dX4_writeSection_0 : decode cX4_writeSection 0 = .ok (.aload_n 0, 1) := by decide +kernel
theorem dX4_writeSection_1 : decode cX4_writeSection 1 = .ok (.getfield 12, 3) := by decide +kernel
theorem dX4_writeSection_4 : decode cX4_writeSection 4 = .ok (.iload_n 1, 1) := by decide +kernel
theorem dX4_writeSection_5 : decode cX4_writeSection 5 = .ok (.invokevirtual 50, 3) := by decide +kernel
theorem dX4_writeSection_8 : decode cX4_writeSection 8 = .ok (.aload_n 0, 1) := by decide +kernel
theorem dX4_writeSection_9 : decode cX4_writeSection 9 = .ok (.getfield 12, 3) := by decide +kernel
theorem dX4_writeSection_12 : decode cX4_writeSection 12 = .ok (.aload_n 0, 1) := by decide +kernel
theorem dX4_writeSection_13 : decode cX4_writeSection 13 = .ok (.getfield 18, 3) := by decide +kernel
theorem dX4_writeSection_16 : decode cX4_writeSection 16 = .ok (.getfield 24, 3) := by decide +kernel
theorem dX4_writeSection_19 : decode cX4_writeSection 19 = .ok (.invokevirtual 54, 3) := by decide +kernel
theorem dX4_writeSection_22 : decode cX4_writeSection 22 = .ok (.aload_n 0, 1) := by decide +kernel
theorem dX4_writeSection_23 : decode cX4_writeSection 23 = .ok (.getfield 12, 3) := by decide +kernel
theorem dX4_writeSection_26 : decode cX4_writeSection 26 = .ok (.aload_n 0, 1) := by decide +kernel
theorem dX4_writeSection_27 : decode cX4_writeSection 27 = .ok (.getfield 18, 3) := by decide +kernel
theorem dX4_writeSection_30 : decode cX4_writeSection 30 = .ok (.getfield 57, 3) := by decide +kernel
theorem dX4_writeSection_33 : decode cX4_writeSection 33 = .ok (.aload_n 0, 1) := by decide +kernel
theorem dX4_writeSection_34 : decode cX4_writeSection 34 = .ok (.getfield 18, 3) := by decide +kernel
theorem dX4_writeSection_37 : decode cX4_writeSection 37 = .ok (.getfield 24, 3) := by decide +kernel
theorem dX4_writeSection_40 : decode cX4_writeSection 40 = .ok (.invokevirtual 61, 3) := by decide +kernel
theorem dX4_writeSection_43 : decode cX4_writeSection 43 = .ok (.aload_n 0, 1) := by decide +kernel
theorem dX4_writeSection_44 : decode cX4_writeSection 44 = .ok (.getfield 18, 3) := by decide +kernel
theorem dX4_writeSection_47 : decode cX4_writeSection 47 = .ok (.iconst 0, 1) := by decide +kernel
theorem dX4_writeSection_48 : decode cX4_writeSection 48 = .ok (.putfield 24, 3) := by decide +kernel
theorem dX4_writeSection_51 : decode cX4_writeSection 51 = .ok (.return_, 1) := by decide +kernel
theorem dX4_writeTypes_0 : decode cX4_writeTypes 0 = .ok (.aload_n 0, 1) := by decide +kernel
theorem dX4_writeTypes_1 : decode cX4_writeTypes 1 = .ok (.getfield 18, 3) := by decide +kernel
theorem dX4_writeTypes_4 : decode cX4_writeTypes 4 = .ok (.aload_n 1, 1) := by decide +kernel
theorem dX4_writeTypes_5 : decode cX4_writeTypes 5 = .ok (.getfield 65, 3) := by decide +kernel
theorem dX4_writeTypes_8 : decode cX4_writeTypes 8 = .ok (.invokevirtual 54, 3) := by decide +kernel
theorem dX4_writeTypes_11 : decode cX4_writeTypes 11 = .ok (.iconst 0, 1) := by decide +kernel
theorem dX4_writeTypes_12 : decode cX4_writeTypes 12 = .ok (.istore_n 2, 1) := by decide +kernel
theorem dX4_writeTypes_13 : decode cX4_writeTypes 13 = .ok (.iload_n 2, 1) := by decide +kernel
theorem dX4_writeTypes_14 : decode cX4_writeTypes 14 = .ok (.aload_n 1, 1) := by decide +kernel
theorem dX4_writeTypes_15 : decode cX4_writeTypes 15 = .ok (.getfield 65, 3) := by decide +kernel
theorem dX4_writeTypes_18 : decode cX4_writeTypes 18 = .ok (.if_icmp .ge 42, 3) := by decide +kernel
theorem dX4_writeTypes_21 : decode cX4_writeTypes 21 = .ok (.aload_n 0, 1) := by decide +kernel
theorem dX4_writeTypes_22 : decode cX4_writeTypes 22 = .ok (.getfield 18, 3) := by decide +kernel
theorem dX4_writeTypes_25 : decode cX4_writeTypes 25 = .ok (.bipush 96, 2) := by decide +kernel
theorem dX4_writeTypes_27 : decode cX4_writeTypes 27 = .ok (.invokevirtual 50, 3) := by decide +kernel
theorem dX4_writeTypes_30 : decode cX4_writeTypes 30 = .ok (.aload_n 0, 1) := by decide +kernel
theorem dX4_writeTypes_31 : decode cX4_writeTypes 31 = .ok (.aload_n 1, 1) := by decide +kernel
theorem dX4_writeTypes_32 : decode cX4_writeTypes 32 = .ok (.getfield 70, 3) := by decide +kernel
theorem dX4_writeTypes_35 : decode cX4_writeTypes 35 = .ok (.iload_n 2, 1) := by decide +kernel
theorem dX4_writeTypes_36 : decode cX4_writeTypes 36 = .ok (.iaload, 1) := by decide +kernel
theorem dX4_writeTypes_37 : decode cX4_writeTypes 37 = .ok (.iconst 2, 1) := by decide +kernel
theorem dX4_writeTypes_38 : decode cX4_writeTypes 38 = .ok (.idiv, 1) := by decide +kernel
theorem dX4_writeTypes_39 : decode cX4_writeTypes 39 = .ok (.invokevirtual 74, 3) := by decide +kernel
theorem dX4_writeTypes_42 : decode cX4_writeTypes 42 = .ok (.aload_n 0, 1) := by decide +kernel
theorem dX4_writeTypes_43 : decode cX4_writeTypes 43 = .ok (.aload_n 1, 1) := by decide +kernel
theorem dX4_writeTypes_44 : decode cX4_writeTypes 44 = .ok (.getfield 70, 3) := by decide +kernel
theorem dX4_writeTypes_47 : decode cX4_writeTypes 47 = .ok (.iload_n 2, 1) := by decide +kernel
theorem dX4_writeTypes_48 : decode cX4_writeTypes 48 = .ok (.iaload, 1) := by decide +kernel
theorem dX4_writeTypes_49 : decode cX4_writeTypes 49 = .ok (.iconst 2, 1) := by decide +kernel
theorem dX4_writeTypes_50 : decode cX4_writeTypes 50 = .ok (.irem, 1) := by decide +kernel
theorem dX4_writeTypes_51 : decode cX4_writeTypes 51 = .ok (.invokevirtual 74, 3) := by decide +kernel
theorem dX4_writeTypes_54 : decode cX4_writeTypes 54 = .ok (.iinc 2 1, 3) := by decide +kernel
theorem dX4_writeTypes_57 : decode cX4_writeTypes 57 = .ok (.goto (-44), 3) := by decide +kernel
theorem dX4_writeTypes_60 : decode cX4_writeTypes 60 = .ok (.aload_n 0, 1) := by decide +kernel
theorem dX4_writeTypes_61 : decode cX4_writeTypes 61 = .ok (.iconst 1, 1) := by decide +kernel
theorem dX4_writeTypes_62 : decode cX4_writeTypes 62 = .ok (.invokevirtual 77, 3) := by decide +kernel
theorem dX4_writeTypes_65 : decode cX4_writeTypes 65 = .ok (.return_, 1) := by decide +kernel
theorem dX4_writeValues_0 : decode cX4_writeValues 0 = .ok (.aload_n 0, 1) := by decide +kernel
theorem dX4_writeValues_1 : decode cX4_writeValues 1 = .ok (.getfield 18, 3) := by decide +kernel
theorem dX4_writeValues_4 : decode cX4_writeValues 4 = .ok (.iload_n 1, 1) := by decide +kernel
theorem dX4_writeValues_5 : decode cX4_writeValues 5 = .ok (.invokevirtual 54, 3) := by decide +kernel
theorem dX4_writeValues_8 : decode cX4_writeValues 8 = .ok (.iconst 0, 1) := by decide +kernel
theorem dX4_writeValues_9 : decode cX4_writeValues 9 = .ok (.istore_n 2, 1) := by decide +kernel
theorem dX4_writeValues_10 : decode cX4_writeValues 10 = .ok (.iload_n 2, 1) := by decide +kernel
theorem dX4_writeValues_11 : decode cX4_writeValues 11 = .ok (.iload_n 1, 1) := by decide +kernel
theorem dX4_writeValues_12 : decode cX4_writeValues 12 = .ok (.if_icmp .ge 18, 3) := by decide +kernel
theorem dX4_writeValues_15 : decode cX4_writeValues 15 = .ok (.aload_n 0, 1) := by decide +kernel
theorem dX4_writeValues_16 : decode cX4_writeValues 16 = .ok (.getfield 18, 3) := by decide +kernel
theorem dX4_writeValues_19 : decode cX4_writeValues 19 = .ok (.bipush 126, 2) := by decide +kernel
theorem dX4_writeValues_21 : decode cX4_writeValues 21 = .ok (.invokevirtual 50, 3) := by decide +kernel
theorem dX4_writeValues_24 : decode cX4_writeValues 24 = .ok (.iinc 2 1, 3) := by decide +kernel
theorem dX4_writeValues_27 : decode cX4_writeValues 27 = .ok (.goto (-17), 3) := by decide +kernel
theorem dX4_writeValues_30 : decode cX4_writeValues 30 = .ok (.return_, 1) := by decide +kernel
theorem dX4_writeFunctions_0 : decode cX4_writeFunctions 0 = .ok (.aload_n 0, 1) := by decide +kernel
theorem dX4_writeFunctions_1 : decode cX4_writeFunctions 1 = .ok (.getfield 18, 3) := by decide +kernel
theorem dX4_writeFunctions_4 : decode cX4_writeFunctions 4 = .ok (.aload_n 1, 1) := by decide +kernel
theorem dX4_writeFunctions_5 : decode cX4_writeFunctions 5 = .ok (.getfield 80, 3) := by decide +kernel
theorem dX4_writeFunctions_8 : decode cX4_writeFunctions 8 = .ok (.invokeinterface 84 1, 5) := by decide +kernel
theorem dX4_writeFunctions_13 : decode cX4_writeFunctions 13 = .ok (.invokevirtual 54, 3) := by decide +kernel
theorem dX4_writeFunctions_16 : decode cX4_writeFunctions 16 = .ok (.iconst 0, 1) := by decide +kernel
theorem dX4_writeFunctions_17 : decode cX4_writeFunctions 17 = .ok (.istore_n 2, 1) := by decide +kernel
theorem dX4_writeFunctions_18 : decode cX4_writeFunctions 18 = .ok (.iload_n 2, 1) := by decide +kernel
theorem dX4_writeFunctions_19 : decode cX4_writeFunctions 19 = .ok (.aload_n 1, 1) := by decide +kernel
theorem dX4_writeFunctions_20 : decode cX4_writeFunctions 20 = .ok (.getfield 80, 3) := by decide +kernel
theorem dX4_writeFunctions_23 : decode cX4_writeFunctions 23 = .ok (.invokeinterface 84 1, 5) := by decide +kernel
theorem dX4_writeFunctions_28 : decode cX4_writeFunctions 28 = .ok (.if_icmp .ge 37, 3) := by decide +kernel
theorem dX4_writeFunctions_31 : decode cX4_writeFunctions 31 = .ok (.aload_n 0, 1) := by decide +kernel
theorem dX4_writeFunctions_32 : decode cX4_writeFunctions 32 = .ok (.getfield 18, 3) := by decide +kernel
theorem dX4_writeFunctions_35 : decode cX4_writeFunctions 35 = .ok (.aload_n 1, 1) := by decide +kernel
theorem dX4_writeFunctions_36 : decode cX4_writeFunctions 36 = .ok (.getfield 89, 3) := by decide +kernel
theorem dX4_writeFunctions_39 : decode cX4_writeFunctions 39 = .ok (.aload_n 1, 1) := by decide +kernel
theorem dX4_writeFunctions_40 : decode cX4_writeFunctions 40 = .ok (.getfield 80, 3) := by decide +kernel
theorem dX4_writeFunctions_43 : decode cX4_writeFunctions 43 = .ok (.iload_n 2, 1) := by decide +kernel
theorem dX4_writeFunctions_44 : decode cX4_writeFunctions 44 = .ok (.invokeinterface 92 2, 5) := by decide +kernel
theorem dX4_writeFunctions_49 : decode cX4_writeFunctions 49 = .ok (.checkcast 96, 3) := by decide +kernel
theorem dX4_writeFunctions_52 : decode cX4_writeFunctions 52 = .ok (.invokevirtual 98, 3) := by decide +kernel
theorem dX4_writeFunctions_55 : decode cX4_writeFunctions 55 = .ok (.iaload, 1) := by decide +kernel
theorem dX4_writeFunctions_56 : decode cX4_writeFunctions 56 = .ok (.invokevirtual 54, 3) := by decide +kernel
theorem dX4_writeFunctions_59 : decode cX4_writeFunctions 59 = .ok (.iinc 2 1, 3) := by decide +kernel
theorem dX4_writeFunctions_62 : decode cX4_writeFunctions 62 = .ok (.goto (-44), 3) := by decide +kernel
theorem dX4_writeFunctions_65 : decode cX4_writeFunctions 65 = .ok (.aload_n 0, 1) := by decide +kernel
theorem dX4_writeFunctions_66 : decode cX4_writeFunctions 66 = .ok (.iconst 3, 1) := by decide +kernel
theorem dX4_writeFunctions_67 : decode cX4_writeFunctions 67 = .ok (.invokevirtual 77, 3) := by decide +kernel
theorem dX4_writeFunctions_70 : decode cX4_writeFunctions 70 = .ok (.return_, 1) := by decide +kernel
theorem dX4_writeTable_0 : decode cX4_writeTable 0 = .ok (.aload_n 0, 1) := by decide +kernel
theorem dX4_writeTable_1 : decode cX4_writeTable 1 = .ok (.getfield 18, 3) := by decide +kernel
theorem dX4_writeTable_4 : decode cX4_writeTable 4 = .ok (.iconst 1, 1) := by decide +kernel
theorem dX4_writeTable_5 : decode cX4_writeTable 5 = .ok (.invokevirtual 50, 3) := by decide +kernel
theorem dX4_writeTable_8 : decode cX4_writeTable 8 = .ok (.aload_n 0, 1) := by decide +kernel
theorem dX4_writeTable_9 : decode cX4_writeTable 9 = .ok (.getfield 18, 3) := by decide +kernel
theorem dX4_writeTable_12 : decode cX4_writeTable 12 = .ok (.bipush 112, 2) := by decide +kernel
theorem dX4_writeTable_14 : decode cX4_writeTable 14 = .ok (.invokevirtual 50, 3) := by decide +kernel
theorem dX4_writeTable_17 : decode cX4_writeTable 17 = .ok (.aload_n 0, 1) := by decide +kernel
theorem dX4_writeTable_18 : decode cX4_writeTable 18 = .ok (.getfield 18, 3) := by decide +kernel
theorem dX4_writeTable_21 : decode cX4_writeTable 21 = .ok (.iconst 0, 1) := by decide +kernel
theorem dX4_writeTable_22 : decode cX4_writeTable 22 = .ok (.invokevirtual 50, 3) := by decide +kernel
theorem dX4_writeTable_25 : decode cX4_writeTable 25 = .ok (.aload_n 0, 1) := by decide +kernel
theorem dX4_writeTable_26 : decode cX4_writeTable 26 = .ok (.getfield 18, 3) := by decide +kernel
theorem dX4_writeTable_29 : decode cX4_writeTable 29 = .ok (.aload_n 1, 1) := by decide +kernel
theorem dX4_writeTable_30 : decode cX4_writeTable 30 = .ok (.getfield 101, 3) := by decide +kernel
theorem dX4_writeTable_33 : decode cX4_writeTable 33 = .ok (.invokeinterface 84 1, 5) := by decide +kernel
theorem dX4_writeTable_38 : decode cX4_writeTable 38 = .ok (.iconst 1, 1) := by decide +kernel
theorem dX4_writeTable_39 : decode cX4_writeTable 39 = .ok (.iadd, 1) := by decide +kernel
theorem dX4_writeTable_40 : decode cX4_writeTable 40 = .ok (.invokevirtual 54, 3) := by decide +kernel
theorem dX4_writeTable_43 : decode cX4_writeTable 43 = .ok (.aload_n 0, 1) := by decide +kernel
theorem dX4_writeTable_44 : decode cX4_writeTable 44 = .ok (.iconst 4, 1) := by decide +kernel
theorem dX4_writeTable_45 : decode cX4_writeTable 45 = .ok (.invokevirtual 77, 3) := by decide +kernel
theorem dX4_writeTable_48 : decode cX4_writeTable 48 = .ok (.aload_n 0, 1) := by decide +kernel
theorem dX4_writeTable_49 : decode cX4_writeTable 49 = .ok (.getfield 18, 3) := by decide +kernel
theorem dX4_writeTable_52 : decode cX4_writeTable 52 = .ok (.iconst 1, 1) := by decide +kernel
theorem dX4_writeTable_53 : decode cX4_writeTable 53 = .ok (.invokevirtual 50, 3) := by decide +kernel
theorem dX4_writeTable_56 : decode cX4_writeTable 56 = .ok (.aload_n 0, 1) := by decide +kernel
theorem dX4_writeTable_57 : decode cX4_writeTable 57 = .ok (.getfield 18, 3) := by decide +kernel
theorem dX4_writeTable_60 : decode cX4_writeTable 60 = .ok (.iconst 0, 1) := by decide +kernel
theorem dX4_writeTable_61 : decode cX4_writeTable 61 = .ok (.invokevirtual 50, 3) := by decide +kernel
theorem dX4_writeTable_64 : decode cX4_writeTable 64 = .ok (.aload_n 0, 1) := by decide +kernel
theorem dX4_writeTable_65 : decode cX4_writeTable 65 = .ok (.getfield 18, 3) := by decide +kernel
theorem dX4_writeTable_68 : decode cX4_writeTable 68 = .ok (.iconst 1, 1) := by decide +kernel
theorem dX4_writeTable_69 : decode cX4_writeTable 69 = .ok (.invokevirtual 50, 3) := by decide +kernel
theorem dX4_writeTable_72 : decode cX4_writeTable 72 = .ok (.aload_n 0, 1) := by decide +kernel
theorem dX4_writeTable_73 : decode cX4_writeTable 73 = .ok (.iconst 5, 1) := by decide +kernel
theorem dX4_writeTable_74 : decode cX4_writeTable 74 = .ok (.invokevirtual 77, 3) := by decide +kernel
theorem dX4_writeTable_77 : decode cX4_writeTable 77 = .ok (.return_, 1) := by decide +kernel
theorem dX4_writeSlots_0 : decode cX4_writeSlots 0 = .ok (.aload_n 1, 1) := by decide +kernel
theorem dX4_writeSlots_1 : decode cX4_writeSlots 1 = .ok (.getfield 101, 3) := by decide +kernel
theorem dX4_writeSlots_4 : decode cX4_writeSlots 4 = .ok (.invokeinterface 104 1, 5) := by decide +kernel
theorem dX4_writeSlots_9 : decode cX4_writeSlots 9 = .ok (.ifCond .eq 4, 3) := by decide +kernel
theorem dX4_writeSlots_12 : decode cX4_writeSlots 12 = .ok (.return_, 1) := by decide +kernel
theorem dX4_writeSlots_13 : decode cX4_writeSlots 13 = .ok (.aload_n 0, 1) := by decide +kernel
theorem dX4_writeSlots_14 : decode cX4_writeSlots 14 = .ok (.getfield 18, 3) := by decide +kernel
theorem dX4_writeSlots_17 : decode cX4_writeSlots 17 = .ok (.iconst 1, 1) := by decide +kernel
theorem dX4_writeSlots_18 : decode cX4_writeSlots 18 = .ok (.invokevirtual 50, 3) := by decide +kernel
theorem dX4_writeSlots_21 : decode cX4_writeSlots 21 = .ok (.aload_n 0, 1) := by decide +kernel
theorem dX4_writeSlots_22 : decode cX4_writeSlots 22 = .ok (.getfield 18, 3) := by decide +kernel
theorem dX4_writeSlots_25 : decode cX4_writeSlots 25 = .ok (.iconst 0, 1) := by decide +kernel
theorem dX4_writeSlots_26 : decode cX4_writeSlots 26 = .ok (.invokevirtual 50, 3) := by decide +kernel
theorem dX4_writeSlots_29 : decode cX4_writeSlots 29 = .ok (.aload_n 0, 1) := by decide +kernel
theorem dX4_writeSlots_30 : decode cX4_writeSlots 30 = .ok (.getfield 18, 3) := by decide +kernel
theorem dX4_writeSlots_33 : decode cX4_writeSlots 33 = .ok (.bipush 65, 2) := by decide +kernel
theorem dX4_writeSlots_35 : decode cX4_writeSlots 35 = .ok (.invokevirtual 50, 3) := by decide +kernel
theorem dX4_writeSlots_38 : decode cX4_writeSlots 38 = .ok (.aload_n 0, 1) := by decide +kernel
theorem dX4_writeSlots_39 : decode cX4_writeSlots 39 = .ok (.getfield 18, 3) := by decide +kernel
theorem dX4_writeSlots_42 : decode cX4_writeSlots 42 = .ok (.iconst 1, 1) := by decide +kernel
theorem dX4_writeSlots_43 : decode cX4_writeSlots 43 = .ok (.invokevirtual 50, 3) := by decide +kernel
theorem dX4_writeSlots_46 : decode cX4_writeSlots 46 = .ok (.aload_n 0, 1) := by decide +kernel
theorem dX4_writeSlots_47 : decode cX4_writeSlots 47 = .ok (.getfield 18, 3) := by decide +kernel
theorem dX4_writeSlots_50 : decode cX4_writeSlots 50 = .ok (.bipush 11, 2) := by decide +kernel
theorem dX4_writeSlots_52 : decode cX4_writeSlots 52 = .ok (.invokevirtual 50, 3) := by decide +kernel
theorem dX4_writeSlots_55 : decode cX4_writeSlots 55 = .ok (.aload_n 0, 1) := by decide +kernel
theorem dX4_writeSlots_56 : decode cX4_writeSlots 56 = .ok (.getfield 18, 3) := by decide +kernel
theorem dX4_writeSlots_59 : decode cX4_writeSlots 59 = .ok (.aload_n 1, 1) := by decide +kernel
theorem dX4_writeSlots_60 : decode cX4_writeSlots 60 = .ok (.getfield 101, 3) := by decide +kernel
theorem dX4_writeSlots_63 : decode cX4_writeSlots 63 = .ok (.invokeinterface 84 1, 5) := by decide +kernel
theorem dX4_writeSlots_68 : decode cX4_writeSlots 68 = .ok (.invokevirtual 54, 3) := by decide +kernel
theorem dX4_writeSlots_71 : decode cX4_writeSlots 71 = .ok (.iconst 0, 1) := by decide +kernel
theorem dX4_writeSlots_72 : decode cX4_writeSlots 72 = .ok (.istore_n 2, 1) := by decide +kernel
theorem dX4_writeSlots_73 : decode cX4_writeSlots 73 = .ok (.iload_n 2, 1) := by decide +kernel
theorem dX4_writeSlots_74 : decode cX4_writeSlots 74 = .ok (.aload_n 1, 1) := by decide +kernel
theorem dX4_writeSlots_75 : decode cX4_writeSlots 75 = .ok (.getfield 101, 3) := by decide +kernel
theorem dX4_writeSlots_78 : decode cX4_writeSlots 78 = .ok (.invokeinterface 84 1, 5) := by decide +kernel
theorem dX4_writeSlots_83 : decode cX4_writeSlots 83 = .ok (.if_icmp .ge 32, 3) := by decide +kernel
theorem dX4_writeSlots_86 : decode cX4_writeSlots 86 = .ok (.aload_n 0, 1) := by decide +kernel
theorem dX4_writeSlots_87 : decode cX4_writeSlots 87 = .ok (.getfield 18, 3) := by decide +kernel
theorem dX4_writeSlots_90 : decode cX4_writeSlots 90 = .ok (.aload_n 1, 1) := by decide +kernel
theorem dX4_writeSlots_91 : decode cX4_writeSlots 91 = .ok (.getfield 101, 3) := by decide +kernel
theorem dX4_writeSlots_94 : decode cX4_writeSlots 94 = .ok (.iload_n 2, 1) := by decide +kernel
theorem dX4_writeSlots_95 : decode cX4_writeSlots 95 = .ok (.invokeinterface 92 2, 5) := by decide +kernel
theorem dX4_writeSlots_100 : decode cX4_writeSlots 100 = .ok (.checkcast 96, 3) := by decide +kernel
theorem dX4_writeSlots_103 : decode cX4_writeSlots 103 = .ok (.getfield 108, 3) := by decide +kernel
theorem dX4_writeSlots_106 : decode cX4_writeSlots 106 = .ok (.invokevirtual 54, 3) := by decide +kernel
theorem dX4_writeSlots_109 : decode cX4_writeSlots 109 = .ok (.iinc 2 1, 3) := by decide +kernel
theorem dX4_writeSlots_112 : decode cX4_writeSlots 112 = .ok (.goto (-39), 3) := by decide +kernel
theorem dX4_writeSlots_115 : decode cX4_writeSlots 115 = .ok (.aload_n 0, 1) := by decide +kernel
theorem dX4_writeSlots_116 : decode cX4_writeSlots 116 = .ok (.bipush 9, 2) := by decide +kernel
theorem dX4_writeSlots_118 : decode cX4_writeSlots 118 = .ok (.invokevirtual 77, 3) := by decide +kernel
theorem dX4_writeSlots_121 : decode cX4_writeSlots 121 = .ok (.return_, 1) := by decide +kernel
theorem dX4_writeCode_0 : decode cX4_writeCode 0 = .ok (.aload_n 0, 1) := by decide +kernel
theorem dX4_writeCode_1 : decode cX4_writeCode 1 = .ok (.getfield 18, 3) := by decide +kernel
theorem dX4_writeCode_4 : decode cX4_writeCode 4 = .ok (.aload_n 1, 1) := by decide +kernel
theorem dX4_writeCode_5 : decode cX4_writeCode 5 = .ok (.getfield 80, 3) := by decide +kernel
theorem dX4_writeCode_8 : decode cX4_writeCode 8 = .ok (.invokeinterface 84 1, 5) := by decide +kernel
theorem dX4_writeCode_13 : decode cX4_writeCode 13 = .ok (.invokevirtual 54, 3) := by decide +kernel
theorem dX4_writeCode_16 : decode cX4_writeCode 16 = .ok (.iconst 0, 1) := by decide +kernel
theorem dX4_writeCode_17 : decode cX4_writeCode 17 = .ok (.istore_n 2, 1) := by decide +kernel
theorem dX4_writeCode_18 : decode cX4_writeCode 18 = .ok (.iload_n 2, 1) := by decide +kernel
theorem dX4_writeCode_19 : decode cX4_writeCode 19 = .ok (.aload_n 1, 1) := by decide +kernel
theorem dX4_writeCode_20 : decode cX4_writeCode 20 = .ok (.getfield 80, 3) := by decide +kernel
theorem dX4_writeCode_23 : decode cX4_writeCode 23 = .ok (.invokeinterface 84 1, 5) := by decide +kernel
theorem dX4_writeCode_28 : decode cX4_writeCode 28 = .ok (.if_icmp .ge 62, 3) := by decide +kernel
theorem dX4_writeCode_31 : decode cX4_writeCode 31 = .ok (.aload_n 0, 1) := by decide +kernel
theorem dX4_writeCode_32 : decode cX4_writeCode 32 = .ok (.aload_n 1, 1) := by decide +kernel
theorem dX4_writeCode_33 : decode cX4_writeCode 33 = .ok (.aload_n 1, 1) := by decide +kernel
theorem dX4_writeCode_34 : decode cX4_writeCode 34 = .ok (.getfield 80, 3) := by decide +kernel
theorem dX4_writeCode_37 : decode cX4_writeCode 37 = .ok (.iload_n 2, 1) := by decide +kernel
theorem dX4_writeCode_38 : decode cX4_writeCode 38 = .ok (.invokeinterface 92 2, 5) := by decide +kernel
theorem dX4_writeCode_43 : decode cX4_writeCode 43 = .ok (.checkcast 96, 3) := by decide +kernel
theorem dX4_writeCode_46 : decode cX4_writeCode 46 = .ok (.invokevirtual 110, 3) := by decide +kernel
theorem dX4_writeCode_49 : decode cX4_writeCode 49 = .ok (.aload_n 0, 1) := by decide +kernel
theorem dX4_writeCode_50 : decode cX4_writeCode 50 = .ok (.getfield 18, 3) := by decide +kernel
theorem dX4_writeCode_53 : decode cX4_writeCode 53 = .ok (.aload_n 0, 1) := by decide +kernel
theorem dX4_writeCode_54 : decode cX4_writeCode 54 = .ok (.getfield 21, 3) := by decide +kernel
theorem dX4_writeCode_57 : decode cX4_writeCode 57 = .ok (.getfield 24, 3) := by decide +kernel
theorem dX4_writeCode_60 : decode cX4_writeCode 60 = .ok (.invokevirtual 54, 3) := by decide +kernel
theorem dX4_writeCode_63 : decode cX4_writeCode 63 = .ok (.aload_n 0, 1) := by decide +kernel
theorem dX4_writeCode_64 : decode cX4_writeCode 64 = .ok (.getfield 18, 3) := by decide +kernel
theorem dX4_writeCode_67 : decode cX4_writeCode 67 = .ok (.aload_n 0, 1) := by decide +kernel
theorem dX4_writeCode_68 : decode cX4_writeCode 68 = .ok (.getfield 21, 3) := by decide +kernel
theorem dX4_writeCode_71 : decode cX4_writeCode 71 = .ok (.getfield 57, 3) := by decide +kernel
theorem dX4_writeCode_74 : decode cX4_writeCode 74 = .ok (.aload_n 0, 1) := by decide +kernel
theorem dX4_writeCode_75 : decode cX4_writeCode 75 = .ok (.getfield 21, 3) := by decide +kernel
theorem dX4_writeCode_78 : decode cX4_writeCode 78 = .ok (.getfield 24, 3) := by decide +kernel
theorem dX4_writeCode_81 : decode cX4_writeCode 81 = .ok (.invokevirtual 61, 3) := by decide +kernel
theorem dX4_writeCode_84 : decode cX4_writeCode 84 = .ok (.iinc 2 1, 3) := by decide +kernel
theorem dX4_writeCode_87 : decode cX4_writeCode 87 = .ok (.goto (-69), 3) := by decide +kernel
theorem dX4_writeCode_90 : decode cX4_writeCode 90 = .ok (.aload_n 0, 1) := by decide +kernel
theorem dX4_writeCode_91 : decode cX4_writeCode 91 = .ok (.bipush 10, 2) := by decide +kernel
theorem dX4_writeCode_93 : decode cX4_writeCode 93 = .ok (.invokevirtual 77, 3) := by decide +kernel
theorem dX4_writeCode_96 : decode cX4_writeCode 96 = .ok (.return_, 1) := by decide +kernel
theorem dX4_writeData_0 : decode cX4_writeData 0 = .ok (.aload_n 1, 1) := by decide +kernel
theorem dX4_writeData_1 : decode cX4_writeData 1 = .ok (.getfield 114, 3) := by decide +kernel
theorem dX4_writeData_4 : decode cX4_writeData 4 = .ok (.invokeinterface 104 1, 5) := by decide +kernel
theorem dX4_writeData_9 : decode cX4_writeData 9 = .ok (.ifCond .eq 4, 3) := by decide +kernel
theorem dX4_writeData_12 : decode cX4_writeData 12 = .ok (.return_, 1) := by decide +kernel
theorem dX4_writeData_13 : decode cX4_writeData 13 = .ok (.aload_n 0, 1) := by decide +kernel
theorem dX4_writeData_14 : decode cX4_writeData 14 = .ok (.getfield 18, 3) := by decide +kernel
theorem dX4_writeData_17 : decode cX4_writeData 17 = .ok (.aload_n 1, 1) := by decide +kernel
theorem dX4_writeData_18 : decode cX4_writeData 18 = .ok (.getfield 114, 3) := by decide +kernel
theorem dX4_writeData_21 : decode cX4_writeData 21 = .ok (.invokeinterface 84 1, 5) := by decide +kernel
theorem dX4_writeData_26 : decode cX4_writeData 26 = .ok (.invokevirtual 54, 3) := by decide +kernel
theorem dX4_writeData_29 : decode cX4_writeData 29 = .ok (.iconst 0, 1) := by decide +kernel
theorem dX4_writeData_30 : decode cX4_writeData 30 = .ok (.istore_n 2, 1) := by decide +kernel
theorem dX4_writeData_31 : decode cX4_writeData 31 = .ok (.iload_n 2, 1) := by decide +kernel
theorem dX4_writeData_32 : decode cX4_writeData 32 = .ok (.aload_n 1, 1) := by decide +kernel
theorem dX4_writeData_33 : decode cX4_writeData 33 = .ok (.getfield 114, 3) := by decide +kernel
theorem dX4_writeData_36 : decode cX4_writeData 36 = .ok (.invokeinterface 84 1, 5) := by decide +kernel
theorem dX4_writeData_41 : decode cX4_writeData 41 = .ok (.if_icmp .ge 88, 3) := by decide +kernel
theorem dX4_writeData_44 : decode cX4_writeData 44 = .ok (.aload_n 1, 1) := by decide +kernel
theorem dX4_writeData_45 : decode cX4_writeData 45 = .ok (.getfield 114, 3) := by decide +kernel
theorem dX4_writeData_48 : decode cX4_writeData 48 = .ok (.iload_n 2, 1) := by decide +kernel
theorem dX4_writeData_49 : decode cX4_writeData 49 = .ok (.invokeinterface 92 2, 5) := by decide +kernel
theorem dX4_writeData_54 : decode cX4_writeData 54 = .ok (.checkcast 117, 3) := by decide +kernel
theorem dX4_writeData_57 : decode cX4_writeData 57 = .ok (.astore_n 3, 1) := by decide +kernel
theorem dX4_writeData_58 : decode cX4_writeData 58 = .ok (.aload_n 0, 1) := by decide +kernel
theorem dX4_writeData_59 : decode cX4_writeData 59 = .ok (.getfield 18, 3) := by decide +kernel
theorem dX4_writeData_62 : decode cX4_writeData 62 = .ok (.iconst 0, 1) := by decide +kernel
theorem dX4_writeData_63 : decode cX4_writeData 63 = .ok (.invokevirtual 50, 3) := by decide +kernel
theorem dX4_writeData_66 : decode cX4_writeData 66 = .ok (.aload_n 0, 1) := by decide +kernel
theorem dX4_writeData_67 : decode cX4_writeData 67 = .ok (.getfield 18, 3) := by decide +kernel
theorem dX4_writeData_70 : decode cX4_writeData 70 = .ok (.bipush 65, 2) := by decide +kernel
theorem dX4_writeData_72 : decode cX4_writeData 72 = .ok (.invokevirtual 50, 3) := by decide +kernel
theorem dX4_writeData_75 : decode cX4_writeData 75 = .ok (.aload_n 0, 1) := by decide +kernel
theorem dX4_writeData_76 : decode cX4_writeData 76 = .ok (.getfield 18, 3) := by decide +kernel
theorem dX4_writeData_79 : decode cX4_writeData 79 = .ok (.aload_n 3, 1) := by decide +kernel
theorem dX4_writeData_80 : decode cX4_writeData 80 = .ok (.getfield 119, 3) := by decide +kernel
theorem dX4_writeData_83 : decode cX4_writeData 83 = .ok (.invokevirtual 122, 3) := by decide +kernel
theorem dX4_writeData_86 : decode cX4_writeData 86 = .ok (.aload_n 0, 1) := by decide +kernel
theorem dX4_writeData_87 : decode cX4_writeData 87 = .ok (.getfield 18, 3) := by decide +kernel
theorem dX4_writeData_90 : decode cX4_writeData 90 = .ok (.bipush 11, 2) := by decide +kernel
theorem dX4_writeData_92 : decode cX4_writeData 92 = .ok (.invokevirtual 50, 3) := by decide +kernel
theorem dX4_writeData_95 : decode cX4_writeData 95 = .ok (.aload_n 0, 1) := by decide +kernel
theorem dX4_writeData_96 : decode cX4_writeData 96 = .ok (.getfield 18, 3) := by decide +kernel
theorem dX4_writeData_99 : decode cX4_writeData 99 = .ok (.aload_n 3, 1) := by decide +kernel
theorem dX4_writeData_100 : decode cX4_writeData 100 = .ok (.getfield 125, 3) := by decide +kernel
theorem dX4_writeData_103 : decode cX4_writeData 103 = .ok (.arraylength, 1) := by decide +kernel
theorem dX4_writeData_104 : decode cX4_writeData 104 = .ok (.invokevirtual 54, 3) := by decide +kernel
theorem dX4_writeData_107 : decode cX4_writeData 107 = .ok (.aload_n 0, 1) := by decide +kernel
theorem dX4_writeData_108 : decode cX4_writeData 108 = .ok (.getfield 18, 3) := by decide +kernel
theorem dX4_writeData_111 : decode cX4_writeData 111 = .ok (.aload_n 3, 1) := by decide +kernel
theorem dX4_writeData_112 : decode cX4_writeData 112 = .ok (.getfield 125, 3) := by decide +kernel
theorem dX4_writeData_115 : decode cX4_writeData 115 = .ok (.aload_n 3, 1) := by decide +kernel
theorem dX4_writeData_116 : decode cX4_writeData 116 = .ok (.getfield 125, 3) := by decide +kernel
theorem dX4_writeData_119 : decode cX4_writeData 119 = .ok (.arraylength, 1) := by decide +kernel
theorem dX4_writeData_120 : decode cX4_writeData 120 = .ok (.invokevirtual 61, 3) := by decide +kernel
theorem dX4_writeData_123 : decode cX4_writeData 123 = .ok (.iinc 2 1, 3) := by decide +kernel
theorem dX4_writeData_126 : decode cX4_writeData 126 = .ok (.goto (-95), 3) := by decide +kernel
theorem dX4_writeData_129 : decode cX4_writeData 129 = .ok (.aload_n 0, 1) := by decide +kernel
theorem dX4_writeData_130 : decode cX4_writeData 130 = .ok (.bipush 11, 2) := by decide +kernel
theorem dX4_writeData_132 : decode cX4_writeData 132 = .ok (.invokevirtual 77, 3) := by decide +kernel
theorem dX4_writeData_135 : decode cX4_writeData 135 = .ok (.return_, 1) := by decide +kernel
theorem dX4_writeBody_0 : decode cX4_writeBody 0 = .ok (.aload_n 0, 1) := by decide +kernel
theorem dX4_writeBody_1 : decode cX4_writeBody 1 = .ok (.getfield 21, 3) := by decide +kernel
theorem dX4_writeBody_4 : decode cX4_writeBody 4 = .ok (.iconst 0, 1) := by decide +kernel
theorem dX4_writeBody_5 : decode cX4_writeBody 5 = .ok (.putfield 24, 3) := by decide +kernel
theorem dX4_writeBody_8 : decode cX4_writeBody 8 = .ok (.aload_n 2, 1) := by decide +kernel
theorem dX4_writeBody_9 : decode cX4_writeBody 9 = .ok (.getfield 128, 3) := by decide +kernel
theorem dX4_writeBody_12 : decode cX4_writeBody 12 = .ok (.ifCond .ne 14, 3) := by decide +kernel
theorem dX4_writeBody_15 : decode cX4_writeBody 15 = .ok (.aload_n 0, 1) := by decide +kernel
theorem dX4_writeBody_16 : decode cX4_writeBody 16 = .ok (.getfield 21, 3) := by decide +kernel
theorem dX4_writeBody_19 : decode cX4_writeBody 19 = .ok (.iconst 0, 1) := by decide +kernel
theorem dX4_writeBody_20 : decode cX4_writeBody 20 = .ok (.invokevirtual 50, 3) := by decide +kernel
theorem dX4_writeBody_23 : decode cX4_writeBody 23 = .ok (.goto 31, 3) := by decide +kernel
theorem dX4_writeBody_26 : decode cX4_writeBody 26 = .ok (.aload_n 0, 1) := by decide +kernel
theorem dX4_writeBody_27 : decode cX4_writeBody 27 = .ok (.getfield 21, 3) := by decide +kernel
theorem dX4_writeBody_30 : decode cX4_writeBody 30 = .ok (.iconst 1, 1) := by decide +kernel
theorem dX4_writeBody_31 : decode cX4_writeBody 31 = .ok (.invokevirtual 50, 3) := by decide +kernel
theorem dX4_writeBody_34 : decode cX4_writeBody 34 = .ok (.aload_n 0, 1) := by decide +kernel
theorem dX4_writeBody_35 : decode cX4_writeBody 35 = .ok (.getfield 21, 3) := by decide +kernel
theorem dX4_writeBody_38 : decode cX4_writeBody 38 = .ok (.aload_n 2, 1) := by decide +kernel
theorem dX4_writeBody_39 : decode cX4_writeBody 39 = .ok (.getfield 128, 3) := by decide +kernel
theorem dX4_writeBody_42 : decode cX4_writeBody 42 = .ok (.invokevirtual 54, 3) := by decide +kernel
theorem dX4_writeBody_45 : decode cX4_writeBody 45 = .ok (.aload_n 0, 1) := by decide +kernel
theorem dX4_writeBody_46 : decode cX4_writeBody 46 = .ok (.getfield 21, 3) := by decide +kernel
theorem dX4_writeBody_49 : decode cX4_writeBody 49 = .ok (.bipush 126, 2) := by decide +kernel
theorem dX4_writeBody_51 : decode cX4_writeBody 51 = .ok (.invokevirtual 50, 3) := by decide +kernel
theorem dX4_writeBody_54 : decode cX4_writeBody 54 = .ok (.iconst 0, 1) := by decide +kernel
theorem dX4_writeBody_55 : decode cX4_writeBody 55 = .ok (.istore_n 3, 1) := by decide +kernel
theorem dX4_writeBody_56 : decode cX4_writeBody 56 = .ok (.iload_n 3, 1) := by decide +kernel
theorem dX4_writeBody_57 : decode cX4_writeBody 57 = .ok (.aload_n 2, 1) := by decide +kernel
theorem dX4_writeBody_58 : decode cX4_writeBody 58 = .ok (.getfield 131, 3) := by decide +kernel
theorem dX4_writeBody_61 : decode cX4_writeBody 61 = .ok (.if_icmp .ge 22, 3) := by decide +kernel
theorem dX4_writeBody_64 : decode cX4_writeBody 64 = .ok (.aload_n 0, 1) := by decide +kernel
theorem dX4_writeBody_65 : decode cX4_writeBody 65 = .ok (.aload_n 2, 1) := by decide +kernel
theorem dX4_writeBody_66 : decode cX4_writeBody 66 = .ok (.iload_n 3, 1) := by decide +kernel
theorem dX4_writeBody_67 : decode cX4_writeBody 67 = .ok (.invokevirtual 132, 3) := by decide +kernel
theorem dX4_writeBody_70 : decode cX4_writeBody 70 = .ok (.aload_n 0, 1) := by decide +kernel
theorem dX4_writeBody_71 : decode cX4_writeBody 71 = .ok (.aload_n 1, 1) := by decide +kernel
theorem dX4_writeBody_72 : decode cX4_writeBody 72 = .ok (.aload_n 2, 1) := by decide +kernel
theorem dX4_writeBody_73 : decode cX4_writeBody 73 = .ok (.iload_n 3, 1) := by decide +kernel
theorem dX4_writeBody_74 : decode cX4_writeBody 74 = .ok (.invokevirtual 136, 3) := by decide +kernel
theorem dX4_writeBody_77 : decode cX4_writeBody 77 = .ok (.iinc 3 1, 3) := by decide +kernel
theorem dX4_writeBody_80 : decode cX4_writeBody 80 = .ok (.goto (-24), 3) := by decide +kernel
theorem dX4_writeBody_83 : decode cX4_writeBody 83 = .ok (.aload_n 0, 1) := by decide +kernel
theorem dX4_writeBody_84 : decode cX4_writeBody 84 = .ok (.getfield 21, 3) := by decide +kernel
theorem dX4_writeBody_87 : decode cX4_writeBody 87 = .ok (.bipush 11, 2) := by decide +kernel
theorem dX4_writeBody_89 : decode cX4_writeBody 89 = .ok (.invokevirtual 50, 3) := by decide +kernel
theorem dX4_writeBody_92 : decode cX4_writeBody 92 = .ok (.return_, 1) := by decide +kernel
theorem dX4_writeFirst_0 : decode cX4_writeFirst 0 = .ok (.aload_n 1, 1) := by decide +kernel
theorem dX4_writeFirst_1 : decode cX4_writeFirst 1 = .ok (.getfield 140, 3) := by decide +kernel
theorem dX4_writeFirst_4 : decode cX4_writeFirst 4 = .ok (.iload_n 2, 1) := by decide +kernel
theorem dX4_writeFirst_5 : decode cX4_writeFirst 5 = .ok (.iaload, 1) := by decide +kernel
theorem dX4_writeFirst_6 : decode cX4_writeFirst 6 = .ok (.istore_n 3, 1) := by decide +kernel
theorem dX4_writeFirst_7 : decode cX4_writeFirst 7 = .ok (.iload_n 3, 1) := by decide +kernel
theorem dX4_writeFirst_8 : decode cX4_writeFirst 8 = .ok (.bipush 17, 2) := by decide +kernel
theorem dX4_writeFirst_10 : decode cX4_writeFirst 10 = .ok (.if_icmp .eq 21, 3) := by decide +kernel
theorem dX4_writeFirst_13 : decode cX4_writeFirst 13 = .ok (.iload_n 3, 1) := by decide +kernel
theorem dX4_writeFirst_14 : decode cX4_writeFirst 14 = .ok (.bipush 25, 2) := by decide +kernel
theorem dX4_writeFirst_16 : decode cX4_writeFirst 16 = .ok (.if_icmp .eq 15, 3) := by decide +kernel
theorem dX4_writeFirst_19 : decode cX4_writeFirst 19 = .ok (.iload_n 3, 1) := by decide +kernel
theorem dX4_writeFirst_20 : decode cX4_writeFirst 20 = .ok (.bipush 29, 2) := by decide +kernel
theorem dX4_writeFirst_22 : decode cX4_writeFirst 22 = .ok (.if_icmp .eq 9, 3) := by decide +kernel
theorem dX4_writeFirst_25 : decode cX4_writeFirst 25 = .ok (.iload_n 3, 1) := by decide +kernel
theorem dX4_writeFirst_26 : decode cX4_writeFirst 26 = .ok (.bipush 32, 2) := by decide +kernel
theorem dX4_writeFirst_28 : decode cX4_writeFirst 28 = .ok (.if_icmp .ne 13, 3) := by decide +kernel
theorem dX4_writeFirst_31 : decode cX4_writeFirst 31 = .ok (.aload_n 0, 1) := by decide +kernel
theorem dX4_writeFirst_32 : decode cX4_writeFirst 32 = .ok (.getfield 21, 3) := by decide +kernel
theorem dX4_writeFirst_35 : decode cX4_writeFirst 35 = .ok (.sipush 167, 3) := by decide +kernel
theorem dX4_writeFirst_38 : decode cX4_writeFirst 38 = .ok (.invokevirtual 50, 3) := by decide +kernel
theorem dX4_writeFirst_41 : decode cX4_writeFirst 41 = .ok (.iload_n 3, 1) := by decide +kernel
theorem dX4_writeFirst_42 : decode cX4_writeFirst 42 = .ok (.bipush 31, 2) := by decide +kernel
theorem dX4_writeFirst_44 : decode cX4_writeFirst 44 = .ok (.if_icmp .ne 15, 3) := by decide +kernel
theorem dX4_writeFirst_47 : decode cX4_writeFirst 47 = .ok (.aload_n 1, 1) := by decide +kernel
theorem dX4_writeFirst_48 : decode cX4_writeFirst 48 = .ok (.iload_n 2, 1) := by decide +kernel
theorem dX4_writeFirst_49 : decode cX4_writeFirst 49 = .ok (.invokevirtual 145, 3) := by decide +kernel
theorem dX4_writeFirst_52 : decode cX4_writeFirst 52 = .ok (.ifnonnull 7, 3) := by decide +kernel
theorem dX4_writeFirst_55 : decode cX4_writeFirst 55 = .ok (.iconst 1, 1) := by decide +kernel
theorem dX4_writeFirst_56 : decode cX4_writeFirst 56 = .ok (.goto 4, 3) := by decide +kernel
theorem dX4_writeFirst_59 : decode cX4_writeFirst 59 = .ok (.iconst 0, 1) := by decide +kernel
theorem dX4_writeFirst_60 : decode cX4_writeFirst 60 = .ok (.istore 4, 2) := by decide +kernel
theorem dX4_writeFirst_62 : decode cX4_writeFirst 62 = .ok (.aload_n 0, 1) := by decide +kernel
theorem dX4_writeFirst_63 : decode cX4_writeFirst 63 = .ok (.getfield 21, 3) := by decide +kernel
theorem dX4_writeFirst_66 : decode cX4_writeFirst 66 = .ok (.iload 4, 2) := by decide +kernel
theorem dX4_writeFirst_68 : decode cX4_writeFirst 68 = .ok (.ifCond .eq 7, 3) := by decide +kernel
theorem dX4_writeFirst_71 : decode cX4_writeFirst 71 = .ok (.iconst 0, 1) := by decide +kernel
theorem dX4_writeFirst_72 : decode cX4_writeFirst 72 = .ok (.goto 8, 3) := by decide +kernel
theorem dX4_writeFirst_75 : decode cX4_writeFirst 75 = .ok (.getstatic 149, 3) := by decide +kernel
theorem dX4_writeFirst_78 : decode cX4_writeFirst 78 = .ok (.iload_n 3, 1) := by decide +kernel
theorem dX4_writeFirst_79 : decode cX4_writeFirst 79 = .ok (.iaload, 1) := by decide +kernel
theorem dX4_writeFirst_80 : decode cX4_writeFirst 80 = .ok (.invokevirtual 50, 3) := by decide +kernel
theorem dX4_writeFirst_83 : decode cX4_writeFirst 83 = .ok (.return_, 1) := by decide +kernel
theorem dX4_writeRest_0 : decode cX4_writeRest 0 = .ok (.aload_n 2, 1) := by decide +kernel
theorem dX4_writeRest_1 : decode cX4_writeRest 1 = .ok (.getfield 152, 3) := by decide +kernel
theorem dX4_writeRest_4 : decode cX4_writeRest 4 = .ok (.iload_n 3, 1) := by decide +kernel
theorem dX4_writeRest_5 : decode cX4_writeRest 5 = .ok (.iaload, 1) := by decide +kernel
theorem dX4_writeRest_6 : decode cX4_writeRest 6 = .ok (.istore 4, 2) := by decide +kernel
theorem dX4_writeRest_8 : decode cX4_writeRest 8 = .ok (.aload_n 2, 1) := by decide +kernel
theorem dX4_writeRest_9 : decode cX4_writeRest 9 = .ok (.getfield 140, 3) := by decide +kernel
theorem dX4_writeRest_12 : decode cX4_writeRest 12 = .ok (.iload_n 3, 1) := by decide +kernel
theorem dX4_writeRest_13 : decode cX4_writeRest 13 = .ok (.iaload, 1) := by decide +kernel
theorem dX4_writeRest_14 : decode cX4_writeRest 14 = .ok (.tableswitch 352 0 35 #[158, 170, 170, 352, 352, 352, 352, 352, 352, 352, 352, 352, 352, 352, 182, 182, 182, 352, 352, 195, 195, 215, 215, 235, 235, 235, 352, 352, 170, 170, 352, 257, 284, 309, 324, 339], 158) := by decide +kernel
theorem dX4_writeRest_172 : decode cX4_writeRest 172 = .ok (.aload_n 0, 1) := by decide +kernel
theorem dX4_writeRest_173 : decode cX4_writeRest 173 = .ok (.getfield 21, 3) := by decide +kernel
theorem dX4_writeRest_176 : decode cX4_writeRest 176 = .ok (.iload 4, 2) := by decide +kernel
theorem dX4_writeRest_178 : decode cX4_writeRest 178 = .ok (.invokevirtual 122, 3) := by decide +kernel
theorem dX4_writeRest_181 : decode cX4_writeRest 181 = .ok (.goto 185, 3) := by decide +kernel
theorem dX4_writeRest_184 : decode cX4_writeRest 184 = .ok (.aload_n 0, 1) := by decide +kernel
theorem dX4_writeRest_185 : decode cX4_writeRest 185 = .ok (.getfield 21, 3) := by decide +kernel
theorem dX4_writeRest_188 : decode cX4_writeRest 188 = .ok (.iload 4, 2) := by decide +kernel
theorem dX4_writeRest_190 : decode cX4_writeRest 190 = .ok (.invokevirtual 54, 3) := by decide +kernel
theorem dX4_writeRest_193 : decode cX4_writeRest 193 = .ok (.goto 173, 3) := by decide +kernel
theorem dX4_writeRest_196 : decode cX4_writeRest 196 = .ok (.aload_n 0, 1) := by decide +kernel
theorem dX4_writeRest_197 : decode cX4_writeRest 197 = .ok (.getfield 21, 3) := by decide +kernel
theorem dX4_writeRest_200 : decode cX4_writeRest 200 = .ok (.sipush 173, 3) := by decide +kernel
theorem dX4_writeRest_203 : decode cX4_writeRest 203 = .ok (.invokevirtual 50, 3) := by decide +kernel
theorem dX4_writeRest_206 : decode cX4_writeRest 206 = .ok (.goto 160, 3) := by decide +kernel
theorem dX4_writeRest_209 : decode cX4_writeRest 209 = .ok (.aload_n 0, 1) := by decide +kernel
theorem dX4_writeRest_210 : decode cX4_writeRest 210 = .ok (.getfield 21, 3) := by decide +kernel
theorem dX4_writeRest_213 : decode cX4_writeRest 213 = .ok (.iconst 3, 1) := by decide +kernel
theorem dX4_writeRest_214 : decode cX4_writeRest 214 = .ok (.invokevirtual 50, 3) := by decide +kernel
theorem dX4_writeRest_217 : decode cX4_writeRest 217 = .ok (.aload_n 0, 1) := by decide +kernel
theorem dX4_writeRest_218 : decode cX4_writeRest 218 = .ok (.getfield 21, 3) := by decide +kernel
theorem dX4_writeRest_221 : decode cX4_writeRest 221 = .ok (.iload 4, 2) := by decide +kernel
theorem dX4_writeRest_223 : decode cX4_writeRest 223 = .ok (.invokevirtual 54, 3) := by decide +kernel
theorem dX4_writeRest_226 : decode cX4_writeRest 226 = .ok (.goto 140, 3) := by decide +kernel
theorem dX4_writeRest_229 : decode cX4_writeRest 229 = .ok (.aload_n 0, 1) := by decide +kernel
theorem dX4_writeRest_230 : decode cX4_writeRest 230 = .ok (.getfield 21, 3) := by decide +kernel
theorem dX4_writeRest_233 : decode cX4_writeRest 233 = .ok (.iconst 0, 1) := by decide +kernel
theorem dX4_writeRest_234 : decode cX4_writeRest 234 = .ok (.invokevirtual 50, 3) := by decide +kernel
theorem dX4_writeRest_237 : decode cX4_writeRest 237 = .ok (.aload_n 0, 1) := by decide +kernel
theorem dX4_writeRest_238 : decode cX4_writeRest 238 = .ok (.getfield 21, 3) := by decide +kernel
theorem dX4_writeRest_241 : decode cX4_writeRest 241 = .ok (.iload 4, 2) := by decide +kernel
theorem dX4_writeRest_243 : decode cX4_writeRest 243 = .ok (.invokevirtual 54, 3) := by decide +kernel
theorem dX4_writeRest_246 : decode cX4_writeRest 246 = .ok (.goto 120, 3) := by decide +kernel
theorem dX4_writeRest_249 : decode cX4_writeRest 249 = .ok (.aload_n 0, 1) := by decide +kernel
theorem dX4_writeRest_250 : decode cX4_writeRest 250 = .ok (.getfield 21, 3) := by decide +kernel
theorem dX4_writeRest_253 : decode cX4_writeRest 253 = .ok (.iload 4, 2) := by decide +kernel
theorem dX4_writeRest_255 : decode cX4_writeRest 255 = .ok (.ifCond .ne 8, 3) := by decide +kernel
theorem dX4_writeRest_258 : decode cX4_writeRest 258 = .ok (.bipush 64, 2) := by decide +kernel
theorem dX4_writeRest_260 : decode cX4_writeRest 260 = .ok (.goto 5, 3) := by decide +kernel
theorem dX4_writeRest_263 : decode cX4_writeRest 263 = .ok (.bipush 126, 2) := by decide +kernel
theorem dX4_writeRest_265 : decode cX4_writeRest 265 = .ok (.invokevirtual 50, 3) := by decide +kernel
theorem dX4_writeRest_268 : decode cX4_writeRest 268 = .ok (.goto 98, 3) := by decide +kernel
theorem dX4_writeRest_271 : decode cX4_writeRest 271 = .ok (.aload_n 2, 1) := by decide +kernel
theorem dX4_writeRest_272 : decode cX4_writeRest 272 = .ok (.iload_n 3, 1) := by decide +kernel
theorem dX4_writeRest_273 : decode cX4_writeRest 273 = .ok (.invokevirtual 145, 3) := by decide +kernel
theorem dX4_writeRest_276 : decode cX4_writeRest 276 = .ok (.astore 5, 2) := by decide +kernel
theorem dX4_writeRest_278 : decode cX4_writeRest 278 = .ok (.aload 5, 2) := by decide +kernel
theorem dX4_writeRest_280 : decode cX4_writeRest 280 = .ok (.ifnull 86, 3) := by decide +kernel
theorem dX4_writeRest_283 : decode cX4_writeRest 283 = .ok (.aload_n 0, 1) := by decide +kernel
theorem dX4_writeRest_284 : decode cX4_writeRest 284 = .ok (.getfield 21, 3) := by decide +kernel
theorem dX4_writeRest_287 : decode cX4_writeRest 287 = .ok (.aload 5, 2) := by decide +kernel
theorem dX4_writeRest_289 : decode cX4_writeRest 289 = .ok (.getfield 108, 3) := by decide +kernel
theorem dX4_writeRest_292 : decode cX4_writeRest 292 = .ok (.invokevirtual 155, 3) := by decide +kernel
theorem dX4_writeRest_295 : decode cX4_writeRest 295 = .ok (.goto 71, 3) := by decide +kernel
theorem dX4_writeRest_298 : decode cX4_writeRest 298 = .ok (.aload_n 0, 1) := by decide +kernel
theorem dX4_writeRest_299 : decode cX4_writeRest 299 = .ok (.getfield 21, 3) := by decide +kernel
theorem dX4_writeRest_302 : decode cX4_writeRest 302 = .ok (.aload_n 1, 1) := by decide +kernel
theorem dX4_writeRest_303 : decode cX4_writeRest 303 = .ok (.getfield 89, 3) := by decide +kernel
theorem dX4_writeRest_306 : decode cX4_writeRest 306 = .ok (.iload 4, 2) := by decide +kernel
theorem dX4_writeRest_308 : decode cX4_writeRest 308 = .ok (.iaload, 1) := by decide +kernel
theorem dX4_writeRest_309 : decode cX4_writeRest 309 = .ok (.invokevirtual 155, 3) := by decide +kernel
theorem dX4_writeRest_312 : decode cX4_writeRest 312 = .ok (.aload_n 0, 1) := by decide +kernel
theorem dX4_writeRest_313 : decode cX4_writeRest 313 = .ok (.getfield 21, 3) := by decide +kernel
theorem dX4_writeRest_316 : decode cX4_writeRest 316 = .ok (.iconst 0, 1) := by decide +kernel
theorem dX4_writeRest_317 : decode cX4_writeRest 317 = .ok (.invokevirtual 50, 3) := by decide +kernel
theorem dX4_writeRest_320 : decode cX4_writeRest 320 = .ok (.goto 46, 3) := by decide +kernel
theorem dX4_writeRest_323 : decode cX4_writeRest 323 = .ok (.aload_n 0, 1) := by decide +kernel
theorem dX4_writeRest_324 : decode cX4_writeRest 324 = .ok (.getfield 21, 3) := by decide +kernel
theorem dX4_writeRest_327 : decode cX4_writeRest 327 = .ok (.aload_n 2, 1) := by decide +kernel
theorem dX4_writeRest_328 : decode cX4_writeRest 328 = .ok (.iload_n 3, 1) := by decide +kernel
theorem dX4_writeRest_329 : decode cX4_writeRest 329 = .ok (.invokevirtual 158, 3) := by decide +kernel
theorem dX4_writeRest_332 : decode cX4_writeRest 332 = .ok (.invokevirtual 155, 3) := by decide +kernel
theorem dX4_writeRest_335 : decode cX4_writeRest 335 = .ok (.goto 31, 3) := by decide +kernel
theorem dX4_writeRest_338 : decode cX4_writeRest 338 = .ok (.aload_n 0, 1) := by decide +kernel
theorem dX4_writeRest_339 : decode cX4_writeRest 339 = .ok (.getfield 21, 3) := by decide +kernel
theorem dX4_writeRest_342 : decode cX4_writeRest 342 = .ok (.aload_n 2, 1) := by decide +kernel
theorem dX4_writeRest_343 : decode cX4_writeRest 343 = .ok (.iload_n 3, 1) := by decide +kernel
theorem dX4_writeRest_344 : decode cX4_writeRest 344 = .ok (.invokevirtual 162, 3) := by decide +kernel
theorem dX4_writeRest_347 : decode cX4_writeRest 347 = .ok (.invokevirtual 155, 3) := by decide +kernel
theorem dX4_writeRest_350 : decode cX4_writeRest 350 = .ok (.goto 16, 3) := by decide +kernel
theorem dX4_writeRest_353 : decode cX4_writeRest 353 = .ok (.aload_n 0, 1) := by decide +kernel
theorem dX4_writeRest_354 : decode cX4_writeRest 354 = .ok (.getfield 21, 3) := by decide +kernel
theorem dX4_writeRest_357 : decode cX4_writeRest 357 = .ok (.sipush 1024, 3) := by decide +kernel
theorem dX4_writeRest_360 : decode cX4_writeRest 360 = .ok (.invokevirtual 122, 3) := by decide +kernel
theorem dX4_writeRest_363 : decode cX4_writeRest 363 = .ok (.goto 3, 3) := by decide +kernel
theorem dX4_writeRest_366 : decode cX4_writeRest 366 = .ok (.return_, 1) := by decide +kernel
theorem dX5_init_0 : decode cX5_init 0 = .ok (.aload_n 0, 1) := by decide +kernel
theorem dX5_init_1 : decode cX5_init 1 = .ok (.invokespecial 3, 3) := by decide +kernel
theorem dX5_init_4 : decode cX5_init 4 = .ok (.aload_n 0, 1) := by decide +kernel
theorem dX5_init_5 : decode cX5_init 5 = .ok (.bipush 31, 2) := by decide +kernel
theorem dX5_init_7 : decode cX5_init 7 = .ok (.anewarray 9, 3) := by decide +kernel
theorem dX5_init_10 : decode cX5_init 10 = .ok (.putfield 11, 3) := by decide +kernel
theorem dX5_init_13 : decode cX5_init 13 = .ok (.aload_n 0, 1) := by decide +kernel
theorem dX5_init_14 : decode cX5_init 14 = .ok (.bipush 31, 2) := by decide +kernel
theorem dX5_init_16 : decode cX5_init 16 = .ok (.anewarray 9, 3) := by decide +kernel
theorem dX5_init_19 : decode cX5_init 19 = .ok (.putfield 17, 3) := by decide +kernel
theorem dX5_init_22 : decode cX5_init 22 = .ok (.aload_n 0, 1) := by decide +kernel
theorem dX5_init_23 : decode cX5_init 23 = .ok (.bipush 31, 2) := by decide +kernel
theorem dX5_init_25 : decode cX5_init 25 = .ok (.anewarray 9, 3) := by decide +kernel
theorem dX5_init_28 : decode cX5_init 28 = .ok (.putfield 20, 3) := by decide +kernel
theorem dX5_init_31 : decode cX5_init 31 = .ok (.return_, 1) := by decide +kernel
theorem dX5_join_0 : decode cX5_join 0 = .ok (.iconst 0, 1) := by decide +kernel
theorem dX5_join_1 : decode cX5_join 1 = .ok (.istore_n 2, 1) := by decide +kernel
theorem dX5_join_2 : decode cX5_join 2 = .ok (.iload_n 2, 1) := by decide +kernel
theorem dX5_join_3 : decode cX5_join 3 = .ok (.bipush 31, 2) := by decide +kernel
theorem dX5_join_5 : decode cX5_join 5 = .ok (.if_icmp .ge 30, 3) := by decide +kernel
theorem dX5_join_8 : decode cX5_join 8 = .ok (.aload_n 0, 1) := by decide +kernel
theorem dX5_join_9 : decode cX5_join 9 = .ok (.getfield 11, 3) := by decide +kernel
theorem dX5_join_12 : decode cX5_join 12 = .ok (.iload_n 2, 1) := by decide +kernel
theorem dX5_join_13 : decode cX5_join 13 = .ok (.aconst_null, 1) := by decide +kernel
theorem dX5_join_14 : decode cX5_join 14 = .ok (.aastore, 1) := by decide +kernel
theorem dX5_join_15 : decode cX5_join 15 = .ok (.aload_n 0, 1) := by decide +kernel
theorem dX5_join_16 : decode cX5_join 16 = .ok (.getfield 17, 3) := by decide +kernel
theorem dX5_join_19 : decode cX5_join 19 = .ok (.iload_n 2, 1) := by decide +kernel
theorem dX5_join_20 : decode cX5_join 20 = .ok (.aconst_null, 1) := by decide +kernel
theorem dX5_join_21 : decode cX5_join 21 = .ok (.aastore, 1) := by decide +kernel
theorem dX5_join_22 : decode cX5_join 22 = .ok (.aload_n 0, 1) := by decide +kernel
theorem dX5_join_23 : decode cX5_join 23 = .ok (.getfield 20, 3) := by decide +kernel
theorem dX5_join_26 : decode cX5_join 26 = .ok (.iload_n 2, 1) := by decide +kernel
theorem dX5_join_27 : decode cX5_join 27 = .ok (.aconst_null, 1) := by decide +kernel
theorem dX5_join_28 : decode cX5_join 28 = .ok (.aastore, 1) := by decide +kernel
theorem dX5_join_29 : decode cX5_join 29 = .ok (.iinc 2 1, 3) := by decide +kernel
theorem dX5_join_32 : decode cX5_join 32 = .ok (.goto (-30), 3) := by decide +kernel
theorem dX5_join_35 : decode cX5_join 35 = .ok (.iconst 0, 1) := by decide +kernel
theorem dX5_join_36 : decode cX5_join 36 = .ok (.istore_n 2, 1) := by decide +kernel
theorem dX5_join_37 : decode cX5_join 37 = .ok (.iload_n 2, 1) := by decide +kernel
theorem dX5_join_38 : decode cX5_join 38 = .ok (.aload_n 1, 1) := by decide +kernel
theorem dX5_join_39 : decode cX5_join 39 = .ok (.invokeinterface 23 1, 5) := by decide +kernel
theorem dX5_join_44 : decode cX5_join 44 = .ok (.if_icmp .ge 23, 3) := by decide +kernel
theorem dX5_join_47 : decode cX5_join 47 = .ok (.aload_n 0, 1) := by decide +kernel
theorem dX5_join_48 : decode cX5_join 48 = .ok (.aload_n 1, 1) := by decide +kernel
theorem dX5_join_49 : decode cX5_join 49 = .ok (.iload_n 2, 1) := by decide +kernel
theorem dX5_join_50 : decode cX5_join 50 = .ok (.invokeinterface 29 2, 5) := by decide +kernel
theorem dX5_join_55 : decode cX5_join 55 = .ok (.checkcast 9, 3) := by decide +kernel
theorem dX5_join_58 : decode cX5_join 58 = .ok (.invokevirtual 33, 3) := by decide +kernel
theorem dX5_join_61 : decode cX5_join 61 = .ok (.iinc 2 1, 3) := by decide +kernel
theorem dX5_join_64 : decode cX5_join 64 = .ok (.goto (-27), 3) := by decide +kernel
theorem dX5_join_67 : decode cX5_join 67 = .ok (.iconst 0, 1) := by decide +kernel
theorem dX5_join_68 : decode cX5_join 68 = .ok (.istore_n 2, 1) := by decide +kernel
theorem dX5_join_69 : decode cX5_join 69 = .ok (.iload_n 2, 1) := by decide +kernel
theorem dX5_join_70 : decode cX5_join 70 = .ok (.aload_n 1, 1) := by decide +kernel
theorem dX5_join_71 : decode cX5_join 71 = .ok (.invokeinterface 23 1, 5) := by decide +kernel
theorem dX5_join_76 : decode cX5_join 76 = .ok (.if_icmp .ge 44, 3) := by decide +kernel
theorem dX5_join_79 : decode cX5_join 79 = .ok (.aload_n 1, 1) := by decide +kernel
theorem dX5_join_80 : decode cX5_join 80 = .ok (.iload_n 2, 1) := by decide +kernel
theorem dX5_join_81 : decode cX5_join 81 = .ok (.invokeinterface 29 2, 5) := by decide +kernel
theorem dX5_join_86 : decode cX5_join 86 = .ok (.checkcast 9, 3) := by decide +kernel
theorem dX5_join_89 : decode cX5_join 89 = .ok (.astore_n 3, 1) := by decide +kernel
theorem dX5_join_90 : decode cX5_join 90 = .ok (.aload_n 3, 1) := by decide +kernel
theorem dX5_join_91 : decode cX5_join 91 = .ok (.aload_n 3, 1) := by decide +kernel
theorem dX5_join_92 : decode cX5_join 92 = .ok (.getfield 37, 3) := by decide +kernel
theorem dX5_join_95 : decode cX5_join 95 = .ok (.iconst 2, 1) := by decide +kernel
theorem dX5_join_96 : decode cX5_join 96 = .ok (.if_icmp .ne 7, 3) := by decide +kernel
theorem dX5_join_99 : decode cX5_join 99 = .ok (.aload_n 3, 1) := by decide +kernel
theorem dX5_join_100 : decode cX5_join 100 = .ok (.goto 11, 3) := by decide +kernel
theorem dX5_join_103 : decode cX5_join 103 = .ok (.aload_n 0, 1) := by decide +kernel
theorem dX5_join_104 : decode cX5_join 104 = .ok (.aload_n 3, 1) := by decide +kernel
theorem dX5_join_105 : decode cX5_join 105 = .ok (.getfield 41, 3) := by decide +kernel
theorem dX5_join_108 : decode cX5_join 108 = .ok (.invokevirtual 44, 3) := by decide +kernel
theorem dX5_join_111 : decode cX5_join 111 = .ok (.putfield 48, 3) := by decide +kernel
theorem dX5_join_114 : decode cX5_join 114 = .ok (.iinc 2 1, 3) := by decide +kernel
theorem dX5_join_117 : decode cX5_join 117 = .ok (.goto (-48), 3) := by decide +kernel
theorem dX5_join_120 : decode cX5_join 120 = .ok (.return_, 1) := by decide +kernel
theorem dX5_note_0 : decode cX5_note 0 = .ok (.aload_n 1, 1) := by decide +kernel
theorem dX5_note_1 : decode cX5_note 1 = .ok (.getfield 37, 3) := by decide +kernel
theorem dX5_note_4 : decode cX5_note 4 = .ok (.iconst 2, 1) := by decide +kernel
theorem dX5_note_5 : decode cX5_note 5 = .ok (.if_icmp .ne 4, 3) := by decide +kernel
theorem dX5_note_8 : decode cX5_note 8 = .ok (.return_, 1) := by decide +kernel
theorem dX5_note_9 : decode cX5_note 9 = .ok (.aload_n 0, 1) := by decide +kernel
theorem dX5_note_10 : decode cX5_note 10 = .ok (.getfield 11, 3) := by decide +kernel
theorem dX5_note_13 : decode cX5_note 13 = .ok (.aload_n 1, 1) := by decide +kernel
theorem dX5_note_14 : decode cX5_note 14 = .ok (.invokestatic 52, 3) := by decide +kernel
theorem dX5_note_17 : decode cX5_note 17 = .ok (.aload_n 1, 1) := by decide +kernel
theorem dX5_note_18 : decode cX5_note 18 = .ok (.invokevirtual 56, 3) := by decide +kernel
theorem dX5_note_21 : decode cX5_note 21 = .ok (.ifCond .eq 25, 3) := by decide +kernel
theorem dX5_note_24 : decode cX5_note 24 = .ok (.aload_n 1, 1) := by decide +kernel
theorem dX5_note_25 : decode cX5_note 25 = .ok (.getfield 37, 3) := by decide +kernel
theorem dX5_note_28 : decode cX5_note 28 = .ok (.ifCond .ne 10, 3) := by decide +kernel
theorem dX5_note_31 : decode cX5_note 31 = .ok (.aload_n 0, 1) := by decide +kernel
theorem dX5_note_32 : decode cX5_note 32 = .ok (.getfield 17, 3) := by decide +kernel
theorem dX5_note_35 : decode cX5_note 35 = .ok (.goto 7, 3) := by decide +kernel
theorem dX5_note_38 : decode cX5_note 38 = .ok (.aload_n 0, 1) := by decide +kernel
theorem dX5_note_39 : decode cX5_note 39 = .ok (.getfield 20, 3) := by decide +kernel
theorem dX5_note_42 : decode cX5_note 42 = .ok (.aload_n 1, 1) := by decide +kernel
theorem dX5_note_43 : decode cX5_note 43 = .ok (.invokestatic 52, 3) := by decide +kernel
theorem dX5_note_46 : decode cX5_note 46 = .ok (.return_, 1) := by decide +kernel
theorem dX5_noteFirst_0 : decode cX5_noteFirst 0 = .ok (.aload_n 0, 1) := by decide +kernel
theorem dX5_noteFirst_1 : decode cX5_noteFirst 1 = .ok (.aload_n 1, 1) := by decide +kernel
theorem dX5_noteFirst_2 : decode cX5_noteFirst 2 = .ok (.getfield 41, 3) := by decide +kernel
theorem dX5_noteFirst_5 : decode cX5_noteFirst 5 = .ok (.aaload, 1) := by decide +kernel
theorem dX5_noteFirst_6 : decode cX5_noteFirst 6 = .ok (.ifnonnull 10, 3) := by decide +kernel
theorem dX5_noteFirst_9 : decode cX5_noteFirst 9 = .ok (.aload_n 0, 1) := by decide +kernel
theorem dX5_noteFirst_10 : decode cX5_noteFirst 10 = .ok (.aload_n 1, 1) := by decide +kernel
theorem dX5_noteFirst_11 : decode cX5_noteFirst 11 = .ok (.getfield 41, 3) := by decide +kernel
theorem dX5_noteFirst_14 : decode cX5_noteFirst 14 = .ok (.aload_n 1, 1) := by decide +kernel
theorem dX5_noteFirst_15 : decode cX5_noteFirst 15 = .ok (.aastore, 1) := by decide +kernel
theorem dX5_noteFirst_16 : decode cX5_noteFirst 16 = .ok (.return_, 1) := by decide +kernel
theorem dX5_definer_0 : decode cX5_definer 0 = .ok (.aload_n 0, 1) := by decide +kernel
theorem dX5_definer_1 : decode cX5_definer 1 = .ok (.getfield 17, 3) := by decide +kernel
theorem dX5_definer_4 : decode cX5_definer 4 = .ok (.iload_n 1, 1) := by decide +kernel
theorem dX5_definer_5 : decode cX5_definer 5 = .ok (.aaload, 1) := by decide +kernel
theorem dX5_definer_6 : decode cX5_definer 6 = .ok (.ifnull 12, 3) := by decide +kernel
theorem dX5_definer_9 : decode cX5_definer 9 = .ok (.aload_n 0, 1) := by decide +kernel
theorem dX5_definer_10 : decode cX5_definer 10 = .ok (.getfield 17, 3) := by decide +kernel
theorem dX5_definer_13 : decode cX5_definer 13 = .ok (.iload_n 1, 1) := by decide +kernel
theorem dX5_definer_14 : decode cX5_definer 14 = .ok (.aaload, 1) := by decide +kernel
theorem dX5_definer_15 : decode cX5_definer 15 = .ok (.goto 9, 3) := by decide +kernel
theorem dX5_definer_18 : decode cX5_definer 18 = .ok (.aload_n 0, 1) := by decide +kernel
theorem dX5_definer_19 : decode cX5_definer 19 = .ok (.getfield 20, 3) := by decide +kernel
theorem dX5_definer_22 : decode cX5_definer 22 = .ok (.iload_n 1, 1) := by decide +kernel
theorem dX5_definer_23 : decode cX5_definer 23 = .ok (.aaload, 1) := by decide +kernel
theorem dX5_definer_24 : decode cX5_definer 24 = .ok (.areturn, 1) := by decide +kernel
theorem dX5_doubled_0 : decode cX5_doubled 0 = .ok (.iconst 0, 1) := by decide +kernel
theorem dX5_doubled_1 : decode cX5_doubled 1 = .ok (.istore_n 2, 1) := by decide +kernel
theorem dX5_doubled_2 : decode cX5_doubled 2 = .ok (.iload_n 2, 1) := by decide +kernel
theorem dX5_doubled_3 : decode cX5_doubled 3 = .ok (.aload_n 1, 1) := by decide +kernel
theorem dX5_doubled_4 : decode cX5_doubled 4 = .ok (.invokeinterface 23 1, 5) := by decide +kernel
theorem dX5_doubled_9 : decode cX5_doubled 9 = .ok (.if_icmp .ge 52, 3) := by decide +kernel
theorem dX5_doubled_12 : decode cX5_doubled 12 = .ok (.aload_n 1, 1) := by decide +kernel
theorem dX5_doubled_13 : decode cX5_doubled 13 = .ok (.iload_n 2, 1) := by decide +kernel
theorem dX5_doubled_14 : decode cX5_doubled 14 = .ok (.invokeinterface 29 2, 5) := by decide +kernel
theorem dX5_doubled_19 : decode cX5_doubled 19 = .ok (.checkcast 9, 3) := by decide +kernel
theorem dX5_doubled_22 : decode cX5_doubled 22 = .ok (.astore_n 3, 1) := by decide +kernel
theorem dX5_doubled_23 : decode cX5_doubled 23 = .ok (.aload_n 3, 1) := by decide +kernel
theorem dX5_doubled_24 : decode cX5_doubled 24 = .ok (.getfield 37, 3) := by decide +kernel
theorem dX5_doubled_27 : decode cX5_doubled 27 = .ok (.ifCond .ne 28, 3) := by decide +kernel
theorem dX5_doubled_30 : decode cX5_doubled 30 = .ok (.aload_n 3, 1) := by decide +kernel
theorem dX5_doubled_31 : decode cX5_doubled 31 = .ok (.invokevirtual 56, 3) := by decide +kernel
theorem dX5_doubled_34 : decode cX5_doubled 34 = .ok (.ifCond .eq 21, 3) := by decide +kernel
theorem dX5_doubled_37 : decode cX5_doubled 37 = .ok (.aload_n 0, 1) := by decide +kernel
theorem dX5_doubled_38 : decode cX5_doubled 38 = .ok (.getfield 17, 3) := by decide +kernel
theorem dX5_doubled_41 : decode cX5_doubled 41 = .ok (.aload_n 3, 1) := by decide +kernel
theorem dX5_doubled_42 : decode cX5_doubled 42 = .ok (.getfield 41, 3) := by decide +kernel
theorem dX5_doubled_45 : decode cX5_doubled 45 = .ok (.aaload, 1) := by decide +kernel
theorem dX5_doubled_46 : decode cX5_doubled 46 = .ok (.aload_n 3, 1) := by decide +kernel
theorem dX5_doubled_47 : decode cX5_doubled 47 = .ok (.if_acmp .eq 8, 3) := by decide +kernel
theorem dX5_doubled_50 : decode cX5_doubled 50 = .ok (.aload_n 3, 1) := by decide +kernel
theorem dX5_doubled_51 : decode cX5_doubled 51 = .ok (.getfield 60, 3) := by decide +kernel
theorem dX5_doubled_54 : decode cX5_doubled 54 = .ok (.ireturn, 1) := by decide +kernel
theorem dX5_doubled_55 : decode cX5_doubled 55 = .ok (.iinc 2 1, 3) := by decide +kernel
theorem dX5_doubled_58 : decode cX5_doubled 58 = .ok (.goto (-56), 3) := by decide +kernel
theorem dX5_doubled_61 : decode cX5_doubled 61 = .ok (.iconst (-1), 1) := by decide +kernel
theorem dX5_doubled_62 : decode cX5_doubled 62 = .ok (.ireturn, 1) := by decide +kernel
theorem dX5_missing_0 : decode cX5_missing 0 = .ok (.iconst 0, 1) := by decide +kernel
theorem dX5_missing_1 : decode cX5_missing 1 = .ok (.istore_n 2, 1) := by decide +kernel
theorem dX5_missing_2 : decode cX5_missing 2 = .ok (.iload_n 2, 1) := by decide +kernel
theorem dX5_missing_3 : decode cX5_missing 3 = .ok (.aload_n 1, 1) := by decide +kernel
theorem dX5_missing_4 : decode cX5_missing 4 = .ok (.invokeinterface 23 1, 5) := by decide +kernel
theorem dX5_missing_9 : decode cX5_missing 9 = .ok (.if_icmp .ge 70, 3) := by decide +kernel
theorem dX5_missing_12 : decode cX5_missing 12 = .ok (.aload_n 1, 1) := by decide +kernel
theorem dX5_missing_13 : decode cX5_missing 13 = .ok (.iload_n 2, 1) := by decide +kernel
theorem dX5_missing_14 : decode cX5_missing 14 = .ok (.invokeinterface 29 2, 5) := by decide +kernel
theorem dX5_missing_19 : decode cX5_missing 19 = .ok (.checkcast 9, 3) := by decide +kernel
theorem dX5_missing_22 : decode cX5_missing 22 = .ok (.astore_n 3, 1) := by decide +kernel
theorem dX5_missing_23 : decode cX5_missing 23 = .ok (.aload_n 3, 1) := by decide +kernel
theorem dX5_missing_24 : decode cX5_missing 24 = .ok (.getfield 37, 3) := by decide +kernel
theorem dX5_missing_27 : decode cX5_missing 27 = .ok (.iconst 2, 1) := by decide +kernel
theorem dX5_missing_28 : decode cX5_missing 28 = .ok (.if_icmp .eq 21, 3) := by decide +kernel
theorem dX5_missing_31 : decode cX5_missing 31 = .ok (.aload_n 3, 1) := by decide +kernel
theorem dX5_missing_32 : decode cX5_missing 32 = .ok (.getfield 37, 3) := by decide +kernel
theorem dX5_missing_35 : decode cX5_missing 35 = .ok (.ifCond .ne 18, 3) := by decide +kernel
theorem dX5_missing_38 : decode cX5_missing 38 = .ok (.aload_n 0, 1) := by decide +kernel
theorem dX5_missing_39 : decode cX5_missing 39 = .ok (.aload_n 3, 1) := by decide +kernel
theorem dX5_missing_40 : decode cX5_missing 40 = .ok (.getfield 41, 3) := by decide +kernel
theorem dX5_missing_43 : decode cX5_missing 43 = .ok (.invokevirtual 44, 3) := by decide +kernel
theorem dX5_missing_46 : decode cX5_missing 46 = .ok (.ifnonnull 7, 3) := by decide +kernel
theorem dX5_missing_49 : decode cX5_missing 49 = .ok (.iconst 1, 1) := by decide +kernel
theorem dX5_missing_50 : decode cX5_missing 50 = .ok (.goto 4, 3) := by decide +kernel
theorem dX5_missing_53 : decode cX5_missing 53 = .ok (.iconst 0, 1) := by decide +kernel
theorem dX5_missing_54 : decode cX5_missing 54 = .ok (.istore 4, 2) := by decide +kernel
theorem dX5_missing_56 : decode cX5_missing 56 = .ok (.iload 4, 2) := by decide +kernel
theorem dX5_missing_58 : decode cX5_missing 58 = .ok (.ifCond .eq 15, 3) := by decide +kernel
theorem dX5_missing_61 : decode cX5_missing 61 = .ok (.aload_n 3, 1) := by decide +kernel
theorem dX5_missing_62 : decode cX5_missing 62 = .ok (.invokevirtual 56, 3) := by decide +kernel
theorem dX5_missing_65 : decode cX5_missing 65 = .ok (.ifCond .ne 8, 3) := by decide +kernel
theorem dX5_missing_68 : decode cX5_missing 68 = .ok (.aload_n 3, 1) := by decide +kernel
theorem dX5_missing_69 : decode cX5_missing 69 = .ok (.getfield 60, 3) := by decide +kernel
theorem dX5_missing_72 : decode cX5_missing 72 = .ok (.ireturn, 1) := by decide +kernel
theorem dX5_missing_73 : decode cX5_missing 73 = .ok (.iinc 2 1, 3) := by decide +kernel
theorem dX5_missing_76 : decode cX5_missing 76 = .ok (.goto (-74), 3) := by decide +kernel
theorem dX5_missing_79 : decode cX5_missing 79 = .ok (.iconst (-1), 1) := by decide +kernel
theorem dX5_missing_80 : decode cX5_missing 80 = .ok (.ireturn, 1) := by decide +kernel
theorem dX5_otherKind_0 : decode cX5_otherKind 0 = .ok (.iconst 0, 1) := by decide +kernel
theorem dX5_otherKind_1 : decode cX5_otherKind 1 = .ok (.istore_n 2, 1) := by decide +kernel
theorem dX5_otherKind_2 : decode cX5_otherKind 2 = .ok (.iload_n 2, 1) := by decide +kernel
theorem dX5_otherKind_3 : decode cX5_otherKind 3 = .ok (.aload_n 1, 1) := by decide +kernel
theorem dX5_otherKind_4 : decode cX5_otherKind 4 = .ok (.invokeinterface 23 1, 5) := by decide +kernel
theorem dX5_otherKind_9 : decode cX5_otherKind 9 = .ok (.if_icmp .ge 61, 3) := by decide +kernel
theorem dX5_otherKind_12 : decode cX5_otherKind 12 = .ok (.aload_n 1, 1) := by decide +kernel
theorem dX5_otherKind_13 : decode cX5_otherKind 13 = .ok (.iload_n 2, 1) := by decide +kernel
theorem dX5_otherKind_14 : decode cX5_otherKind 14 = .ok (.invokeinterface 29 2, 5) := by decide +kernel
theorem dX5_otherKind_19 : decode cX5_otherKind 19 = .ok (.checkcast 9, 3) := by decide +kernel
theorem dX5_otherKind_22 : decode cX5_otherKind 22 = .ok (.astore_n 3, 1) := by decide +kernel
theorem dX5_otherKind_23 : decode cX5_otherKind 23 = .ok (.aload_n 0, 1) := by decide +kernel
theorem dX5_otherKind_24 : decode cX5_otherKind 24 = .ok (.getfield 11, 3) := by decide +kernel
theorem dX5_otherKind_27 : decode cX5_otherKind 27 = .ok (.aload_n 3, 1) := by decide +kernel
theorem dX5_otherKind_28 : decode cX5_otherKind 28 = .ok (.getfield 41, 3) := by decide +kernel
theorem dX5_otherKind_31 : decode cX5_otherKind 31 = .ok (.aaload, 1) := by decide +kernel
theorem dX5_otherKind_32 : decode cX5_otherKind 32 = .ok (.astore 4, 2) := by decide +kernel
theorem dX5_otherKind_34 : decode cX5_otherKind 34 = .ok (.aload_n 3, 1) := by decide +kernel
theorem dX5_otherKind_35 : decode cX5_otherKind 35 = .ok (.getfield 37, 3) := by decide +kernel
theorem dX5_otherKind_38 : decode cX5_otherKind 38 = .ok (.iconst 2, 1) := by decide +kernel
theorem dX5_otherKind_39 : decode cX5_otherKind 39 = .ok (.if_icmp .eq 25, 3) := by decide +kernel
theorem dX5_otherKind_42 : decode cX5_otherKind 42 = .ok (.aload 4, 2) := by decide +kernel
theorem dX5_otherKind_44 : decode cX5_otherKind 44 = .ok (.ifnull 20, 3) := by decide +kernel
theorem dX5_otherKind_47 : decode cX5_otherKind 47 = .ok (.aload 4, 2) := by decide +kernel
theorem dX5_otherKind_49 : decode cX5_otherKind 49 = .ok (.getfield 63, 3) := by decide +kernel
theorem dX5_otherKind_52 : decode cX5_otherKind 52 = .ok (.aload_n 3, 1) := by decide +kernel
theorem dX5_otherKind_53 : decode cX5_otherKind 53 = .ok (.getfield 63, 3) := by decide +kernel
theorem dX5_otherKind_56 : decode cX5_otherKind 56 = .ok (.if_icmp .eq 8, 3) := by decide +kernel
theorem dX5_otherKind_59 : decode cX5_otherKind 59 = .ok (.aload_n 3, 1) := by decide +kernel
theorem dX5_otherKind_60 : decode cX5_otherKind 60 = .ok (.getfield 60, 3) := by decide +kernel
theorem dX5_otherKind_63 : decode cX5_otherKind 63 = .ok (.ireturn, 1) := by decide +kernel
theorem dX5_otherKind_64 : decode cX5_otherKind 64 = .ok (.iinc 2 1, 3) := by decide +kernel
theorem dX5_otherKind_67 : decode cX5_otherKind 67 = .ok (.goto (-65), 3) := by decide +kernel
theorem dX5_otherKind_70 : decode cX5_otherKind 70 = .ok (.iconst (-1), 1) := by decide +kernel
theorem dX5_otherKind_71 : decode cX5_otherKind 71 = .ok (.ireturn, 1) := by decide +kernel
theorem dX6_init_0 : decode cX6_init 0 = .ok (.aload_n 0, 1) := by decide +kernel
theorem dX6_init_1 : decode cX6_init 1 = .ok (.invokespecial 3, 3) := by decide +kernel
theorem dX6_init_4 : decode cX6_init 4 = .ok (.aload_n 0, 1) := by decide +kernel
theorem dX6_init_5 : decode cX6_init 5 = .ok (.bipush 60, 2) := by decide +kernel
theorem dX6_init_7 : decode cX6_init 7 = .ok (.newarray .int, 2) := by decide +kernel
theorem dX6_init_9 : decode cX6_init 9 = .ok (.putfield 9, 3) := by decide +kernel
theorem dX6_init_12 : decode cX6_init 12 = .ok (.aload_n 0, 1) := by decide +kernel
theorem dX6_init_13 : decode cX6_init 13 = .ok (.bipush 60, 2) := by decide +kernel
theorem dX6_init_15 : decode cX6_init 15 = .ok (.newarray .int, 2) := by decide +kernel
theorem dX6_init_17 : decode cX6_init 17 = .ok (.putfield 15, 3) := by decide +kernel
theorem dX6_init_20 : decode cX6_init 20 = .ok (.aload_n 0, 1) := by decide +kernel
theorem dX6_init_21 : decode cX6_init 21 = .ok (.bipush 60, 2) := by decide +kernel
theorem dX6_init_23 : decode cX6_init 23 = .ok (.newarray .int, 2) := by decide +kernel
theorem dX6_init_25 : decode cX6_init 25 = .ok (.putfield 18, 3) := by decide +kernel
theorem dX6_init_28 : decode cX6_init 28 = .ok (.aload_n 0, 1) := by decide +kernel
theorem dX6_init_29 : decode cX6_init 29 = .ok (.bipush 60, 2) := by decide +kernel
theorem dX6_init_31 : decode cX6_init 31 = .ok (.newarray .int, 2) := by decide +kernel
theorem dX6_init_33 : decode cX6_init 33 = .ok (.putfield 21, 3) := by decide +kernel
theorem dX6_init_36 : decode cX6_init 36 = .ok (.aload_n 0, 1) := by decide +kernel
theorem dX6_init_37 : decode cX6_init 37 = .ok (.bipush 60, 2) := by decide +kernel
theorem dX6_init_39 : decode cX6_init 39 = .ok (.newarray .int, 2) := by decide +kernel
theorem dX6_init_41 : decode cX6_init 41 = .ok (.putfield 24, 3) := by decide +kernel
theorem dX6_init_44 : decode cX6_init 44 = .ok (.aload_n 0, 1) := by decide +kernel
theorem dX6_init_45 : decode cX6_init 45 = .ok (.aload_n 1, 1) := by decide +kernel
theorem dX6_init_46 : decode cX6_init 46 = .ok (.putfield 27, 3) := by decide +kernel
theorem dX6_init_49 : decode cX6_init 49 = .ok (.aload_n 0, 1) := by decide +kernel
theorem dX6_init_50 : decode cX6_init 50 = .ok (.iload_n 2, 1) := by decide +kernel
theorem dX6_init_51 : decode cX6_init 51 = .ok (.putfield 31, 3) := by decide +kernel
theorem dX6_init_54 : decode cX6_init 54 = .ok (.aload_n 0, 1) := by decide +kernel
theorem dX6_init_55 : decode cX6_init 55 = .ok (.iload_n 3, 1) := by decide +kernel
theorem dX6_init_56 : decode cX6_init 56 = .ok (.putfield 35, 3) := by decide +kernel
theorem dX6_init_59 : decode cX6_init 59 = .ok (.aload_n 0, 1) := by decide +kernel
theorem dX6_init_60 : decode cX6_init 60 = .ok (.iload 4, 2) := by decide +kernel
theorem dX6_init_62 : decode cX6_init 62 = .ok (.putfield 38, 3) := by decide +kernel
theorem dX6_init_65 : decode cX6_init 65 = .ok (.aload_n 0, 1) := by decide +kernel
theorem dX6_init_66 : decode cX6_init 66 = .ok (.iload 5, 2) := by decide +kernel
theorem dX6_init_68 : decode cX6_init 68 = .ok (.putfield 41, 3) := by decide +kernel
theorem dX6_init_71 : decode cX6_init 71 = .ok (.return_, 1) := by decide +kernel
theorem dX6_append_0 : decode cX6_append 0 = .ok (.aload_n 0, 1) := by decide +kernel
theorem dX6_append_1 : decode cX6_append 1 = .ok (.getfield 9, 3) := by decide +kernel
theorem dX6_append_4 : decode cX6_append 4 = .ok (.aload_n 0, 1) := by decide +kernel
theorem dX6_append_5 : decode cX6_append 5 = .ok (.getfield 44, 3) := by decide +kernel
theorem dX6_append_8 : decode cX6_append 8 = .ok (.iload_n 1, 1) := by decide +kernel
theorem dX6_append_9 : decode cX6_append 9 = .ok (.iastore, 1) := by decide +kernel
theorem dX6_append_10 : decode cX6_append 10 = .ok (.aload_n 0, 1) := by decide +kernel
theorem dX6_append_11 : decode cX6_append 11 = .ok (.getfield 15, 3) := by decide +kernel
theorem dX6_append_14 : decode cX6_append 14 = .ok (.aload_n 0, 1) := by decide +kernel
theorem dX6_append_15 : decode cX6_append 15 = .ok (.getfield 44, 3) := by decide +kernel
theorem dX6_append_18 : decode cX6_append 18 = .ok (.iload_n 2, 1) := by decide +kernel
theorem dX6_append_19 : decode cX6_append 19 = .ok (.iastore, 1) := by decide +kernel
theorem dX6_append_20 : decode cX6_append 20 = .ok (.aload_n 0, 1) := by decide +kernel
theorem dX6_append_21 : decode cX6_append 21 = .ok (.dup, 1) := by decide +kernel
theorem dX6_append_22 : decode cX6_append 22 = .ok (.getfield 44, 3) := by decide +kernel
theorem dX6_append_25 : decode cX6_append 25 = .ok (.iconst 1, 1) := by decide +kernel
theorem dX6_append_26 : decode cX6_append 26 = .ok (.iadd, 1) := by decide +kernel
theorem dX6_append_27 : decode cX6_append 27 = .ok (.putfield 44, 3) := by decide +kernel
theorem dX6_append_30 : decode cX6_append 30 = .ok (.return_, 1) := by decide +kernel
theorem dX6_signature_0 : decode cX6_signature 0 = .ok (.iconst 2, 1) := by decide +kernel
theorem dX6_signature_1 : decode cX6_signature 1 = .ok (.aload_n 0, 1) := by decide +kernel
theorem dX6_signature_2 : decode cX6_signature 2 = .ok (.getfield 35, 3) := by decide +kernel
theorem dX6_signature_5 : decode cX6_signature 5 = .ok (.imul, 1) := by decide +kernel
theorem dX6_signature_6 : decode cX6_signature 6 = .ok (.aload_n 0, 1) := by decide +kernel
theorem dX6_signature_7 : decode cX6_signature 7 = .ok (.getfield 38, 3) := by decide +kernel
theorem dX6_signature_10 : decode cX6_signature 10 = .ok (.iadd, 1) := by decide +kernel
theorem dX6_signature_11 : decode cX6_signature 11 = .ok (.ireturn, 1) := by decide +kernel
theorem dX6_targetOf_0 : decode cX6_targetOf 0 = .ok (.aload_n 0, 1) := by decide +kernel
theorem dX6_targetOf_1 : decode cX6_targetOf 1 = .ok (.getfield 27, 3) := by decide +kernel
theorem dX6_targetOf_4 : decode cX6_targetOf 4 = .ok (.aload_n 0, 1) := by decide +kernel
theorem dX6_targetOf_5 : decode cX6_targetOf 5 = .ok (.getfield 15, 3) := by decide +kernel
theorem dX6_targetOf_8 : decode cX6_targetOf 8 = .ok (.iload_n 1, 1) := by decide +kernel
theorem dX6_targetOf_9 : decode cX6_targetOf 9 = .ok (.iaload, 1) := by decide +kernel
theorem dX6_targetOf_10 : decode cX6_targetOf 10 = .ok (.invokevirtual 47, 3) := by decide +kernel
theorem dX6_targetOf_13 : decode cX6_targetOf 13 = .ok (.astore_n 2, 1) := by decide +kernel
theorem dX6_targetOf_14 : decode cX6_targetOf 14 = .ok (.aload_n 2, 1) := by decide +kernel
theorem dX6_targetOf_15 : decode cX6_targetOf 15 = .ok (.ifnonnull 7, 3) := by decide +kernel
theorem dX6_targetOf_18 : decode cX6_targetOf 18 = .ok (.aconst_null, 1) := by decide +kernel
theorem dX6_targetOf_19 : decode cX6_targetOf 19 = .ok (.goto 7, 3) := by decide +kernel
theorem dX6_targetOf_22 : decode cX6_targetOf 22 = .ok (.aload_n 2, 1) := by decide +kernel
theorem dX6_targetOf_23 : decode cX6_targetOf 23 = .ok (.invokevirtual 53, 3) := by decide +kernel
theorem dX6_targetOf_26 : decode cX6_targetOf 26 = .ok (.areturn, 1) := by decide +kernel
theorem dX6_addressOf_0 : decode cX6_addressOf 0 = .ok (.aload_n 0, 1) := by decide +kernel
theorem dX6_addressOf_1 : decode cX6_addressOf 1 = .ok (.getfield 27, 3) := by decide +kernel
theorem dX6_addressOf_4 : decode cX6_addressOf 4 = .ok (.aload_n 0, 1) := by decide +kernel
theorem dX6_addressOf_5 : decode cX6_addressOf 5 = .ok (.getfield 15, 3) := by decide +kernel
theorem dX6_addressOf_8 : decode cX6_addressOf 8 = .ok (.iload_n 1, 1) := by decide +kernel
theorem dX6_addressOf_9 : decode cX6_addressOf 9 = .ok (.iaload, 1) := by decide +kernel
theorem dX6_addressOf_10 : decode cX6_addressOf 10 = .ok (.invokevirtual 47, 3) := by decide +kernel
theorem dX6_addressOf_13 : decode cX6_addressOf 13 = .ok (.astore_n 2, 1) := by decide +kernel
theorem dX6_addressOf_14 : decode cX6_addressOf 14 = .ok (.aload_n 2, 1) := by decide +kernel
theorem dX6_addressOf_15 : decode cX6_addressOf 15 = .ok (.ifnonnull 7, 3) := by decide +kernel
theorem dX6_addressOf_18 : decode cX6_addressOf 18 = .ok (.iconst 0, 1) := by decide +kernel
theorem dX6_addressOf_19 : decode cX6_addressOf 19 = .ok (.goto 7, 3) := by decide +kernel
theorem dX6_addressOf_22 : decode cX6_addressOf 22 = .ok (.aload_n 2, 1) := by decide +kernel
theorem dX6_addressOf_23 : decode cX6_addressOf 23 = .ok (.invokevirtual 59, 3) := by decide +kernel
theorem dX6_addressOf_26 : decode cX6_addressOf 26 = .ok (.ireturn, 1) := by decide +kernel
theorem dX6_slotOf_0 : decode cX6_slotOf 0 = .ok (.aload_n 0, 1) := by decide +kernel
theorem dX6_slotOf_1 : decode cX6_slotOf 1 = .ok (.getfield 27, 3) := by decide +kernel
theorem dX6_slotOf_4 : decode cX6_slotOf 4 = .ok (.aload_n 0, 1) := by decide +kernel
theorem dX6_slotOf_5 : decode cX6_slotOf 5 = .ok (.getfield 15, 3) := by decide +kernel
theorem dX6_slotOf_8 : decode cX6_slotOf 8 = .ok (.iload_n 1, 1) := by decide +kernel
theorem dX6_slotOf_9 : decode cX6_slotOf 9 = .ok (.iaload, 1) := by decide +kernel
theorem dX6_slotOf_10 : decode cX6_slotOf 10 = .ok (.invokevirtual 47, 3) := by decide +kernel
theorem dX6_slotOf_13 : decode cX6_slotOf 13 = .ok (.astore_n 2, 1) := by decide +kernel
theorem dX6_slotOf_14 : decode cX6_slotOf 14 = .ok (.aload_n 2, 1) := by decide +kernel
theorem dX6_slotOf_15 : decode cX6_slotOf 15 = .ok (.ifnonnull 7, 3) := by decide +kernel
theorem dX6_slotOf_18 : decode cX6_slotOf 18 = .ok (.iconst 0, 1) := by decide +kernel
theorem dX6_slotOf_19 : decode cX6_slotOf 19 = .ok (.goto 7, 3) := by decide +kernel
theorem dX6_slotOf_22 : decode cX6_slotOf 22 = .ok (.aload_n 2, 1) := by decide +kernel
theorem dX6_slotOf_23 : decode cX6_slotOf 23 = .ok (.invokevirtual 63, 3) := by decide +kernel
theorem dX6_slotOf_26 : decode cX6_slotOf 26 = .ok (.ireturn, 1) := by decide +kernel
theorem dX6_numberFits_0 : decode cX6_numberFits 0 = .ok (.aload_n 0, 1) := by decide +kernel
theorem dX6_numberFits_1 : decode cX6_numberFits 1 = .ok (.getfield 15, 3) := by decide +kernel
theorem dX6_numberFits_4 : decode cX6_numberFits 4 = .ok (.iload_n 1, 1) := by decide +kernel
theorem dX6_numberFits_5 : decode cX6_numberFits 5 = .ok (.iaload, 1) := by decide +kernel
theorem dX6_numberFits_6 : decode cX6_numberFits 6 = .ok (.istore_n 2, 1) := by decide +kernel
theorem dX6_numberFits_7 : decode cX6_numberFits 7 = .ok (.aload_n 0, 1) := by decide +kernel
theorem dX6_numberFits_8 : decode cX6_numberFits 8 = .ok (.getfield 9, 3) := by decide +kernel
theorem dX6_numberFits_11 : decode cX6_numberFits 11 = .ok (.iload_n 1, 1) := by decide +kernel
theorem dX6_numberFits_12 : decode cX6_numberFits 12 = .ok (.iaload, 1) := by decide +kernel
theorem dX6_numberFits_13 : decode cX6_numberFits 13 = .ok (.tableswitch 252 1 34 #[151, 151, 252, 252, 252, 252, 252, 252, 252, 252, 252, 252, 252, 252, 252, 252, 252, 252, 174, 174, 174, 174, 191, 191, 191, 252, 252, 206, 206, 252, 222, 236, 229, 222], 151) := by decide +kernel
theorem dX6_numberFits_164 : decode cX6_numberFits 164 = .ok (.iload_n 2, 1) := by decide +kernel
theorem dX6_numberFits_165 : decode cX6_numberFits 165 = .ok (.ifCond .lt 20, 3) := by decide +kernel
theorem dX6_numberFits_168 : decode cX6_numberFits 168 = .ok (.iload_n 2, 1) := by decide +kernel
theorem dX6_numberFits_169 : decode cX6_numberFits 169 = .ok (.aload_n 0, 1) := by decide +kernel
theorem dX6_numberFits_170 : decode cX6_numberFits 170 = .ok (.getfield 35, 3) := by decide +kernel
theorem dX6_numberFits_173 : decode cX6_numberFits 173 = .ok (.aload_n 0, 1) := by decide +kernel
theorem dX6_numberFits_174 : decode cX6_numberFits 174 = .ok (.getfield 41, 3) := by decide +kernel
theorem dX6_numberFits_177 : decode cX6_numberFits 177 = .ok (.iadd, 1) := by decide +kernel
theorem dX6_numberFits_178 : decode cX6_numberFits 178 = .ok (.if_icmp .ge 7, 3) := by decide +kernel
theorem dX6_numberFits_181 : decode cX6_numberFits 181 = .ok (.iconst 1, 1) := by decide +kernel
theorem dX6_numberFits_182 : decode cX6_numberFits 182 = .ok (.goto 4, 3) := by decide +kernel
theorem dX6_numberFits_185 : decode cX6_numberFits 185 = .ok (.iconst 0, 1) := by decide +kernel
theorem dX6_numberFits_186 : decode cX6_numberFits 186 = .ok (.ireturn, 1) := by decide +kernel
theorem dX6_numberFits_187 : decode cX6_numberFits 187 = .ok (.iload_n 2, 1) := by decide +kernel
theorem dX6_numberFits_188 : decode cX6_numberFits 188 = .ok (.ifCond .lt 14, 3) := by decide +kernel
theorem dX6_numberFits_191 : decode cX6_numberFits 191 = .ok (.iload_n 2, 1) := by decide +kernel
theorem dX6_numberFits_192 : decode cX6_numberFits 192 = .ok (.sipush 1000, 3) := by decide +kernel
theorem dX6_numberFits_195 : decode cX6_numberFits 195 = .ok (.if_icmp .gt 7, 3) := by decide +kernel
theorem dX6_numberFits_198 : decode cX6_numberFits 198 = .ok (.iconst 1, 1) := by decide +kernel
theorem dX6_numberFits_199 : decode cX6_numberFits 199 = .ok (.goto 4, 3) := by decide +kernel
theorem dX6_numberFits_202 : decode cX6_numberFits 202 = .ok (.iconst 0, 1) := by decide +kernel
theorem dX6_numberFits_203 : decode cX6_numberFits 203 = .ok (.ireturn, 1) := by decide +kernel
theorem dX6_numberFits_204 : decode cX6_numberFits 204 = .ok (.iload_n 2, 1) := by decide +kernel
theorem dX6_numberFits_205 : decode cX6_numberFits 205 = .ok (.ifCond .eq 8, 3) := by decide +kernel
theorem dX6_numberFits_208 : decode cX6_numberFits 208 = .ok (.iload_n 2, 1) := by decide +kernel
theorem dX6_numberFits_209 : decode cX6_numberFits 209 = .ok (.iconst 1, 1) := by decide +kernel
theorem dX6_numberFits_210 : decode cX6_numberFits 210 = .ok (.if_icmp .ne 7, 3) := by decide +kernel
theorem dX6_numberFits_213 : decode cX6_numberFits 213 = .ok (.iconst 1, 1) := by decide +kernel
theorem dX6_numberFits_214 : decode cX6_numberFits 214 = .ok (.goto 4, 3) := by decide +kernel
theorem dX6_numberFits_217 : decode cX6_numberFits 217 = .ok (.iconst 0, 1) := by decide +kernel
theorem dX6_numberFits_218 : decode cX6_numberFits 218 = .ok (.ireturn, 1) := by decide +kernel
theorem dX6_numberFits_219 : decode cX6_numberFits 219 = .ok (.iload_n 2, 1) := by decide +kernel
theorem dX6_numberFits_220 : decode cX6_numberFits 220 = .ok (.ifCond .lt 13, 3) := by decide +kernel
theorem dX6_numberFits_223 : decode cX6_numberFits 223 = .ok (.iload_n 2, 1) := by decide +kernel
theorem dX6_numberFits_224 : decode cX6_numberFits 224 = .ok (.bipush 30, 2) := by decide +kernel
theorem dX6_numberFits_226 : decode cX6_numberFits 226 = .ok (.if_icmp .gt 7, 3) := by decide +kernel
theorem dX6_numberFits_229 : decode cX6_numberFits 229 = .ok (.iconst 1, 1) := by decide +kernel
theorem dX6_numberFits_230 : decode cX6_numberFits 230 = .ok (.goto 4, 3) := by decide +kernel
theorem dX6_numberFits_233 : decode cX6_numberFits 233 = .ok (.iconst 0, 1) := by decide +kernel
theorem dX6_numberFits_234 : decode cX6_numberFits 234 = .ok (.ireturn, 1) := by decide +kernel
theorem dX6_numberFits_235 : decode cX6_numberFits 235 = .ok (.aload_n 0, 1) := by decide +kernel
theorem dX6_numberFits_236 : decode cX6_numberFits 236 = .ok (.iload_n 1, 1) := by decide +kernel
theorem dX6_numberFits_237 : decode cX6_numberFits 237 = .ok (.iconst 0, 1) := by decide +kernel
theorem dX6_numberFits_238 : decode cX6_numberFits 238 = .ok (.invokevirtual 66, 3) := by decide +kernel
theorem dX6_numberFits_241 : decode cX6_numberFits 241 = .ok (.ireturn, 1) := by decide +kernel
theorem dX6_numberFits_242 : decode cX6_numberFits 242 = .ok (.aload_n 0, 1) := by decide +kernel
theorem dX6_numberFits_243 : decode cX6_numberFits 243 = .ok (.iload_n 1, 1) := by decide +kernel
theorem dX6_numberFits_244 : decode cX6_numberFits 244 = .ok (.iconst 1, 1) := by decide +kernel
theorem dX6_numberFits_245 : decode cX6_numberFits 245 = .ok (.invokevirtual 66, 3) := by decide +kernel
theorem dX6_numberFits_248 : decode cX6_numberFits 248 = .ok (.ireturn, 1) := by decide +kernel
theorem dX6_numberFits_249 : decode cX6_numberFits 249 = .ok (.iload_n 2, 1) := by decide +kernel
theorem dX6_numberFits_250 : decode cX6_numberFits 250 = .ok (.ifCond .lt 13, 3) := by decide +kernel
theorem dX6_numberFits_253 : decode cX6_numberFits 253 = .ok (.iload_n 2, 1) := by decide +kernel
theorem dX6_numberFits_254 : decode cX6_numberFits 254 = .ok (.bipush 10, 2) := by decide +kernel
theorem dX6_numberFits_256 : decode cX6_numberFits 256 = .ok (.if_icmp .ge 7, 3) := by decide +kernel
theorem dX6_numberFits_259 : decode cX6_numberFits 259 = .ok (.iconst 1, 1) := by decide +kernel
theorem dX6_numberFits_260 : decode cX6_numberFits 260 = .ok (.goto 4, 3) := by decide +kernel
theorem dX6_numberFits_263 : decode cX6_numberFits 263 = .ok (.iconst 0, 1) := by decide +kernel
theorem dX6_numberFits_264 : decode cX6_numberFits 264 = .ok (.ireturn, 1) := by decide +kernel
theorem dX6_numberFits_265 : decode cX6_numberFits 265 = .ok (.iconst 1, 1) := by decide +kernel
theorem dX6_numberFits_266 : decode cX6_numberFits 266 = .ok (.ireturn, 1) := by decide +kernel
theorem dX6_namesKind_0 : decode cX6_namesKind 0 = .ok (.aload_n 0, 1) := by decide +kernel
theorem dX6_namesKind_1 : decode cX6_namesKind 1 = .ok (.getfield 27, 3) := by decide +kernel
theorem dX6_namesKind_4 : decode cX6_namesKind 4 = .ok (.aload_n 0, 1) := by decide +kernel
theorem dX6_namesKind_5 : decode cX6_namesKind 5 = .ok (.getfield 15, 3) := by decide +kernel
theorem dX6_namesKind_8 : decode cX6_namesKind 8 = .ok (.iload_n 1, 1) := by decide +kernel
theorem dX6_namesKind_9 : decode cX6_namesKind 9 = .ok (.iaload, 1) := by decide +kernel
theorem dX6_namesKind_10 : decode cX6_namesKind 10 = .ok (.invokevirtual 47, 3) := by decide +kernel
theorem dX6_namesKind_13 : decode cX6_namesKind 13 = .ok (.astore_n 3, 1) := by decide +kernel
theorem dX6_namesKind_14 : decode cX6_namesKind 14 = .ok (.aload_n 3, 1) := by decide +kernel
theorem dX6_namesKind_15 : decode cX6_namesKind 15 = .ok (.ifnull 15, 3) := by decide +kernel
theorem dX6_namesKind_18 : decode cX6_namesKind 18 = .ok (.aload_n 3, 1) := by decide +kernel
theorem dX6_namesKind_19 : decode cX6_namesKind 19 = .ok (.getfield 70, 3) := by decide +kernel
theorem dX6_namesKind_22 : decode cX6_namesKind 22 = .ok (.iload_n 2, 1) := by decide +kernel
theorem dX6_namesKind_23 : decode cX6_namesKind 23 = .ok (.if_icmp .ne 7, 3) := by decide +kernel
theorem dX6_namesKind_26 : decode cX6_namesKind 26 = .ok (.iconst 1, 1) := by decide +kernel
theorem dX6_namesKind_27 : decode cX6_namesKind 27 = .ok (.goto 4, 3) := by decide +kernel
theorem dX6_namesKind_30 : decode cX6_namesKind 30 = .ok (.iconst 0, 1) := by decide +kernel
theorem dX6_namesKind_31 : decode cX6_namesKind 31 = .ok (.ireturn, 1) := by decide +kernel
theorem dX6_callFits_0 : decode cX6_callFits 0 = .ok (.aload_n 0, 1) := by decide +kernel
theorem dX6_callFits_1 : decode cX6_callFits 1 = .ok (.getfield 27, 3) := by decide +kernel
theorem dX6_callFits_4 : decode cX6_callFits 4 = .ok (.aload_n 0, 1) := by decide +kernel
theorem dX6_callFits_5 : decode cX6_callFits 5 = .ok (.getfield 15, 3) := by decide +kernel
theorem dX6_callFits_8 : decode cX6_callFits 8 = .ok (.iload_n 1, 1) := by decide +kernel
theorem dX6_callFits_9 : decode cX6_callFits 9 = .ok (.iaload, 1) := by decide +kernel
theorem dX6_callFits_10 : decode cX6_callFits 10 = .ok (.invokevirtual 47, 3) := by decide +kernel
theorem dX6_callFits_13 : decode cX6_callFits 13 = .ok (.astore_n 2, 1) := by decide +kernel
theorem dX6_callFits_14 : decode cX6_callFits 14 = .ok (.aload_n 0, 1) := by decide +kernel
theorem dX6_callFits_15 : decode cX6_callFits 15 = .ok (.iload_n 1, 1) := by decide +kernel
theorem dX6_callFits_16 : decode cX6_callFits 16 = .ok (.invokevirtual 73, 3) := by decide +kernel
theorem dX6_callFits_19 : decode cX6_callFits 19 = .ok (.astore_n 3, 1) := by decide +kernel
theorem dX6_callFits_20 : decode cX6_callFits 20 = .ok (.aload_n 2, 1) := by decide +kernel
theorem dX6_callFits_21 : decode cX6_callFits 21 = .ok (.ifnull 18, 3) := by decide +kernel
theorem dX6_callFits_24 : decode cX6_callFits 24 = .ok (.aload_n 3, 1) := by decide +kernel
theorem dX6_callFits_25 : decode cX6_callFits 25 = .ok (.ifnull 14, 3) := by decide +kernel
theorem dX6_callFits_28 : decode cX6_callFits 28 = .ok (.aload_n 3, 1) := by decide +kernel
theorem dX6_callFits_29 : decode cX6_callFits 29 = .ok (.invokevirtual 77, 3) := by decide +kernel
theorem dX6_callFits_32 : decode cX6_callFits 32 = .ok (.aload_n 2, 1) := by decide +kernel
theorem dX6_callFits_33 : decode cX6_callFits 33 = .ok (.invokevirtual 80, 3) := by decide +kernel
theorem dX6_callFits_36 : decode cX6_callFits 36 = .ok (.if_icmp .ne 7, 3) := by decide +kernel
theorem dX6_callFits_39 : decode cX6_callFits 39 = .ok (.iconst 1, 1) := by decide +kernel
theorem dX6_callFits_40 : decode cX6_callFits 40 = .ok (.goto 4, 3) := by decide +kernel
theorem dX6_callFits_43 : decode cX6_callFits 43 = .ok (.iconst 0, 1) := by decide +kernel
theorem dX6_callFits_44 : decode cX6_callFits 44 = .ok (.ireturn, 1) := by decide +kernel
theorem dX7_init_0 : decode cX7_init 0 = .ok (.aload_n 0, 1) := by decide +kernel
theorem dX7_init_1 : decode cX7_init 1 = .ok (.invokespecial 1, 3) := by decide +kernel
theorem dX7_init_4 : decode cX7_init 4 = .ok (.aload_n 0, 1) := by decide +kernel
theorem dX7_init_5 : decode cX7_init 5 = .ok (.iload_n 1, 1) := by decide +kernel
theorem dX7_init_6 : decode cX7_init 6 = .ok (.newarray .byte, 2) := by decide +kernel
theorem dX7_init_8 : decode cX7_init 8 = .ok (.putfield 7, 3) := by decide +kernel
theorem dX7_init_11 : decode cX7_init 11 = .ok (.aload_n 0, 1) := by decide +kernel
theorem dX7_init_12 : decode cX7_init 12 = .ok (.iconst 1, 1) := by decide +kernel
theorem dX7_init_13 : decode cX7_init 13 = .ok (.iload_n 2, 1) := by decide +kernel
theorem dX7_init_14 : decode cX7_init 14 = .ok (.ishl, 1) := by decide +kernel
theorem dX7_init_15 : decode cX7_init 15 = .ok (.putfield 13, 3) := by decide +kernel
theorem dX7_init_18 : decode cX7_init 18 = .ok (.return_, 1) := by decide +kernel
theorem dX8_init_0 : decode cX8_init 0 = .ok (.aload_n 0, 1) := by decide +kernel
theorem dX8_init_1 : decode cX8_init 1 = .ok (.invokespecial 1, 3) := by decide +kernel
theorem dX8_init_4 : decode cX8_init 4 = .ok (.aload_n 0, 1) := by decide +kernel
theorem dX8_init_5 : decode cX8_init 5 = .ok (.iload_n 1, 1) := by decide +kernel
theorem dX8_init_6 : decode cX8_init 6 = .ok (.putfield 7, 3) := by decide +kernel
theorem dX8_init_9 : decode cX8_init 9 = .ok (.aload_n 0, 1) := by decide +kernel
theorem dX8_init_10 : decode cX8_init 10 = .ok (.iload_n 2, 1) := by decide +kernel
theorem dX8_init_11 : decode cX8_init 11 = .ok (.putfield 13, 3) := by decide +kernel
theorem dX8_init_14 : decode cX8_init 14 = .ok (.aload_n 0, 1) := by decide +kernel
theorem dX8_init_15 : decode cX8_init 15 = .ok (.iload_n 3, 1) := by decide +kernel
theorem dX8_init_16 : decode cX8_init 16 = .ok (.putfield 16, 3) := by decide +kernel
theorem dX8_init_19 : decode cX8_init 19 = .ok (.aload_n 0, 1) := by decide +kernel
theorem dX8_init_20 : decode cX8_init 20 = .ok (.iload 4, 2) := by decide +kernel
theorem dX8_init_22 : decode cX8_init 22 = .ok (.putfield 19, 3) := by decide +kernel
theorem dX8_init_25 : decode cX8_init 25 = .ok (.aload_n 0, 1) := by decide +kernel
theorem dX8_init_26 : decode cX8_init 26 = .ok (.aload 5, 2) := by decide +kernel
theorem dX8_init_28 : decode cX8_init 28 = .ok (.putfield 22, 3) := by decide +kernel
theorem dX8_init_31 : decode cX8_init 31 = .ok (.aload_n 0, 1) := by decide +kernel
theorem dX8_init_32 : decode cX8_init 32 = .ok (.aload 6, 2) := by decide +kernel
theorem dX8_init_34 : decode cX8_init 34 = .ok (.putfield 26, 3) := by decide +kernel
theorem dX8_init_37 : decode cX8_init 37 = .ok (.aload_n 0, 1) := by decide +kernel
theorem dX8_init_38 : decode cX8_init 38 = .ok (.iload 7, 2) := by decide +kernel
theorem dX8_init_40 : decode cX8_init 40 = .ok (.putfield 30, 3) := by decide +kernel
theorem dX8_init_43 : decode cX8_init 43 = .ok (.return_, 1) := by decide +kernel
theorem dX8_defines_0 : decode cX8_defines 0 = .ok (.aload_n 0, 1) := by decide +kernel
theorem dX8_defines_1 : decode cX8_defines 1 = .ok (.getfield 22, 3) := by decide +kernel
theorem dX8_defines_4 : decode cX8_defines 4 = .ok (.ifnonnull 10, 3) := by decide +kernel
theorem dX8_defines_7 : decode cX8_defines 7 = .ok (.aload_n 0, 1) := by decide +kernel
theorem dX8_defines_8 : decode cX8_defines 8 = .ok (.getfield 26, 3) := by decide +kernel
theorem dX8_defines_11 : decode cX8_defines 11 = .ok (.ifnull 7, 3) := by decide +kernel
theorem dX8_defines_14 : decode cX8_defines 14 = .ok (.iconst 1, 1) := by decide +kernel
theorem dX8_defines_15 : decode cX8_defines 15 = .ok (.goto 4, 3) := by decide +kernel
theorem dX8_defines_18 : decode cX8_defines 18 = .ok (.iconst 0, 1) := by decide +kernel
theorem dX8_defines_19 : decode cX8_defines 19 = .ok (.ireturn, 1) := by decide +kernel
theorem dX8_signature_0 : decode cX8_signature 0 = .ok (.aload_n 0, 1) := by decide +kernel
theorem dX8_signature_1 : decode cX8_signature 1 = .ok (.getfield 22, 3) := by decide +kernel
theorem dX8_signature_4 : decode cX8_signature 4 = .ok (.ifnonnull 10, 3) := by decide +kernel
theorem dX8_signature_7 : decode cX8_signature 7 = .ok (.aload_n 0, 1) := by decide +kernel
theorem dX8_signature_8 : decode cX8_signature 8 = .ok (.getfield 30, 3) := by decide +kernel
theorem dX8_signature_11 : decode cX8_signature 11 = .ok (.goto 10, 3) := by decide +kernel
theorem dX8_signature_14 : decode cX8_signature 14 = .ok (.aload_n 0, 1) := by decide +kernel
theorem dX8_signature_15 : decode cX8_signature 15 = .ok (.getfield 22, 3) := by decide +kernel
theorem dX8_signature_18 : decode cX8_signature 18 = .ok (.invokevirtual 33, 3) := by decide +kernel
theorem dX8_signature_21 : decode cX8_signature 21 = .ok (.ireturn, 1) := by decide +kernel
theorem dX8_target_0 : decode cX8_target 0 = .ok (.aload_n 0, 1) := by decide +kernel
theorem dX8_target_1 : decode cX8_target 1 = .ok (.getfield 39, 3) := by decide +kernel
theorem dX8_target_4 : decode cX8_target 4 = .ok (.ifnonnull 7, 3) := by decide +kernel
theorem dX8_target_7 : decode cX8_target 7 = .ok (.aconst_null, 1) := by decide +kernel
theorem dX8_target_8 : decode cX8_target 8 = .ok (.goto 10, 3) := by decide +kernel
theorem dX8_target_11 : decode cX8_target 11 = .ok (.aload_n 0, 1) := by decide +kernel
theorem dX8_target_12 : decode cX8_target 12 = .ok (.getfield 39, 3) := by decide +kernel
theorem dX8_target_15 : decode cX8_target 15 = .ok (.getfield 22, 3) := by decide +kernel
theorem dX8_target_18 : decode cX8_target 18 = .ok (.areturn, 1) := by decide +kernel
theorem dX8_address_0 : decode cX8_address 0 = .ok (.aload_n 0, 1) := by decide +kernel
theorem dX8_address_1 : decode cX8_address 1 = .ok (.getfield 39, 3) := by decide +kernel
theorem dX8_address_4 : decode cX8_address 4 = .ok (.ifnull 13, 3) := by decide +kernel
theorem dX8_address_7 : decode cX8_address 7 = .ok (.aload_n 0, 1) := by decide +kernel
theorem dX8_address_8 : decode cX8_address 8 = .ok (.getfield 39, 3) := by decide +kernel
theorem dX8_address_11 : decode cX8_address 11 = .ok (.getfield 26, 3) := by decide +kernel
theorem dX8_address_14 : decode cX8_address 14 = .ok (.ifnonnull 7, 3) := by decide +kernel
theorem dX8_address_17 : decode cX8_address 17 = .ok (.iconst 0, 1) := by decide +kernel
theorem dX8_address_18 : decode cX8_address 18 = .ok (.goto 21, 3) := by decide +kernel
theorem dX8_address_21 : decode cX8_address 21 = .ok (.aload_n 0, 1) := by decide +kernel
theorem dX8_address_22 : decode cX8_address 22 = .ok (.getfield 39, 3) := by decide +kernel
theorem dX8_address_25 : decode cX8_address 25 = .ok (.getfield 26, 3) := by decide +kernel
theorem dX8_address_28 : decode cX8_address 28 = .ok (.getfield 43, 3) := by decide +kernel
theorem dX8_address_31 : decode cX8_address 31 = .ok (.aload_n 0, 1) := by decide +kernel
theorem dX8_address_32 : decode cX8_address 32 = .ok (.getfield 39, 3) := by decide +kernel
theorem dX8_address_35 : decode cX8_address 35 = .ok (.getfield 30, 3) := by decide +kernel
theorem dX8_address_38 : decode cX8_address 38 = .ok (.iadd, 1) := by decide +kernel
theorem dX8_address_39 : decode cX8_address 39 = .ok (.ireturn, 1) := by decide +kernel
theorem dX8_slot_0 : decode cX8_slot 0 = .ok (.aload_n 0, 1) := by decide +kernel
theorem dX8_slot_1 : decode cX8_slot 1 = .ok (.invokevirtual 48, 3) := by decide +kernel
theorem dX8_slot_4 : decode cX8_slot 4 = .ok (.astore_n 1, 1) := by decide +kernel
theorem dX8_slot_5 : decode cX8_slot 5 = .ok (.aload_n 1, 1) := by decide +kernel
theorem dX8_slot_6 : decode cX8_slot 6 = .ok (.ifnonnull 7, 3) := by decide +kernel
theorem dX8_slot_9 : decode cX8_slot 9 = .ok (.iconst 0, 1) := by decide +kernel
theorem dX8_slot_10 : decode cX8_slot 10 = .ok (.goto 7, 3) := by decide +kernel
theorem dX8_slot_13 : decode cX8_slot 13 = .ok (.aload_n 1, 1) := by decide +kernel
theorem dX8_slot_14 : decode cX8_slot 14 = .ok (.getfield 52, 3) := by decide +kernel
theorem dX8_slot_17 : decode cX8_slot 17 = .ok (.ireturn, 1) := by decide +kernel
theorem dX9_init_0 : decode cX9_init 0 = .ok (.aload_n 0, 1) := by decide +kernel
theorem dX9_init_1 : decode cX9_init 1 = .ok (.invokespecial 1, 3) := by decide +kernel
theorem dX9_init_4 : decode cX9_init 4 = .ok (.aload_n 0, 1) := by decide +kernel
theorem dX9_init_5 : decode cX9_init 5 = .ok (.new 7, 3) := by decide +kernel
theorem dX9_init_8 : decode cX9_init 8 = .ok (.dup, 1) := by decide +kernel
theorem dX9_init_9 : decode cX9_init 9 = .ok (.invokespecial 9, 3) := by decide +kernel
theorem dX9_init_12 : decode cX9_init 12 = .ok (.putfield 10, 3) := by decide +kernel
theorem dX9_init_15 : decode cX9_init 15 = .ok (.aload_n 0, 1) := by decide +kernel
theorem dX9_init_16 : decode cX9_init 16 = .ok (.new 7, 3) := by decide +kernel
theorem dX9_init_19 : decode cX9_init 19 = .ok (.dup, 1) := by decide +kernel
theorem dX9_init_20 : decode cX9_init 20 = .ok (.invokespecial 9, 3) := by decide +kernel
theorem dX9_init_23 : decode cX9_init 23 = .ok (.putfield 16, 3) := by decide +kernel
theorem dX9_init_26 : decode cX9_init 26 = .ok (.aload_n 0, 1) := by decide +kernel
theorem dX9_init_27 : decode cX9_init 27 = .ok (.new 7, 3) := by decide +kernel
theorem dX9_init_30 : decode cX9_init 30 = .ok (.dup, 1) := by decide +kernel
theorem dX9_init_31 : decode cX9_init 31 = .ok (.invokespecial 9, 3) := by decide +kernel
theorem dX9_init_34 : decode cX9_init 34 = .ok (.putfield 19, 3) := by decide +kernel
theorem dX9_init_37 : decode cX9_init 37 = .ok (.return_, 1) := by decide +kernel
theorem dX9_routineAt_0 : decode cX9_routineAt 0 = .ok (.iload_n 1, 1) := by decide +kernel
theorem dX9_routineAt_1 : decode cX9_routineAt 1 = .ok (.ifCond .lt 32, 3) := by decide +kernel
theorem dX9_routineAt_4 : decode cX9_routineAt 4 = .ok (.iload_n 1, 1) := by decide +kernel
theorem dX9_routineAt_5 : decode cX9_routineAt 5 = .ok (.aload_n 0, 1) := by decide +kernel
theorem dX9_routineAt_6 : decode cX9_routineAt 6 = .ok (.getfield 10, 3) := by decide +kernel
theorem dX9_routineAt_9 : decode cX9_routineAt 9 = .ok (.invokeinterface 22 1, 5) := by decide +kernel
theorem dX9_routineAt_14 : decode cX9_routineAt 14 = .ok (.if_icmp .ge 19, 3) := by decide +kernel
theorem dX9_routineAt_17 : decode cX9_routineAt 17 = .ok (.aload_n 0, 1) := by decide +kernel
theorem dX9_routineAt_18 : decode cX9_routineAt 18 = .ok (.getfield 10, 3) := by decide +kernel
theorem dX9_routineAt_21 : decode cX9_routineAt 21 = .ok (.iload_n 1, 1) := by decide +kernel
theorem dX9_routineAt_22 : decode cX9_routineAt 22 = .ok (.invokeinterface 28 2, 5) := by decide +kernel
theorem dX9_routineAt_27 : decode cX9_routineAt 27 = .ok (.checkcast 32, 3) := by decide +kernel
theorem dX9_routineAt_30 : decode cX9_routineAt 30 = .ok (.goto 4, 3) := by decide +kernel
theorem dX9_routineAt_33 : decode cX9_routineAt 33 = .ok (.aconst_null, 1) := by decide +kernel
theorem dX9_routineAt_34 : decode cX9_routineAt 34 = .ok (.areturn, 1) := by decide +kernel
theorem dX9_segmentAt_0 : decode cX9_segmentAt 0 = .ok (.iload_n 1, 1) := by decide +kernel
theorem dX9_segmentAt_1 : decode cX9_segmentAt 1 = .ok (.ifCond .lt 32, 3) := by decide +kernel
theorem dX9_segmentAt_4 : decode cX9_segmentAt 4 = .ok (.iload_n 1, 1) := by decide +kernel
theorem dX9_segmentAt_5 : decode cX9_segmentAt 5 = .ok (.aload_n 0, 1) := by decide +kernel
theorem dX9_segmentAt_6 : decode cX9_segmentAt 6 = .ok (.getfield 16, 3) := by decide +kernel
theorem dX9_segmentAt_9 : decode cX9_segmentAt 9 = .ok (.invokeinterface 22 1, 5) := by decide +kernel
theorem dX9_segmentAt_14 : decode cX9_segmentAt 14 = .ok (.if_icmp .ge 19, 3) := by decide +kernel
theorem dX9_segmentAt_17 : decode cX9_segmentAt 17 = .ok (.aload_n 0, 1) := by decide +kernel
theorem dX9_segmentAt_18 : decode cX9_segmentAt 18 = .ok (.getfield 16, 3) := by decide +kernel
theorem dX9_segmentAt_21 : decode cX9_segmentAt 21 = .ok (.iload_n 1, 1) := by decide +kernel
theorem dX9_segmentAt_22 : decode cX9_segmentAt 22 = .ok (.invokeinterface 28 2, 5) := by decide +kernel
theorem dX9_segmentAt_27 : decode cX9_segmentAt 27 = .ok (.checkcast 34, 3) := by decide +kernel
theorem dX9_segmentAt_30 : decode cX9_segmentAt 30 = .ok (.goto 4, 3) := by decide +kernel
theorem dX9_segmentAt_33 : decode cX9_segmentAt 33 = .ok (.aconst_null, 1) := by decide +kernel
theorem dX9_segmentAt_34 : decode cX9_segmentAt 34 = .ok (.areturn, 1) := by decide +kernel
theorem dX9_symbolAt_0 : decode cX9_symbolAt 0 = .ok (.iload_n 1, 1) := by decide +kernel
theorem dX9_symbolAt_1 : decode cX9_symbolAt 1 = .ok (.ifCond .lt 32, 3) := by decide +kernel
theorem dX9_symbolAt_4 : decode cX9_symbolAt 4 = .ok (.iload_n 1, 1) := by decide +kernel
theorem dX9_symbolAt_5 : decode cX9_symbolAt 5 = .ok (.aload_n 0, 1) := by decide +kernel
