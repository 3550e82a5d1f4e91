theorem dX0_init_0 : decode cX0_init 0 = .ok (.aload_n 0, 1) := by decide +kernel
theorem dX0_init_1 : decode cX0_init 1 = .ok (.invokespecial 1, 3) := by decide +kernel
theorem dX0_init_4 : decode cX0_init 4 = .ok (.aload_n 0, 1) := by decide +kernel
theorem dX0_init_5 : decode cX0_init 5 = .ok (.sipush 128, 3) := by decide +kernel
theorem dX0_init_8 : decode cX0_init 8 = .ok (.newarray .byte, 2) := by decide +kernel
theorem dX0_init_10 : decode cX0_init 10 = .ok (.putfield 7, 3) := by decide +kernel
theorem dX0_init_13 : decode cX0_init 13 = .ok (.return_, 1) := by decide +kernel
theorem dX0_put_0 : decode cX0_put 0 = .ok (.aload_n 0, 1) := by decide +kernel
theorem dX0_put_1 : decode cX0_put 1 = .ok (.getfield 13, 3) := by decide +kernel
theorem dX0_put_4 : decode cX0_put 4 = .ok (.aload_n 0, 1) := by decide +kernel
theorem dX0_put_5 : decode cX0_put 5 = .ok (.getfield 7, 3) := by decide +kernel
theorem dX0_put_8 : decode cX0_put 8 = .ok (.arraylength, 1) := by decide +kernel
theorem dX0_put_9 : decode cX0_put 9 = .ok (.if_icmp .ne 20, 3) := by decide +kernel
theorem dX0_put_12 : decode cX0_put 12 = .ok (.aload_n 0, 1) := by decide +kernel
theorem dX0_put_13 : decode cX0_put 13 = .ok (.aload_n 0, 1) := by decide +kernel
theorem dX0_put_14 : decode cX0_put 14 = .ok (.getfield 7, 3) := by decide +kernel
theorem dX0_put_17 : decode cX0_put 17 = .ok (.iconst 2, 1) := by decide +kernel
theorem dX0_put_18 : decode cX0_put 18 = .ok (.aload_n 0, 1) := by decide +kernel
theorem dX0_put_19 : decode cX0_put 19 = .ok (.getfield 13, 3) := by decide +kernel
theorem dX0_put_22 : decode cX0_put 22 = .ok (.imul, 1) := by decide +kernel
theorem dX0_put_23 : decode cX0_put 23 = .ok (.invokestatic 17, 3) := by decide +kernel
theorem dX0_put_26 : decode cX0_put 26 = .ok (.putfield 7, 3) := by decide +kernel
theorem dX0_put_29 : decode cX0_put 29 = .ok (.aload_n 0, 1) := by decide +kernel
theorem dX0_put_30 : decode cX0_put 30 = .ok (.getfield 7, 3) := by decide +kernel
theorem dX0_put_33 : decode cX0_put 33 = .ok (.aload_n 0, 1) := by decide +kernel
theorem dX0_put_34 : decode cX0_put 34 = .ok (.getfield 13, 3) := by decide +kernel
theorem dX0_put_37 : decode cX0_put 37 = .ok (.iload_n 1, 1) := by decide +kernel
theorem dX0_put_38 : decode cX0_put 38 = .ok (.i2b, 1) := by decide +kernel
theorem dX0_put_39 : decode cX0_put 39 = .ok (.bastore, 1) := by decide +kernel
theorem dX0_put_40 : decode cX0_put 40 = .ok (.aload_n 0, 1) := by decide +kernel
theorem dX0_put_41 : decode cX0_put 41 = .ok (.dup, 1) := by decide +kernel
theorem dX0_put_42 : decode cX0_put 42 = .ok (.getfield 13, 3) := by decide +kernel
theorem dX0_put_45 : decode cX0_put 45 = .ok (.iconst 1, 1) := by decide +kernel
theorem dX0_put_46 : decode cX0_put 46 = .ok (.iadd, 1) := by decide +kernel
theorem dX0_put_47 : decode cX0_put 47 = .ok (.putfield 13, 3) := by decide +kernel
theorem dX0_put_50 : decode cX0_put 50 = .ok (.return_, 1) := by decide +kernel
theorem dX0_putAll_0 : decode cX0_putAll 0 = .ok (.iconst 0, 1) := by decide +kernel
theorem dX0_putAll_1 : decode cX0_putAll 1 = .ok (.istore_n 3, 1) := by decide +kernel
theorem dX0_putAll_2 : decode cX0_putAll 2 = .ok (.iload_n 3, 1) := by decide +kernel
theorem dX0_putAll_3 : decode cX0_putAll 3 = .ok (.iload_n 2, 1) := by decide +kernel
theorem dX0_putAll_4 : decode cX0_putAll 4 = .ok (.if_icmp .ge 16, 3) := by decide +kernel
theorem dX0_putAll_7 : decode cX0_putAll 7 = .ok (.aload_n 0, 1) := by decide +kernel
theorem dX0_putAll_8 : decode cX0_putAll 8 = .ok (.aload_n 1, 1) := by decide +kernel
theorem dX0_putAll_9 : decode cX0_putAll 9 = .ok (.iload_n 3, 1) := by decide +kernel
theorem dX0_putAll_10 : decode cX0_putAll 10 = .ok (.baload, 1) := by decide +kernel
theorem dX0_putAll_11 : decode cX0_putAll 11 = .ok (.invokevirtual 23, 3) := by decide +kernel
theorem dX0_putAll_14 : decode cX0_putAll 14 = .ok (.iinc 3 1, 3) := by decide +kernel
theorem dX0_putAll_17 : decode cX0_putAll 17 = .ok (.goto (-15), 3) := by decide +kernel
theorem dX0_putAll_20 : decode cX0_putAll 20 = .ok (.return_, 1) := by decide +kernel
theorem dX0_number_0 : decode cX0_number 0 = .ok (.iload_n 1, 1) := by decide +kernel
theorem dX0_number_1 : decode cX0_number 1 = .ok (.istore_n 2, 1) := by decide +kernel
theorem dX0_number_2 : decode cX0_number 2 = .ok (.iconst 0, 1) := by decide +kernel
theorem dX0_number_3 : decode cX0_number 3 = .ok (.istore_n 3, 1) := by decide +kernel
theorem dX0_number_4 : decode cX0_number 4 = .ok (.iload_n 3, 1) := by decide +kernel
theorem dX0_number_5 : decode cX0_number 5 = .ok (.iconst 4, 1) := by decide +kernel
theorem dX0_number_6 : decode cX0_number 6 = .ok (.if_icmp .ge 33, 3) := by decide +kernel
theorem dX0_number_9 : decode cX0_number 9 = .ok (.iload_n 2, 1) := by decide +kernel
theorem dX0_number_10 : decode cX0_number 10 = .ok (.sipush 128, 3) := by decide +kernel
theorem dX0_number_13 : decode cX0_number 13 = .ok (.if_icmp .lt 26, 3) := by decide +kernel
theorem dX0_number_16 : decode cX0_number 16 = .ok (.aload_n 0, 1) := by decide +kernel
theorem dX0_number_17 : decode cX0_number 17 = .ok (.iload_n 2, 1) := by decide +kernel
theorem dX0_number_18 : decode cX0_number 18 = .ok (.bipush 127, 2) := by decide +kernel
theorem dX0_number_20 : decode cX0_number 20 = .ok (.iand, 1) := by decide +kernel
theorem dX0_number_21 : decode cX0_number 21 = .ok (.sipush 128, 3) := by decide +kernel
theorem dX0_number_24 : decode cX0_number 24 = .ok (.ior, 1) := by decide +kernel
theorem dX0_number_25 : decode cX0_number 25 = .ok (.invokevirtual 23, 3) := by decide +kernel
theorem dX0_number_28 : decode cX0_number 28 = .ok (.iload_n 2, 1) := by decide +kernel
theorem dX0_number_29 : decode cX0_number 29 = .ok (.bipush 7, 2) := by decide +kernel
theorem dX0_number_31 : decode cX0_number 31 = .ok (.iushr, 1) := by decide +kernel
theorem dX0_number_32 : decode cX0_number 32 = .ok (.istore_n 2, 1) := by decide +kernel
theorem dX0_number_33 : decode cX0_number 33 = .ok (.iinc 3 1, 3) := by decide +kernel
theorem dX0_number_36 : decode cX0_number 36 = .ok (.goto (-32), 3) := by decide +kernel
theorem dX0_number_39 : decode cX0_number 39 = .ok (.aload_n 0, 1) := by decide +kernel
theorem dX0_number_40 : decode cX0_number 40 = .ok (.iload_n 2, 1) := by decide +kernel
theorem dX0_number_41 : decode cX0_number 41 = .ok (.invokevirtual 23, 3) := by decide +kernel
theorem dX0_number_44 : decode cX0_number 44 = .ok (.return_, 1) := by decide +kernel
theorem dX0_signed_0 : decode cX0_signed 0 = .ok (.iload_n 1, 1) := by decide +kernel
theorem dX0_signed_1 : decode cX0_signed 1 = .ok (.istore_n 2, 1) := by decide +kernel
theorem dX0_signed_2 : decode cX0_signed 2 = .ok (.iconst 0, 1) := by decide +kernel
theorem dX0_signed_3 : decode cX0_signed 3 = .ok (.istore_n 3, 1) := by decide +kernel
theorem dX0_signed_4 : decode cX0_signed 4 = .ok (.iload_n 3, 1) := by decide +kernel
theorem dX0_signed_5 : decode cX0_signed 5 = .ok (.iconst 4, 1) := by decide +kernel
theorem dX0_signed_6 : decode cX0_signed 6 = .ok (.if_icmp .ge 38, 3) := by decide +kernel
theorem dX0_signed_9 : decode cX0_signed 9 = .ok (.iload_n 2, 1) := by decide +kernel
theorem dX0_signed_10 : decode cX0_signed 10 = .ok (.bipush (-64), 2) := by decide +kernel
theorem dX0_signed_12 : decode cX0_signed 12 = .ok (.if_icmp .lt 9, 3) := by decide +kernel
theorem dX0_signed_15 : decode cX0_signed 15 = .ok (.iload_n 2, 1) := by decide +kernel
theorem dX0_signed_16 : decode cX0_signed 16 = .ok (.bipush 63, 2) := by decide +kernel
theorem dX0_signed_18 : decode cX0_signed 18 = .ok (.if_icmp .le 26, 3) := by decide +kernel
theorem dX0_signed_21 : decode cX0_signed 21 = .ok (.aload_n 0, 1) := by decide +kernel
theorem dX0_signed_22 : decode cX0_signed 22 = .ok (.iload_n 2, 1) := by decide +kernel
theorem dX0_signed_23 : decode cX0_signed 23 = .ok (.bipush 127, 2) := by decide +kernel
theorem dX0_signed_25 : decode cX0_signed 25 = .ok (.iand, 1) := by decide +kernel
theorem dX0_signed_26 : decode cX0_signed 26 = .ok (.sipush 128, 3) := by decide +kernel
theorem dX0_signed_29 : decode cX0_signed 29 = .ok (.ior, 1) := by decide +kernel
theorem dX0_signed_30 : decode cX0_signed 30 = .ok (.invokevirtual 23, 3) := by decide +kernel
theorem dX0_signed_33 : decode cX0_signed 33 = .ok (.iload_n 2, 1) := by decide +kernel
theorem dX0_signed_34 : decode cX0_signed 34 = .ok (.bipush 7, 2) := by decide +kernel
theorem dX0_signed_36 : decode cX0_signed 36 = .ok (.ishr, 1) := by decide +kernel
theorem dX0_signed_37 : decode cX0_signed 37 = .ok (.istore_n 2, 1) := by decide +kernel
theorem dX0_signed_38 : decode cX0_signed 38 = .ok (.iinc 3 1, 3) := by decide +kernel
theorem dX0_signed_41 : decode cX0_signed 41 = .ok (.goto (-37), 3) := by decide +kernel
theorem dX0_signed_44 : decode cX0_signed 44 = .ok (.aload_n 0, 1) := by decide +kernel
theorem dX0_signed_45 : decode cX0_signed 45 = .ok (.iload_n 2, 1) := by decide +kernel
theorem dX0_signed_46 : decode cX0_signed 46 = .ok (.bipush 127, 2) := by decide +kernel
theorem dX0_signed_48 : decode cX0_signed 48 = .ok (.iand, 1) := by decide +kernel
theorem dX0_signed_49 : decode cX0_signed 49 = .ok (.invokevirtual 23, 3) := by decide +kernel
theorem dX0_signed_52 : decode cX0_signed 52 = .ok (.return_, 1) := by decide +kernel
theorem dX0_wide_0 : decode cX0_wide 0 = .ok (.iload_n 1, 1) := by decide +kernel
theorem dX0_wide_1 : decode cX0_wide 1 = .ok (.istore_n 2, 1) := by decide +kernel
theorem dX0_wide_2 : decode cX0_wide 2 = .ok (.iconst 0, 1) := by decide +kernel
theorem dX0_wide_3 : decode cX0_wide 3 = .ok (.istore_n 3, 1) := by decide +kernel
theorem dX0_wide_4 : decode cX0_wide 4 = .ok (.iload_n 3, 1) := by decide +kernel
theorem dX0_wide_5 : decode cX0_wide 5 = .ok (.iconst 4, 1) := by decide +kernel
theorem dX0_wide_6 : decode cX0_wide 6 = .ok (.if_icmp .ge 26, 3) := by decide +kernel
theorem dX0_wide_9 : decode cX0_wide 9 = .ok (.aload_n 0, 1) := by decide +kernel
theorem dX0_wide_10 : decode cX0_wide 10 = .ok (.iload_n 2, 1) := by decide +kernel
theorem dX0_wide_11 : decode cX0_wide 11 = .ok (.bipush 127, 2) := by decide +kernel
theorem dX0_wide_13 : decode cX0_wide 13 = .ok (.iand, 1) := by decide +kernel
theorem dX0_wide_14 : decode cX0_wide 14 = .ok (.sipush 128, 3) := by decide +kernel
theorem dX0_wide_17 : decode cX0_wide 17 = .ok (.ior, 1) := by decide +kernel
theorem dX0_wide_18 : decode cX0_wide 18 = .ok (.invokevirtual 23, 3) := by decide +kernel
theorem dX0_wide_21 : decode cX0_wide 21 = .ok (.iload_n 2, 1) := by decide +kernel
theorem dX0_wide_22 : decode cX0_wide 22 = .ok (.bipush 7, 2) := by decide +kernel
theorem dX0_wide_24 : decode cX0_wide 24 = .ok (.iushr, 1) := by decide +kernel
theorem dX0_wide_25 : decode cX0_wide 25 = .ok (.istore_n 2, 1) := by decide +kernel
theorem dX0_wide_26 : decode cX0_wide 26 = .ok (.iinc 3 1, 3) := by decide +kernel
theorem dX0_wide_29 : decode cX0_wide 29 = .ok (.goto (-25), 3) := by decide +kernel
theorem dX0_wide_32 : decode cX0_wide 32 = .ok (.aload_n 0, 1) := by decide +kernel
theorem dX0_wide_33 : decode cX0_wide 33 = .ok (.iload_n 2, 1) := by decide +kernel
theorem dX0_wide_34 : decode cX0_wide 34 = .ok (.invokevirtual 23, 3) := by decide +kernel
theorem dX0_wide_37 : decode cX0_wide 37 = .ok (.return_, 1) := by decide +kernel
theorem dX1_init_0 : decode cX1_init 0 = .ok (.aload_n 0, 1) := by decide +kernel
theorem dX1_init_1 : decode cX1_init 1 = .ok (.invokespecial 3, 3) := by decide +kernel
theorem dX1_init_4 : decode cX1_init 4 = .ok (.aload_n 0, 1) := by decide +kernel
theorem dX1_init_5 : decode cX1_init 5 = .ok (.bipush 61, 2) := by decide +kernel
theorem dX1_init_7 : decode cX1_init 7 = .ok (.newarray .int, 2) := by decide +kernel
theorem dX1_init_9 : decode cX1_init 9 = .ok (.putfield 9, 3) := by decide +kernel
theorem dX1_init_12 : decode cX1_init 12 = .ok (.aload_n 0, 1) := by decide +kernel
theorem dX1_init_13 : decode cX1_init 13 = .ok (.bipush 61, 2) := by decide +kernel
theorem dX1_init_15 : decode cX1_init 15 = .ok (.newarray .int, 2) := by decide +kernel
theorem dX1_init_17 : decode cX1_init 17 = .ok (.putfield 15, 3) := by decide +kernel
theorem dX1_init_20 : decode cX1_init 20 = .ok (.aload_n 0, 1) := by decide +kernel
theorem dX1_init_21 : decode cX1_init 21 = .ok (.bipush 61, 2) := by decide +kernel
theorem dX1_init_23 : decode cX1_init 23 = .ok (.newarray .int, 2) := by decide +kernel
theorem dX1_init_25 : decode cX1_init 25 = .ok (.putfield 18, 3) := by decide +kernel
theorem dX1_init_28 : decode cX1_init 28 = .ok (.aload_n 0, 1) := by decide +kernel
theorem dX1_init_29 : decode cX1_init 29 = .ok (.bipush 61, 2) := by decide +kernel
theorem dX1_init_31 : decode cX1_init 31 = .ok (.newarray .int, 2) := by decide +kernel
theorem dX1_init_33 : decode cX1_init 33 = .ok (.putfield 21, 3) := by decide +kernel
theorem dX1_init_36 : decode cX1_init 36 = .ok (.aload_n 0, 1) := by decide +kernel
theorem dX1_init_37 : decode cX1_init 37 = .ok (.bipush 61, 2) := by decide +kernel
theorem dX1_init_39 : decode cX1_init 39 = .ok (.newarray .boolean, 2) := by decide +kernel
theorem dX1_init_41 : decode cX1_init 41 = .ok (.putfield 24, 3) := by decide +kernel
theorem dX1_init_44 : decode cX1_init 44 = .ok (.return_, 1) := by decide +kernel
theorem dX1_wrongCode_0 : decode cX1_wrongCode 0 = .ok (.iconst 0, 1) := by decide +kernel
theorem dX1_wrongCode_1 : decode cX1_wrongCode 1 = .ok (.istore_n 2, 1) := by decide +kernel
theorem dX1_wrongCode_2 : decode cX1_wrongCode 2 = .ok (.iload_n 2, 1) := by decide +kernel
theorem dX1_wrongCode_3 : decode cX1_wrongCode 3 = .ok (.aload_n 1, 1) := by decide +kernel
theorem dX1_wrongCode_4 : decode cX1_wrongCode 4 = .ok (.invokeinterface 28 1, 5) := by decide +kernel
theorem dX1_wrongCode_9 : decode cX1_wrongCode 9 = .ok (.if_icmp .ge 41, 3) := by decide +kernel
theorem dX1_wrongCode_12 : decode cX1_wrongCode 12 = .ok (.aload_n 1, 1) := by decide +kernel
theorem dX1_wrongCode_13 : decode cX1_wrongCode 13 = .ok (.iload_n 2, 1) := by decide +kernel
theorem dX1_wrongCode_14 : decode cX1_wrongCode 14 = .ok (.invokeinterface 34 2, 5) := by decide +kernel
theorem dX1_wrongCode_19 : decode cX1_wrongCode 19 = .ok (.checkcast 38, 3) := by decide +kernel
theorem dX1_wrongCode_22 : decode cX1_wrongCode 22 = .ok (.astore_n 3, 1) := by decide +kernel
theorem dX1_wrongCode_23 : decode cX1_wrongCode 23 = .ok (.aload_n 0, 1) := by decide +kernel
theorem dX1_wrongCode_24 : decode cX1_wrongCode 24 = .ok (.aload_n 3, 1) := by decide +kernel
theorem dX1_wrongCode_25 : decode cX1_wrongCode 25 = .ok (.invokevirtual 40, 3) := by decide +kernel
theorem dX1_wrongCode_28 : decode cX1_wrongCode 28 = .ok (.istore 4, 2) := by decide +kernel
theorem dX1_wrongCode_30 : decode cX1_wrongCode 30 = .ok (.iload 4, 2) := by decide +kernel
theorem dX1_wrongCode_32 : decode cX1_wrongCode 32 = .ok (.iconst (-1), 1) := by decide +kernel
theorem dX1_wrongCode_33 : decode cX1_wrongCode 33 = .ok (.if_icmp .eq 11, 3) := by decide +kernel
theorem dX1_wrongCode_36 : decode cX1_wrongCode 36 = .ok (.aload_n 3, 1) := by decide +kernel
theorem dX1_wrongCode_37 : decode cX1_wrongCode 37 = .ok (.getfield 44, 3) := by decide +kernel
theorem dX1_wrongCode_40 : decode cX1_wrongCode 40 = .ok (.iload 4, 2) := by decide +kernel
theorem dX1_wrongCode_42 : decode cX1_wrongCode 42 = .ok (.iadd, 1) := by decide +kernel
theorem dX1_wrongCode_43 : decode cX1_wrongCode 43 = .ok (.ireturn, 1) := by decide +kernel
theorem dX1_wrongCode_44 : decode cX1_wrongCode 44 = .ok (.iinc 2 1, 3) := by decide +kernel
theorem dX1_wrongCode_47 : decode cX1_wrongCode 47 = .ok (.goto (-45), 3) := by decide +kernel
theorem dX1_wrongCode_50 : decode cX1_wrongCode 50 = .ok (.iconst (-1), 1) := by decide +kernel
theorem dX1_wrongCode_51 : decode cX1_wrongCode 51 = .ok (.ireturn, 1) := by decide +kernel
theorem dX1_firstWrong_0 : decode cX1_firstWrong 0 = .ok (.aload_n 0, 1) := by decide +kernel
theorem dX1_firstWrong_1 : decode cX1_firstWrong 1 = .ok (.iconst (-1), 1) := by decide +kernel
theorem dX1_firstWrong_2 : decode cX1_firstWrong 2 = .ok (.putfield 48, 3) := by decide +kernel
theorem dX1_firstWrong_5 : decode cX1_firstWrong 5 = .ok (.aload_n 0, 1) := by decide +kernel
theorem dX1_firstWrong_6 : decode cX1_firstWrong 6 = .ok (.iconst 0, 1) := by decide +kernel
theorem dX1_firstWrong_7 : decode cX1_firstWrong 7 = .ok (.putfield 51, 3) := by decide +kernel
theorem dX1_firstWrong_10 : decode cX1_firstWrong 10 = .ok (.aload_n 0, 1) := by decide +kernel
theorem dX1_firstWrong_11 : decode cX1_firstWrong 11 = .ok (.iconst (-1), 1) := by decide +kernel
theorem dX1_firstWrong_12 : decode cX1_firstWrong 12 = .ok (.aload_n 1, 1) := by decide +kernel
theorem dX1_firstWrong_13 : decode cX1_firstWrong 13 = .ok (.getfield 54, 3) := by decide +kernel
theorem dX1_firstWrong_16 : decode cX1_firstWrong 16 = .ok (.invokevirtual 57, 3) := by decide +kernel
theorem dX1_firstWrong_19 : decode cX1_firstWrong 19 = .ok (.iconst 0, 1) := by decide +kernel
theorem dX1_firstWrong_20 : decode cX1_firstWrong 20 = .ok (.istore_n 2, 1) := by decide +kernel
theorem dX1_firstWrong_21 : decode cX1_firstWrong 21 = .ok (.iload_n 2, 1) := by decide +kernel
theorem dX1_firstWrong_22 : decode cX1_firstWrong 22 = .ok (.aload_n 1, 1) := by decide +kernel
theorem dX1_firstWrong_23 : decode cX1_firstWrong 23 = .ok (.getfield 61, 3) := by decide +kernel
theorem dX1_firstWrong_26 : decode cX1_firstWrong 26 = .ok (.if_icmp .ge 20, 3) := by decide +kernel
theorem dX1_firstWrong_29 : decode cX1_firstWrong 29 = .ok (.aload_n 0, 1) := by decide +kernel
theorem dX1_firstWrong_30 : decode cX1_firstWrong 30 = .ok (.aload_n 1, 1) := by decide +kernel
theorem dX1_firstWrong_31 : decode cX1_firstWrong 31 = .ok (.iload_n 2, 1) := by decide +kernel
theorem dX1_firstWrong_32 : decode cX1_firstWrong 32 = .ok (.invokevirtual 63, 3) := by decide +kernel
theorem dX1_firstWrong_35 : decode cX1_firstWrong 35 = .ok (.ifCond .ne 5, 3) := by decide +kernel
theorem dX1_firstWrong_38 : decode cX1_firstWrong 38 = .ok (.iload_n 2, 1) := by decide +kernel
theorem dX1_firstWrong_39 : decode cX1_firstWrong 39 = .ok (.ireturn, 1) := by decide +kernel
theorem dX1_firstWrong_40 : decode cX1_firstWrong 40 = .ok (.iinc 2 1, 3) := by decide +kernel
theorem dX1_firstWrong_43 : decode cX1_firstWrong 43 = .ok (.goto (-22), 3) := by decide +kernel
theorem dX1_firstWrong_46 : decode cX1_firstWrong 46 = .ok (.aload_n 0, 1) := by decide +kernel
theorem dX1_firstWrong_47 : decode cX1_firstWrong 47 = .ok (.getfield 48, 3) := by decide +kernel
theorem dX1_firstWrong_50 : decode cX1_firstWrong 50 = .ok (.ifCond .ne 14, 3) := by decide +kernel
theorem dX1_firstWrong_53 : decode cX1_firstWrong 53 = .ok (.aload_n 0, 1) := by decide +kernel
theorem dX1_firstWrong_54 : decode cX1_firstWrong 54 = .ok (.invokevirtual 67, 3) := by decide +kernel
theorem dX1_firstWrong_57 : decode cX1_firstWrong 57 = .ok (.ifCond .eq 7, 3) := by decide +kernel
theorem dX1_firstWrong_60 : decode cX1_firstWrong 60 = .ok (.iconst (-1), 1) := by decide +kernel
theorem dX1_firstWrong_61 : decode cX1_firstWrong 61 = .ok (.goto 7, 3) := by decide +kernel
theorem dX1_firstWrong_64 : decode cX1_firstWrong 64 = .ok (.aload_n 1, 1) := by decide +kernel
theorem dX1_firstWrong_65 : decode cX1_firstWrong 65 = .ok (.getfield 61, 3) := by decide +kernel
theorem dX1_firstWrong_68 : decode cX1_firstWrong 68 = .ok (.ireturn, 1) := by decide +kernel
theorem dX1_wordFits_0 : decode cX1_wordFits 0 = .ok (.aload_n 1, 1) := by decide +kernel
theorem dX1_wordFits_1 : decode cX1_wordFits 1 = .ok (.getfield 71, 3) := by decide +kernel
theorem dX1_wordFits_4 : decode cX1_wordFits 4 = .ok (.iload_n 2, 1) := by decide +kernel
theorem dX1_wordFits_5 : decode cX1_wordFits 5 = .ok (.iaload, 1) := by decide +kernel
theorem dX1_wordFits_6 : decode cX1_wordFits 6 = .ok (.istore_n 3, 1) := by decide +kernel
theorem dX1_wordFits_7 : decode cX1_wordFits 7 = .ok (.aload_n 1, 1) := by decide +kernel
theorem dX1_wordFits_8 : decode cX1_wordFits 8 = .ok (.getfield 74, 3) := by decide +kernel
theorem dX1_wordFits_11 : decode cX1_wordFits 11 = .ok (.iload_n 2, 1) := by decide +kernel
theorem dX1_wordFits_12 : decode cX1_wordFits 12 = .ok (.iaload, 1) := by decide +kernel
theorem dX1_wordFits_13 : decode cX1_wordFits 13 = .ok (.istore 4, 2) := by decide +kernel
theorem dX1_wordFits_15 : decode cX1_wordFits 15 = .ok (.aload_n 0, 1) := by decide +kernel
theorem dX1_wordFits_16 : decode cX1_wordFits 16 = .ok (.getstatic 77, 3) := by decide +kernel
theorem dX1_wordFits_19 : decode cX1_wordFits 19 = .ok (.iload_n 3, 1) := by decide +kernel
theorem dX1_wordFits_20 : decode cX1_wordFits 20 = .ok (.iaload, 1) := by decide +kernel
theorem dX1_wordFits_21 : decode cX1_wordFits 21 = .ok (.invokevirtual 82, 3) := by decide +kernel
theorem dX1_wordFits_24 : decode cX1_wordFits 24 = .ok (.ifCond .ne 5, 3) := by decide +kernel
theorem dX1_wordFits_27 : decode cX1_wordFits 27 = .ok (.iconst 0, 1) := by decide +kernel
theorem dX1_wordFits_28 : decode cX1_wordFits 28 = .ok (.ireturn, 1) := by decide +kernel
theorem dX1_wordFits_29 : decode cX1_wordFits 29 = .ok (.iload_n 3, 1) := by decide +kernel
theorem dX1_wordFits_30 : decode cX1_wordFits 30 = .ok (.tableswitch 152 23 32 #[54, 54, 54, 73, 80, 87, 87, 94, 111, 145], 54) := by decide +kernel
theorem dX1_wordFits_84 : decode cX1_wordFits 84 = .ok (.aload_n 1, 1) := by decide +kernel
theorem dX1_wordFits_85 : decode cX1_wordFits 85 = .ok (.getfield 86, 3) := by decide +kernel
theorem dX1_wordFits_88 : decode cX1_wordFits 88 = .ok (.iload_n 2, 1) := by decide +kernel
theorem dX1_wordFits_89 : decode cX1_wordFits 89 = .ok (.aload_n 0, 1) := by decide +kernel
theorem dX1_wordFits_90 : decode cX1_wordFits 90 = .ok (.getfield 51, 3) := by decide +kernel
theorem dX1_wordFits_93 : decode cX1_wordFits 93 = .ok (.iastore, 1) := by decide +kernel
theorem dX1_wordFits_94 : decode cX1_wordFits 94 = .ok (.aload_n 0, 1) := by decide +kernel
theorem dX1_wordFits_95 : decode cX1_wordFits 95 = .ok (.iload_n 2, 1) := by decide +kernel
theorem dX1_wordFits_96 : decode cX1_wordFits 96 = .ok (.iload 4, 2) := by decide +kernel
theorem dX1_wordFits_98 : decode cX1_wordFits 98 = .ok (.invokevirtual 57, 3) := by decide +kernel
theorem dX1_wordFits_101 : decode cX1_wordFits 101 = .ok (.iconst 1, 1) := by decide +kernel
theorem dX1_wordFits_102 : decode cX1_wordFits 102 = .ok (.ireturn, 1) := by decide +kernel
theorem dX1_wordFits_103 : decode cX1_wordFits 103 = .ok (.aload_n 0, 1) := by decide +kernel
theorem dX1_wordFits_104 : decode cX1_wordFits 104 = .ok (.aload_n 1, 1) := by decide +kernel
theorem dX1_wordFits_105 : decode cX1_wordFits 105 = .ok (.iload_n 2, 1) := by decide +kernel
theorem dX1_wordFits_106 : decode cX1_wordFits 106 = .ok (.invokevirtual 87, 3) := by decide +kernel
theorem dX1_wordFits_109 : decode cX1_wordFits 109 = .ok (.ireturn, 1) := by decide +kernel
theorem dX1_wordFits_110 : decode cX1_wordFits 110 = .ok (.aload_n 0, 1) := by decide +kernel
theorem dX1_wordFits_111 : decode cX1_wordFits 111 = .ok (.aload_n 1, 1) := by decide +kernel
theorem dX1_wordFits_112 : decode cX1_wordFits 112 = .ok (.iload_n 2, 1) := by decide +kernel
theorem dX1_wordFits_113 : decode cX1_wordFits 113 = .ok (.invokevirtual 90, 3) := by decide +kernel
theorem dX1_wordFits_116 : decode cX1_wordFits 116 = .ok (.ireturn, 1) := by decide +kernel
theorem dX1_wordFits_117 : decode cX1_wordFits 117 = .ok (.aload_n 0, 1) := by decide +kernel
theorem dX1_wordFits_118 : decode cX1_wordFits 118 = .ok (.aload_n 1, 1) := by decide +kernel
theorem dX1_wordFits_119 : decode cX1_wordFits 119 = .ok (.iload_n 2, 1) := by decide +kernel
theorem dX1_wordFits_120 : decode cX1_wordFits 120 = .ok (.invokevirtual 93, 3) := by decide +kernel
theorem dX1_wordFits_123 : decode cX1_wordFits 123 = .ok (.ireturn, 1) := by decide +kernel
theorem dX1_wordFits_124 : decode cX1_wordFits 124 = .ok (.aload_n 0, 1) := by decide +kernel
theorem dX1_wordFits_125 : decode cX1_wordFits 125 = .ok (.aload_n 1, 1) := by decide +kernel
theorem dX1_wordFits_126 : decode cX1_wordFits 126 = .ok (.getfield 54, 3) := by decide +kernel
theorem dX1_wordFits_129 : decode cX1_wordFits 129 = .ok (.invokevirtual 82, 3) := by decide +kernel
theorem dX1_wordFits_132 : decode cX1_wordFits 132 = .ok (.istore 5, 2) := by decide +kernel
theorem dX1_wordFits_134 : decode cX1_wordFits 134 = .ok (.aload_n 0, 1) := by decide +kernel
theorem dX1_wordFits_135 : decode cX1_wordFits 135 = .ok (.invokevirtual 96, 3) := by decide +kernel
theorem dX1_wordFits_138 : decode cX1_wordFits 138 = .ok (.iload 5, 2) := by decide +kernel
theorem dX1_wordFits_140 : decode cX1_wordFits 140 = .ok (.ireturn, 1) := by decide +kernel
theorem dX1_wordFits_141 : decode cX1_wordFits 141 = .ok (.aload_n 1, 1) := by decide +kernel
theorem dX1_wordFits_142 : decode cX1_wordFits 142 = .ok (.getfield 99, 3) := by decide +kernel
theorem dX1_wordFits_145 : decode cX1_wordFits 145 = .ok (.iload 4, 2) := by decide +kernel
theorem dX1_wordFits_147 : decode cX1_wordFits 147 = .ok (.invokevirtual 103, 3) := by decide +kernel
theorem dX1_wordFits_150 : decode cX1_wordFits 150 = .ok (.astore 6, 2) := by decide +kernel
theorem dX1_wordFits_152 : decode cX1_wordFits 152 = .ok (.aload 6, 2) := by decide +kernel
theorem dX1_wordFits_154 : decode cX1_wordFits 154 = .ok (.ifnull 19, 3) := by decide +kernel
theorem dX1_wordFits_157 : decode cX1_wordFits 157 = .ok (.aload_n 0, 1) := by decide +kernel
theorem dX1_wordFits_158 : decode cX1_wordFits 158 = .ok (.aload 6, 2) := by decide +kernel
theorem dX1_wordFits_160 : decode cX1_wordFits 160 = .ok (.invokevirtual 109, 3) := by decide +kernel
theorem dX1_wordFits_163 : decode cX1_wordFits 163 = .ok (.invokevirtual 114, 3) := by decide +kernel
theorem dX1_wordFits_166 : decode cX1_wordFits 166 = .ok (.ifCond .eq 7, 3) := by decide +kernel
theorem dX1_wordFits_169 : decode cX1_wordFits 169 = .ok (.iconst 1, 1) := by decide +kernel
theorem dX1_wordFits_170 : decode cX1_wordFits 170 = .ok (.goto 4, 3) := by decide +kernel
theorem dX1_wordFits_173 : decode cX1_wordFits 173 = .ok (.iconst 0, 1) := by decide +kernel
theorem dX1_wordFits_174 : decode cX1_wordFits 174 = .ok (.ireturn, 1) := by decide +kernel
theorem dX1_wordFits_175 : decode cX1_wordFits 175 = .ok (.aload_n 0, 1) := by decide +kernel
theorem dX1_wordFits_176 : decode cX1_wordFits 176 = .ok (.iload 4, 2) := by decide +kernel
theorem dX1_wordFits_178 : decode cX1_wordFits 178 = .ok (.invokevirtual 114, 3) := by decide +kernel
theorem dX1_wordFits_181 : decode cX1_wordFits 181 = .ok (.ireturn, 1) := by decide +kernel
theorem dX1_wordFits_182 : decode cX1_wordFits 182 = .ok (.aload_n 0, 1) := by decide +kernel
theorem dX1_wordFits_183 : decode cX1_wordFits 183 = .ok (.dup, 1) := by decide +kernel
theorem dX1_wordFits_184 : decode cX1_wordFits 184 = .ok (.getfield 51, 3) := by decide +kernel
theorem dX1_wordFits_187 : decode cX1_wordFits 187 = .ok (.getstatic 117, 3) := by decide +kernel
theorem dX1_wordFits_190 : decode cX1_wordFits 190 = .ok (.iload_n 3, 1) := by decide +kernel
theorem dX1_wordFits_191 : decode cX1_wordFits 191 = .ok (.iaload, 1) := by decide +kernel
theorem dX1_wordFits_192 : decode cX1_wordFits 192 = .ok (.iadd, 1) := by decide +kernel
theorem dX1_wordFits_193 : decode cX1_wordFits 193 = .ok (.putfield 51, 3) := by decide +kernel
theorem dX1_wordFits_196 : decode cX1_wordFits 196 = .ok (.iconst 1, 1) := by decide +kernel
theorem dX1_wordFits_197 : decode cX1_wordFits 197 = .ok (.ireturn, 1) := by decide +kernel
theorem dX1_begin_0 : decode cX1_begin 0 = .ok (.aload_n 0, 1) := by decide +kernel
theorem dX1_begin_1 : decode cX1_begin 1 = .ok (.dup, 1) := by decide +kernel
theorem dX1_begin_2 : decode cX1_begin 2 = .ok (.getfield 48, 3) := by decide +kernel
theorem dX1_begin_5 : decode cX1_begin 5 = .ok (.iconst 1, 1) := by decide +kernel
theorem dX1_begin_6 : decode cX1_begin 6 = .ok (.iadd, 1) := by decide +kernel
theorem dX1_begin_7 : decode cX1_begin 7 = .ok (.putfield 48, 3) := by decide +kernel
theorem dX1_begin_10 : decode cX1_begin 10 = .ok (.aload_n 0, 1) := by decide +kernel
theorem dX1_begin_11 : decode cX1_begin 11 = .ok (.getfield 9, 3) := by decide +kernel
theorem dX1_begin_14 : decode cX1_begin 14 = .ok (.aload_n 0, 1) := by decide +kernel
theorem dX1_begin_15 : decode cX1_begin 15 = .ok (.getfield 48, 3) := by decide +kernel
theorem dX1_begin_18 : decode cX1_begin 18 = .ok (.iload_n 1, 1) := by decide +kernel
theorem dX1_begin_19 : decode cX1_begin 19 = .ok (.iastore, 1) := by decide +kernel
theorem dX1_begin_20 : decode cX1_begin 20 = .ok (.aload_n 0, 1) := by decide +kernel
theorem dX1_begin_21 : decode cX1_begin 21 = .ok (.getfield 15, 3) := by decide +kernel
theorem dX1_begin_24 : decode cX1_begin 24 = .ok (.aload_n 0, 1) := by decide +kernel
theorem dX1_begin_25 : decode cX1_begin 25 = .ok (.getfield 48, 3) := by decide +kernel
theorem dX1_begin_28 : decode cX1_begin 28 = .ok (.iconst (-1), 1) := by decide +kernel
theorem dX1_begin_29 : decode cX1_begin 29 = .ok (.iastore, 1) := by decide +kernel
theorem dX1_begin_30 : decode cX1_begin 30 = .ok (.aload_n 0, 1) := by decide +kernel
theorem dX1_begin_31 : decode cX1_begin 31 = .ok (.getfield 18, 3) := by decide +kernel
theorem dX1_begin_34 : decode cX1_begin 34 = .ok (.aload_n 0, 1) := by decide +kernel
theorem dX1_begin_35 : decode cX1_begin 35 = .ok (.getfield 48, 3) := by decide +kernel
theorem dX1_begin_38 : decode cX1_begin 38 = .ok (.aload_n 0, 1) := by decide +kernel
theorem dX1_begin_39 : decode cX1_begin 39 = .ok (.getfield 51, 3) := by decide +kernel
theorem dX1_begin_42 : decode cX1_begin 42 = .ok (.iastore, 1) := by decide +kernel
theorem dX1_begin_43 : decode cX1_begin 43 = .ok (.aload_n 0, 1) := by decide +kernel
theorem dX1_begin_44 : decode cX1_begin 44 = .ok (.getfield 21, 3) := by decide +kernel
theorem dX1_begin_47 : decode cX1_begin 47 = .ok (.aload_n 0, 1) := by decide +kernel
theorem dX1_begin_48 : decode cX1_begin 48 = .ok (.getfield 48, 3) := by decide +kernel
theorem dX1_begin_51 : decode cX1_begin 51 = .ok (.iload_n 2, 1) := by decide +kernel
theorem dX1_begin_52 : decode cX1_begin 52 = .ok (.iastore, 1) := by decide +kernel
theorem dX1_begin_53 : decode cX1_begin 53 = .ok (.aload_n 0, 1) := by decide +kernel
theorem dX1_begin_54 : decode cX1_begin 54 = .ok (.getfield 24, 3) := by decide +kernel
theorem dX1_begin_57 : decode cX1_begin 57 = .ok (.aload_n 0, 1) := by decide +kernel
theorem dX1_begin_58 : decode cX1_begin 58 = .ok (.getfield 48, 3) := by decide +kernel
theorem dX1_begin_61 : decode cX1_begin 61 = .ok (.iconst 0, 1) := by decide +kernel
theorem dX1_begin_62 : decode cX1_begin 62 = .ok (.bastore, 1) := by decide +kernel
theorem dX1_begin_63 : decode cX1_begin 63 = .ok (.return_, 1) := by decide +kernel
theorem dX1_turn_0 : decode cX1_turn 0 = .ok (.aload_n 0, 1) := by decide +kernel
theorem dX1_turn_1 : decode cX1_turn 1 = .ok (.getfield 48, 3) := by decide +kernel
theorem dX1_turn_4 : decode cX1_turn 4 = .ok (.ifCond .le 46, 3) := by decide +kernel
theorem dX1_turn_7 : decode cX1_turn 7 = .ok (.aload_n 1, 1) := by decide +kernel
theorem dX1_turn_8 : decode cX1_turn 8 = .ok (.getfield 71, 3) := by decide +kernel
theorem dX1_turn_11 : decode cX1_turn 11 = .ok (.aload_n 0, 1) := by decide +kernel
theorem dX1_turn_12 : decode cX1_turn 12 = .ok (.getfield 9, 3) := by decide +kernel
theorem dX1_turn_15 : decode cX1_turn 15 = .ok (.aload_n 0, 1) := by decide +kernel
theorem dX1_turn_16 : decode cX1_turn 16 = .ok (.getfield 48, 3) := by decide +kernel
theorem dX1_turn_19 : decode cX1_turn 19 = .ok (.iaload, 1) := by decide +kernel
theorem dX1_turn_20 : decode cX1_turn 20 = .ok (.iaload, 1) := by decide +kernel
theorem dX1_turn_21 : decode cX1_turn 21 = .ok (.bipush 25, 2) := by decide +kernel
theorem dX1_turn_23 : decode cX1_turn 23 = .ok (.if_icmp .ne 27, 3) := by decide +kernel
theorem dX1_turn_26 : decode cX1_turn 26 = .ok (.aload_n 0, 1) := by decide +kernel
theorem dX1_turn_27 : decode cX1_turn 27 = .ok (.getfield 15, 3) := by decide +kernel
theorem dX1_turn_30 : decode cX1_turn 30 = .ok (.aload_n 0, 1) := by decide +kernel
theorem dX1_turn_31 : decode cX1_turn 31 = .ok (.getfield 48, 3) := by decide +kernel
theorem dX1_turn_34 : decode cX1_turn 34 = .ok (.iaload, 1) := by decide +kernel
theorem dX1_turn_35 : decode cX1_turn 35 = .ok (.iconst (-1), 1) := by decide +kernel
theorem dX1_turn_36 : decode cX1_turn 36 = .ok (.if_icmp .ne 14, 3) := by decide +kernel
theorem dX1_turn_39 : decode cX1_turn 39 = .ok (.aload_n 0, 1) := by decide +kernel
theorem dX1_turn_40 : decode cX1_turn 40 = .ok (.invokevirtual 67, 3) := by decide +kernel
theorem dX1_turn_43 : decode cX1_turn 43 = .ok (.ifCond .eq 7, 3) := by decide +kernel
theorem dX1_turn_46 : decode cX1_turn 46 = .ok (.iconst 1, 1) := by decide +kernel
theorem dX1_turn_47 : decode cX1_turn 47 = .ok (.goto 4, 3) := by decide +kernel
theorem dX1_turn_50 : decode cX1_turn 50 = .ok (.iconst 0, 1) := by decide +kernel
theorem dX1_turn_51 : decode cX1_turn 51 = .ok (.istore_n 3, 1) := by decide +kernel
theorem dX1_turn_52 : decode cX1_turn 52 = .ok (.iload_n 3, 1) := by decide +kernel
theorem dX1_turn_53 : decode cX1_turn 53 = .ok (.ifCond .eq 40, 3) := by decide +kernel
theorem dX1_turn_56 : decode cX1_turn 56 = .ok (.aload_n 0, 1) := by decide +kernel
theorem dX1_turn_57 : decode cX1_turn 57 = .ok (.getfield 15, 3) := by decide +kernel
theorem dX1_turn_60 : decode cX1_turn 60 = .ok (.aload_n 0, 1) := by decide +kernel
theorem dX1_turn_61 : decode cX1_turn 61 = .ok (.getfield 48, 3) := by decide +kernel
theorem dX1_turn_64 : decode cX1_turn 64 = .ok (.iload_n 2, 1) := by decide +kernel
theorem dX1_turn_65 : decode cX1_turn 65 = .ok (.iastore, 1) := by decide +kernel
theorem dX1_turn_66 : decode cX1_turn 66 = .ok (.aload_n 0, 1) := by decide +kernel
theorem dX1_turn_67 : decode cX1_turn 67 = .ok (.getfield 24, 3) := by decide +kernel
theorem dX1_turn_70 : decode cX1_turn 70 = .ok (.aload_n 0, 1) := by decide +kernel
theorem dX1_turn_71 : decode cX1_turn 71 = .ok (.getfield 48, 3) := by decide +kernel
theorem dX1_turn_74 : decode cX1_turn 74 = .ok (.iconst 0, 1) := by decide +kernel
theorem dX1_turn_75 : decode cX1_turn 75 = .ok (.bastore, 1) := by decide +kernel
theorem dX1_turn_76 : decode cX1_turn 76 = .ok (.aload_n 1, 1) := by decide +kernel
theorem dX1_turn_77 : decode cX1_turn 77 = .ok (.getfield 120, 3) := by decide +kernel
theorem dX1_turn_80 : decode cX1_turn 80 = .ok (.aload_n 0, 1) := by decide +kernel
theorem dX1_turn_81 : decode cX1_turn 81 = .ok (.getfield 9, 3) := by decide +kernel
theorem dX1_turn_84 : decode cX1_turn 84 = .ok (.aload_n 0, 1) := by decide +kernel
theorem dX1_turn_85 : decode cX1_turn 85 = .ok (.getfield 48, 3) := by decide +kernel
theorem dX1_turn_88 : decode cX1_turn 88 = .ok (.iaload, 1) := by decide +kernel
theorem dX1_turn_89 : decode cX1_turn 89 = .ok (.iload_n 2, 1) := by decide +kernel
theorem dX1_turn_90 : decode cX1_turn 90 = .ok (.iconst 1, 1) := by decide +kernel
theorem dX1_turn_91 : decode cX1_turn 91 = .ok (.iadd, 1) := by decide +kernel
theorem dX1_turn_92 : decode cX1_turn 92 = .ok (.iastore, 1) := by decide +kernel
theorem dX1_turn_93 : decode cX1_turn 93 = .ok (.iload_n 3, 1) := by decide +kernel
theorem dX1_turn_94 : decode cX1_turn 94 = .ok (.ireturn, 1) := by decide +kernel
theorem dX1_finish_0 : decode cX1_finish 0 = .ok (.aload_n 0, 1) := by decide +kernel
theorem dX1_finish_1 : decode cX1_finish 1 = .ok (.getfield 48, 3) := by decide +kernel
theorem dX1_finish_4 : decode cX1_finish 4 = .ok (.ifCond .eq 18, 3) := by decide +kernel
theorem dX1_finish_7 : decode cX1_finish 7 = .ok (.aload_n 0, 1) := by decide +kernel
theorem dX1_finish_8 : decode cX1_finish 8 = .ok (.aload_n 1, 1) := by decide +kernel
theorem dX1_finish_9 : decode cX1_finish 9 = .ok (.invokevirtual 123, 3) := by decide +kernel
theorem dX1_finish_12 : decode cX1_finish 12 = .ok (.ifCond .ne 10, 3) := by decide +kernel
theorem dX1_finish_15 : decode cX1_finish 15 = .ok (.aload_n 0, 1) := by decide +kernel
theorem dX1_finish_16 : decode cX1_finish 16 = .ok (.invokevirtual 67, 3) := by decide +kernel
theorem dX1_finish_19 : decode cX1_finish 19 = .ok (.ifCond .ne 5, 3) := by decide +kernel
theorem dX1_finish_22 : decode cX1_finish 22 = .ok (.iconst 0, 1) := by decide +kernel
theorem dX1_finish_23 : decode cX1_finish 23 = .ok (.ireturn, 1) := by decide +kernel
theorem dX1_finish_24 : decode cX1_finish 24 = .ok (.aload_n 0, 1) := by decide +kernel
theorem dX1_finish_25 : decode cX1_finish 25 = .ok (.getfield 9, 3) := by decide +kernel
theorem dX1_finish_28 : decode cX1_finish 28 = .ok (.aload_n 0, 1) := by decide +kernel
theorem dX1_finish_29 : decode cX1_finish 29 = .ok (.getfield 48, 3) := by decide +kernel
theorem dX1_finish_32 : decode cX1_finish 32 = .ok (.iaload, 1) := by decide +kernel
theorem dX1_finish_33 : decode cX1_finish 33 = .ok (.istore_n 3, 1) := by decide +kernel
theorem dX1_finish_34 : decode cX1_finish 34 = .ok (.aload_n 1, 1) := by decide +kernel
theorem dX1_finish_35 : decode cX1_finish 35 = .ok (.getfield 127, 3) := by decide +kernel
theorem dX1_finish_38 : decode cX1_finish 38 = .ok (.iload_n 3, 1) := by decide +kernel
theorem dX1_finish_39 : decode cX1_finish 39 = .ok (.iload_n 2, 1) := by decide +kernel
theorem dX1_finish_40 : decode cX1_finish 40 = .ok (.iastore, 1) := by decide +kernel
theorem dX1_finish_41 : decode cX1_finish 41 = .ok (.aload_n 0, 1) := by decide +kernel
theorem dX1_finish_42 : decode cX1_finish 42 = .ok (.getfield 15, 3) := by decide +kernel
theorem dX1_finish_45 : decode cX1_finish 45 = .ok (.aload_n 0, 1) := by decide +kernel
theorem dX1_finish_46 : decode cX1_finish 46 = .ok (.getfield 48, 3) := by decide +kernel
theorem dX1_finish_49 : decode cX1_finish 49 = .ok (.iaload, 1) := by decide +kernel
theorem dX1_finish_50 : decode cX1_finish 50 = .ok (.iconst (-1), 1) := by decide +kernel
theorem dX1_finish_51 : decode cX1_finish 51 = .ok (.if_icmp .ne 15, 3) := by decide +kernel
theorem dX1_finish_54 : decode cX1_finish 54 = .ok (.aload_n 1, 1) := by decide +kernel
theorem dX1_finish_55 : decode cX1_finish 55 = .ok (.getfield 120, 3) := by decide +kernel
theorem dX1_finish_58 : decode cX1_finish 58 = .ok (.iload_n 3, 1) := by decide +kernel
theorem dX1_finish_59 : decode cX1_finish 59 = .ok (.iload_n 2, 1) := by decide +kernel
theorem dX1_finish_60 : decode cX1_finish 60 = .ok (.iconst 1, 1) := by decide +kernel
theorem dX1_finish_61 : decode cX1_finish 61 = .ok (.iadd, 1) := by decide +kernel
theorem dX1_finish_62 : decode cX1_finish 62 = .ok (.iastore, 1) := by decide +kernel
theorem dX1_finish_63 : decode cX1_finish 63 = .ok (.goto 18, 3) := by decide +kernel
theorem dX1_finish_66 : decode cX1_finish 66 = .ok (.aload_n 1, 1) := by decide +kernel
theorem dX1_finish_67 : decode cX1_finish 67 = .ok (.getfield 127, 3) := by decide +kernel
theorem dX1_finish_70 : decode cX1_finish 70 = .ok (.aload_n 0, 1) := by decide +kernel
theorem dX1_finish_71 : decode cX1_finish 71 = .ok (.getfield 15, 3) := by decide +kernel
theorem dX1_finish_74 : decode cX1_finish 74 = .ok (.aload_n 0, 1) := by decide +kernel
theorem dX1_finish_75 : decode cX1_finish 75 = .ok (.getfield 48, 3) := by decide +kernel
theorem dX1_finish_78 : decode cX1_finish 78 = .ok (.iaload, 1) := by decide +kernel
theorem dX1_finish_79 : decode cX1_finish 79 = .ok (.iload_n 2, 1) := by decide +kernel
theorem dX1_finish_80 : decode cX1_finish 80 = .ok (.iastore, 1) := by decide +kernel
theorem dX1_finish_81 : decode cX1_finish 81 = .ok (.aload_n 0, 1) := by decide +kernel
theorem dX1_finish_82 : decode cX1_finish 82 = .ok (.dup, 1) := by decide +kernel
theorem dX1_finish_83 : decode cX1_finish 83 = .ok (.getfield 51, 3) := by decide +kernel
theorem dX1_finish_86 : decode cX1_finish 86 = .ok (.aload_n 0, 1) := by decide +kernel
theorem dX1_finish_87 : decode cX1_finish 87 = .ok (.getfield 21, 3) := by decide +kernel
theorem dX1_finish_90 : decode cX1_finish 90 = .ok (.aload_n 0, 1) := by decide +kernel
theorem dX1_finish_91 : decode cX1_finish 91 = .ok (.getfield 48, 3) := by decide +kernel
theorem dX1_finish_94 : decode cX1_finish 94 = .ok (.iaload, 1) := by decide +kernel
theorem dX1_finish_95 : decode cX1_finish 95 = .ok (.iadd, 1) := by decide +kernel
theorem dX1_finish_96 : decode cX1_finish 96 = .ok (.putfield 51, 3) := by decide +kernel
theorem dX1_finish_99 : decode cX1_finish 99 = .ok (.aload_n 0, 1) := by decide +kernel
theorem dX1_finish_100 : decode cX1_finish 100 = .ok (.dup, 1) := by decide +kernel
theorem dX1_finish_101 : decode cX1_finish 101 = .ok (.getfield 48, 3) := by decide +kernel
theorem dX1_finish_104 : decode cX1_finish 104 = .ok (.iconst 1, 1) := by decide +kernel
theorem dX1_finish_105 : decode cX1_finish 105 = .ok (.isub, 1) := by decide +kernel
theorem dX1_finish_106 : decode cX1_finish 106 = .ok (.putfield 48, 3) := by decide +kernel
theorem dX1_finish_109 : decode cX1_finish 109 = .ok (.iconst 1, 1) := by decide +kernel
theorem dX1_finish_110 : decode cX1_finish 110 = .ok (.ireturn, 1) := by decide +kernel
theorem dX1_lacksElse_0 : decode cX1_lacksElse 0 = .ok (.aload_n 1, 1) := by decide +kernel
theorem dX1_lacksElse_1 : decode cX1_lacksElse 1 = .ok (.getfield 71, 3) := by decide +kernel
theorem dX1_lacksElse_4 : decode cX1_lacksElse 4 = .ok (.aload_n 0, 1) := by decide +kernel
theorem dX1_lacksElse_5 : decode cX1_lacksElse 5 = .ok (.getfield 9, 3) := by decide +kernel
theorem dX1_lacksElse_8 : decode cX1_lacksElse 8 = .ok (.aload_n 0, 1) := by decide +kernel
theorem dX1_lacksElse_9 : decode cX1_lacksElse 9 = .ok (.getfield 48, 3) := by decide +kernel
theorem dX1_lacksElse_12 : decode cX1_lacksElse 12 = .ok (.iaload, 1) := by decide +kernel
theorem dX1_lacksElse_13 : decode cX1_lacksElse 13 = .ok (.iaload, 1) := by decide +kernel
theorem dX1_lacksElse_14 : decode cX1_lacksElse 14 = .ok (.bipush 25, 2) := by decide +kernel
theorem dX1_lacksElse_16 : decode cX1_lacksElse 16 = .ok (.if_icmp .ne 33, 3) := by decide +kernel
theorem dX1_lacksElse_19 : decode cX1_lacksElse 19 = .ok (.aload_n 0, 1) := by decide +kernel
theorem dX1_lacksElse_20 : decode cX1_lacksElse 20 = .ok (.getfield 15, 3) := by decide +kernel
theorem dX1_lacksElse_23 : decode cX1_lacksElse 23 = .ok (.aload_n 0, 1) := by decide +kernel
theorem dX1_lacksElse_24 : decode cX1_lacksElse 24 = .ok (.getfield 48, 3) := by decide +kernel
theorem dX1_lacksElse_27 : decode cX1_lacksElse 27 = .ok (.iaload, 1) := by decide +kernel
theorem dX1_lacksElse_28 : decode cX1_lacksElse 28 = .ok (.iconst (-1), 1) := by decide +kernel
theorem dX1_lacksElse_29 : decode cX1_lacksElse 29 = .ok (.if_icmp .ne 20, 3) := by decide +kernel
theorem dX1_lacksElse_32 : decode cX1_lacksElse 32 = .ok (.aload_n 0, 1) := by decide +kernel
theorem dX1_lacksElse_33 : decode cX1_lacksElse 33 = .ok (.getfield 21, 3) := by decide +kernel
theorem dX1_lacksElse_36 : decode cX1_lacksElse 36 = .ok (.aload_n 0, 1) := by decide +kernel
theorem dX1_lacksElse_37 : decode cX1_lacksElse 37 = .ok (.getfield 48, 3) := by decide +kernel
theorem dX1_lacksElse_40 : decode cX1_lacksElse 40 = .ok (.iaload, 1) := by decide +kernel
theorem dX1_lacksElse_41 : decode cX1_lacksElse 41 = .ok (.iconst 1, 1) := by decide +kernel
theorem dX1_lacksElse_42 : decode cX1_lacksElse 42 = .ok (.if_icmp .ne 7, 3) := by decide +kernel
theorem dX1_lacksElse_45 : decode cX1_lacksElse 45 = .ok (.iconst 1, 1) := by decide +kernel
theorem dX1_lacksElse_46 : decode cX1_lacksElse 46 = .ok (.goto 4, 3) := by decide +kernel
theorem dX1_lacksElse_49 : decode cX1_lacksElse 49 = .ok (.iconst 0, 1) := by decide +kernel
theorem dX1_lacksElse_50 : decode cX1_lacksElse 50 = .ok (.ireturn, 1) := by decide +kernel
theorem dX1_jump_0 : decode cX1_jump 0 = .ok (.aload_n 0, 1) := by decide +kernel
theorem dX1_jump_1 : decode cX1_jump 1 = .ok (.getfield 48, 3) := by decide +kernel
theorem dX1_jump_4 : decode cX1_jump 4 = .ok (.aload_n 1, 1) := by decide +kernel
theorem dX1_jump_5 : decode cX1_jump 5 = .ok (.getfield 74, 3) := by decide +kernel
theorem dX1_jump_8 : decode cX1_jump 8 = .ok (.iload_n 2, 1) := by decide +kernel
theorem dX1_jump_9 : decode cX1_jump 9 = .ok (.iaload, 1) := by decide +kernel
theorem dX1_jump_10 : decode cX1_jump 10 = .ok (.isub, 1) := by decide +kernel
theorem dX1_jump_11 : decode cX1_jump 11 = .ok (.istore_n 3, 1) := by decide +kernel
theorem dX1_jump_12 : decode cX1_jump 12 = .ok (.iload_n 3, 1) := by decide +kernel
theorem dX1_jump_13 : decode cX1_jump 13 = .ok (.ifCond .ge 5, 3) := by decide +kernel
theorem dX1_jump_16 : decode cX1_jump 16 = .ok (.iconst 0, 1) := by decide +kernel
theorem dX1_jump_17 : decode cX1_jump 17 = .ok (.ireturn, 1) := by decide +kernel
theorem dX1_jump_18 : decode cX1_jump 18 = .ok (.aload_n 1, 1) := by decide +kernel
theorem dX1_jump_19 : decode cX1_jump 19 = .ok (.getfield 120, 3) := by decide +kernel
theorem dX1_jump_22 : decode cX1_jump 22 = .ok (.iload_n 2, 1) := by decide +kernel
theorem dX1_jump_23 : decode cX1_jump 23 = .ok (.aload_n 0, 1) := by decide +kernel
theorem dX1_jump_24 : decode cX1_jump 24 = .ok (.getfield 9, 3) := by decide +kernel
theorem dX1_jump_27 : decode cX1_jump 27 = .ok (.iload_n 3, 1) := by decide +kernel
theorem dX1_jump_28 : decode cX1_jump 28 = .ok (.iaload, 1) := by decide +kernel
theorem dX1_jump_29 : decode cX1_jump 29 = .ok (.iastore, 1) := by decide +kernel
theorem dX1_jump_30 : decode cX1_jump 30 = .ok (.iload_n 3, 1) := by decide +kernel
theorem dX1_jump_31 : decode cX1_jump 31 = .ok (.ifCond .le 23, 3) := by decide +kernel
theorem dX1_jump_34 : decode cX1_jump 34 = .ok (.aload_n 1, 1) := by decide +kernel
theorem dX1_jump_35 : decode cX1_jump 35 = .ok (.getfield 71, 3) := by decide +kernel
theorem dX1_jump_38 : decode cX1_jump 38 = .ok (.aload_n 0, 1) := by decide +kernel
theorem dX1_jump_39 : decode cX1_jump 39 = .ok (.getfield 9, 3) := by decide +kernel
theorem dX1_jump_42 : decode cX1_jump 42 = .ok (.iload_n 3, 1) := by decide +kernel
theorem dX1_jump_43 : decode cX1_jump 43 = .ok (.iaload, 1) := by decide +kernel
theorem dX1_jump_44 : decode cX1_jump 44 = .ok (.iaload, 1) := by decide +kernel
theorem dX1_jump_45 : decode cX1_jump 45 = .ok (.bipush 24, 2) := by decide +kernel
theorem dX1_jump_47 : decode cX1_jump 47 = .ok (.if_icmp .ne 7, 3) := by decide +kernel
theorem dX1_jump_50 : decode cX1_jump 50 = .ok (.iconst 1, 1) := by decide +kernel
theorem dX1_jump_51 : decode cX1_jump 51 = .ok (.goto 4, 3) := by decide +kernel
theorem dX1_jump_54 : decode cX1_jump 54 = .ok (.iconst 0, 1) := by decide +kernel
theorem dX1_jump_55 : decode cX1_jump 55 = .ok (.istore 4, 2) := by decide +kernel
theorem dX1_jump_57 : decode cX1_jump 57 = .ok (.iload 4, 2) := by decide +kernel
theorem dX1_jump_59 : decode cX1_jump 59 = .ok (.ifCond .eq 7, 3) := by decide +kernel
theorem dX1_jump_62 : decode cX1_jump 62 = .ok (.iconst 0, 1) := by decide +kernel
theorem dX1_jump_63 : decode cX1_jump 63 = .ok (.goto 9, 3) := by decide +kernel
theorem dX1_jump_66 : decode cX1_jump 66 = .ok (.aload_n 0, 1) := by decide +kernel
theorem dX1_jump_67 : decode cX1_jump 67 = .ok (.getfield 21, 3) := by decide +kernel
theorem dX1_jump_70 : decode cX1_jump 70 = .ok (.iload_n 3, 1) := by decide +kernel
theorem dX1_jump_71 : decode cX1_jump 71 = .ok (.iaload, 1) := by decide +kernel
theorem dX1_jump_72 : decode cX1_jump 72 = .ok (.istore 5, 2) := by decide +kernel
theorem dX1_jump_74 : decode cX1_jump 74 = .ok (.aload_n 0, 1) := by decide +kernel
theorem dX1_jump_75 : decode cX1_jump 75 = .ok (.iload 5, 2) := by decide +kernel
theorem dX1_jump_77 : decode cX1_jump 77 = .ok (.invokevirtual 82, 3) := by decide +kernel
theorem dX1_jump_80 : decode cX1_jump 80 = .ok (.istore 6, 2) := by decide +kernel
theorem dX1_jump_82 : decode cX1_jump 82 = .ok (.aload_n 1, 1) := by decide +kernel
theorem dX1_jump_83 : decode cX1_jump 83 = .ok (.getfield 71, 3) := by decide +kernel
theorem dX1_jump_86 : decode cX1_jump 86 = .ok (.iload_n 2, 1) := by decide +kernel
theorem dX1_jump_87 : decode cX1_jump 87 = .ok (.iaload, 1) := by decide +kernel
theorem dX1_jump_88 : decode cX1_jump 88 = .ok (.bipush 28, 2) := by decide +kernel
theorem dX1_jump_90 : decode cX1_jump 90 = .ok (.if_icmp .ne 10, 3) := by decide +kernel
theorem dX1_jump_93 : decode cX1_jump 93 = .ok (.aload_n 0, 1) := by decide +kernel
theorem dX1_jump_94 : decode cX1_jump 94 = .ok (.invokevirtual 96, 3) := by decide +kernel
theorem dX1_jump_97 : decode cX1_jump 97 = .ok (.goto 14, 3) := by decide +kernel
theorem dX1_jump_100 : decode cX1_jump 100 = .ok (.aload_n 0, 1) := by decide +kernel
theorem dX1_jump_101 : decode cX1_jump 101 = .ok (.dup, 1) := by decide +kernel
theorem dX1_jump_102 : decode cX1_jump 102 = .ok (.getfield 51, 3) := by decide +kernel
theorem dX1_jump_105 : decode cX1_jump 105 = .ok (.iload 5, 2) := by decide +kernel
theorem dX1_jump_107 : decode cX1_jump 107 = .ok (.iadd, 1) := by decide +kernel
theorem dX1_jump_108 : decode cX1_jump 108 = .ok (.putfield 51, 3) := by decide +kernel
theorem dX1_jump_111 : decode cX1_jump 111 = .ok (.iload 6, 2) := by decide +kernel
theorem dX1_jump_113 : decode cX1_jump 113 = .ok (.ireturn, 1) := by decide +kernel
theorem dX1_abandon_0 : decode cX1_abandon 0 = .ok (.aload_n 0, 1) := by decide +kernel
theorem dX1_abandon_1 : decode cX1_abandon 1 = .ok (.aload_n 0, 1) := by decide +kernel
theorem dX1_abandon_2 : decode cX1_abandon 2 = .ok (.getfield 18, 3) := by decide +kernel
theorem dX1_abandon_5 : decode cX1_abandon 5 = .ok (.aload_n 0, 1) := by decide +kernel
theorem dX1_abandon_6 : decode cX1_abandon 6 = .ok (.getfield 48, 3) := by decide +kernel
theorem dX1_abandon_9 : decode cX1_abandon 9 = .ok (.iaload, 1) := by decide +kernel
theorem dX1_abandon_10 : decode cX1_abandon 10 = .ok (.putfield 51, 3) := by decide +kernel
theorem dX1_abandon_13 : decode cX1_abandon 13 = .ok (.aload_n 0, 1) := by decide +kernel
theorem dX1_abandon_14 : decode cX1_abandon 14 = .ok (.getfield 24, 3) := by decide +kernel
theorem dX1_abandon_17 : decode cX1_abandon 17 = .ok (.aload_n 0, 1) := by decide +kernel
theorem dX1_abandon_18 : decode cX1_abandon 18 = .ok (.getfield 48, 3) := by decide +kernel
theorem dX1_abandon_21 : decode cX1_abandon 21 = .ok (.iconst 1, 1) := by decide +kernel
theorem dX1_abandon_22 : decode cX1_abandon 22 = .ok (.bastore, 1) := by decide +kernel
theorem dX1_abandon_23 : decode cX1_abandon 23 = .ok (.return_, 1) := by decide +kernel
theorem dX1_passThrough_0 : decode cX1_passThrough 0 = .ok (.aload_n 0, 1) := by decide +kernel
theorem dX1_passThrough_1 : decode cX1_passThrough 1 = .ok (.iload_n 1, 1) := by decide +kernel
theorem dX1_passThrough_2 : decode cX1_passThrough 2 = .ok (.iconst 2, 1) := by decide +kernel
theorem dX1_passThrough_3 : decode cX1_passThrough 3 = .ok (.idiv, 1) := by decide +kernel
theorem dX1_passThrough_4 : decode cX1_passThrough 4 = .ok (.invokevirtual 82, 3) := by decide +kernel
theorem dX1_passThrough_7 : decode cX1_passThrough 7 = .ok (.istore_n 2, 1) := by decide +kernel
theorem dX1_passThrough_8 : decode cX1_passThrough 8 = .ok (.aload_n 0, 1) := by decide +kernel
theorem dX1_passThrough_9 : decode cX1_passThrough 9 = .ok (.dup, 1) := by decide +kernel
theorem dX1_passThrough_10 : decode cX1_passThrough 10 = .ok (.getfield 51, 3) := by decide +kernel
theorem dX1_passThrough_13 : decode cX1_passThrough 13 = .ok (.iload_n 1, 1) := by decide +kernel
theorem dX1_passThrough_14 : decode cX1_passThrough 14 = .ok (.iconst 2, 1) := by decide +kernel
theorem dX1_passThrough_15 : decode cX1_passThrough 15 = .ok (.irem, 1) := by decide +kernel
theorem dX1_passThrough_16 : decode cX1_passThrough 16 = .ok (.iadd, 1) := by decide +kernel
theorem dX1_passThrough_17 : decode cX1_passThrough 17 = .ok (.putfield 51, 3) := by decide +kernel
theorem dX1_passThrough_20 : decode cX1_passThrough 20 = .ok (.iload_n 2, 1) := by decide +kernel
theorem dX1_passThrough_21 : decode cX1_passThrough 21 = .ok (.ireturn, 1) := by decide +kernel
theorem dX1_closes_0 : decode cX1_closes 0 = .ok (.aload_n 0, 1) := by decide +kernel
theorem dX1_closes_1 : decode cX1_closes 1 = .ok (.getfield 51, 3) := by decide +kernel
theorem dX1_closes_4 : decode cX1_closes 4 = .ok (.aload_n 0, 1) := by decide +kernel
theorem dX1_closes_5 : decode cX1_closes 5 = .ok (.getfield 18, 3) := by decide +kernel
theorem dX1_closes_8 : decode cX1_closes 8 = .ok (.aload_n 0, 1) := by decide +kernel
theorem dX1_closes_9 : decode cX1_closes 9 = .ok (.getfield 48, 3) := by decide +kernel
theorem dX1_closes_12 : decode cX1_closes 12 = .ok (.iaload, 1) := by decide +kernel
theorem dX1_closes_13 : decode cX1_closes 13 = .ok (.isub, 1) := by decide +kernel
theorem dX1_closes_14 : decode cX1_closes 14 = .ok (.istore_n 1, 1) := by decide +kernel
theorem dX1_closes_15 : decode cX1_closes 15 = .ok (.aload_n 0, 1) := by decide +kernel
theorem dX1_closes_16 : decode cX1_closes 16 = .ok (.aload_n 0, 1) := by decide +kernel
theorem dX1_closes_17 : decode cX1_closes 17 = .ok (.getfield 18, 3) := by decide +kernel
theorem dX1_closes_20 : decode cX1_closes 20 = .ok (.aload_n 0, 1) := by decide +kernel
theorem dX1_closes_21 : decode cX1_closes 21 = .ok (.getfield 48, 3) := by decide +kernel
theorem dX1_closes_24 : decode cX1_closes 24 = .ok (.iaload, 1) := by decide +kernel
theorem dX1_closes_25 : decode cX1_closes 25 = .ok (.putfield 51, 3) := by decide +kernel
theorem dX1_closes_28 : decode cX1_closes 28 = .ok (.iload_n 1, 1) := by decide +kernel
theorem dX1_closes_29 : decode cX1_closes 29 = .ok (.aload_n 0, 1) := by decide +kernel
theorem dX1_closes_30 : decode cX1_closes 30 = .ok (.getfield 21, 3) := by decide +kernel
theorem dX1_closes_33 : decode cX1_closes 33 = .ok (.aload_n 0, 1) := by decide +kernel
theorem dX1_closes_34 : decode cX1_closes 34 = .ok (.getfield 48, 3) := by decide +kernel
theorem dX1_closes_37 : decode cX1_closes 37 = .ok (.iaload, 1) := by decide +kernel
theorem dX1_closes_38 : decode cX1_closes 38 = .ok (.if_icmp .eq 28, 3) := by decide +kernel
theorem dX1_closes_41 : decode cX1_closes 41 = .ok (.aload_n 0, 1) := by decide +kernel
theorem dX1_closes_42 : decode cX1_closes 42 = .ok (.getfield 24, 3) := by decide +kernel
theorem dX1_closes_45 : decode cX1_closes 45 = .ok (.aload_n 0, 1) := by decide +kernel
theorem dX1_closes_46 : decode cX1_closes 46 = .ok (.getfield 48, 3) := by decide +kernel
theorem dX1_closes_49 : decode cX1_closes 49 = .ok (.baload, 1) := by decide +kernel
theorem dX1_closes_50 : decode cX1_closes 50 = .ok (.ifCond .eq 20, 3) := by decide +kernel
theorem dX1_closes_53 : decode cX1_closes 53 = .ok (.iload_n 1, 1) := by decide +kernel
theorem dX1_closes_54 : decode cX1_closes 54 = .ok (.aload_n 0, 1) := by decide +kernel
theorem dX1_closes_55 : decode cX1_closes 55 = .ok (.getfield 21, 3) := by decide +kernel
theorem dX1_closes_58 : decode cX1_closes 58 = .ok (.aload_n 0, 1) := by decide +kernel
theorem dX1_closes_59 : decode cX1_closes 59 = .ok (.getfield 48, 3) := by decide +kernel
theorem dX1_closes_62 : decode cX1_closes 62 = .ok (.iaload, 1) := by decide +kernel
theorem dX1_closes_63 : decode cX1_closes 63 = .ok (.if_icmp .ge 7, 3) := by decide +kernel
theorem dX1_closes_66 : decode cX1_closes 66 = .ok (.iconst 1, 1) := by decide +kernel
theorem dX1_closes_67 : decode cX1_closes 67 = .ok (.goto 4, 3) := by decide +kernel
theorem dX1_closes_70 : decode cX1_closes 70 = .ok (.iconst 0, 1) := by decide +kernel
theorem dX1_closes_71 : decode cX1_closes 71 = .ok (.ireturn, 1) := by decide +kernel
theorem dX1_pop_0 : decode cX1_pop 0 = .ok (.aload_n 0, 1) := by decide +kernel
theorem dX1_pop_1 : decode cX1_pop 1 = .ok (.getfield 51, 3) := by decide +kernel
theorem dX1_pop_4 : decode cX1_pop 4 = .ok (.aload_n 0, 1) := by decide +kernel
theorem dX1_pop_5 : decode cX1_pop 5 = .ok (.getfield 18, 3) := by decide +kernel
theorem dX1_pop_8 : decode cX1_pop 8 = .ok (.aload_n 0, 1) := by decide +kernel
theorem dX1_pop_9 : decode cX1_pop 9 = .ok (.getfield 48, 3) := by decide +kernel
theorem dX1_pop_12 : decode cX1_pop 12 = .ok (.iaload, 1) := by decide +kernel
theorem dX1_pop_13 : decode cX1_pop 13 = .ok (.isub, 1) := by decide +kernel
theorem dX1_pop_14 : decode cX1_pop 14 = .ok (.iload_n 1, 1) := by decide +kernel
theorem dX1_pop_15 : decode cX1_pop 15 = .ok (.if_icmp .lt 7, 3) := by decide +kernel
theorem dX1_pop_18 : decode cX1_pop 18 = .ok (.iconst 1, 1) := by decide +kernel
theorem dX1_pop_19 : decode cX1_pop 19 = .ok (.goto 4, 3) := by decide +kernel
theorem dX1_pop_22 : decode cX1_pop 22 = .ok (.iconst 0, 1) := by decide +kernel
theorem dX1_pop_23 : decode cX1_pop 23 = .ok (.istore_n 2, 1) := by decide +kernel
theorem dX1_pop_24 : decode cX1_pop 24 = .ok (.aload_n 0, 1) := by decide +kernel
theorem dX1_pop_25 : decode cX1_pop 25 = .ok (.iload_n 2, 1) := by decide +kernel
theorem dX1_pop_26 : decode cX1_pop 26 = .ok (.ifCond .eq 12, 3) := by decide +kernel
theorem dX1_pop_29 : decode cX1_pop 29 = .ok (.aload_n 0, 1) := by decide +kernel
theorem dX1_pop_30 : decode cX1_pop 30 = .ok (.getfield 51, 3) := by decide +kernel
theorem dX1_pop_33 : decode cX1_pop 33 = .ok (.iload_n 1, 1) := by decide +kernel
theorem dX1_pop_34 : decode cX1_pop 34 = .ok (.isub, 1) := by decide +kernel
theorem dX1_pop_35 : decode cX1_pop 35 = .ok (.goto 12, 3) := by decide +kernel
theorem dX1_pop_38 : decode cX1_pop 38 = .ok (.aload_n 0, 1) := by decide +kernel
theorem dX1_pop_39 : decode cX1_pop 39 = .ok (.getfield 18, 3) := by decide +kernel
theorem dX1_pop_42 : decode cX1_pop 42 = .ok (.aload_n 0, 1) := by decide +kernel
theorem dX1_pop_43 : decode cX1_pop 43 = .ok (.getfield 48, 3) := by decide +kernel
theorem dX1_pop_46 : decode cX1_pop 46 = .ok (.iaload, 1) := by decide +kernel
theorem dX1_pop_47 : decode cX1_pop 47 = .ok (.putfield 51, 3) := by decide +kernel
theorem dX1_pop_50 : decode cX1_pop 50 = .ok (.iload_n 2, 1) := by decide +kernel
theorem dX1_pop_51 : decode cX1_pop 51 = .ok (.ifCond .ne 15, 3) := by decide +kernel
theorem dX1_pop_54 : decode cX1_pop 54 = .ok (.aload_n 0, 1) := by decide +kernel
theorem dX1_pop_55 : decode cX1_pop 55 = .ok (.getfield 24, 3) := by decide +kernel
theorem dX1_pop_58 : decode cX1_pop 58 = .ok (.aload_n 0, 1) := by decide +kernel
theorem dX1_pop_59 : decode cX1_pop 59 = .ok (.getfield 48, 3) := by decide +kernel
theorem dX1_pop_62 : decode cX1_pop 62 = .ok (.baload, 1) := by decide +kernel
theorem dX1_pop_63 : decode cX1_pop 63 = .ok (.ifCond .eq 7, 3) := by decide +kernel
theorem dX1_pop_66 : decode cX1_pop 66 = .ok (.iconst 1, 1) := by decide +kernel
theorem dX1_pop_67 : decode cX1_pop 67 = .ok (.goto 4, 3) := by decide +kernel
theorem dX1_pop_70 : decode cX1_pop 70 = .ok (.iconst 0, 1) := by decide +kernel
theorem dX1_pop_71 : decode cX1_pop 71 = .ok (.ireturn, 1) := by decide +kernel
theorem dX2_init_0 : decode cX2_init 0 = .ok (.aload_n 0, 1) := by decide +kernel
theorem dX2_init_1 : decode cX2_init 1 = .ok (.invokespecial 3, 3) := by decide +kernel
theorem dX2_init_4 : decode cX2_init 4 = .ok (.aload_n 0, 1) := by decide +kernel
theorem dX2_init_5 : decode cX2_init 5 = .ok (.new 9, 3) := by decide +kernel
theorem dX2_init_8 : decode cX2_init 8 = .ok (.dup, 1) := by decide +kernel
theorem dX2_init_9 : decode cX2_init 9 = .ok (.invokespecial 11, 3) := by decide +kernel
theorem dX2_init_12 : decode cX2_init 12 = .ok (.putfield 12, 3) := by decide +kernel
theorem dX2_init_15 : decode cX2_init 15 = .ok (.aload_n 0, 1) := by decide +kernel
theorem dX2_init_16 : decode cX2_init 16 = .ok (.new 9, 3) := by decide +kernel
theorem dX2_init_19 : decode cX2_init 19 = .ok (.dup, 1) := by decide +kernel
theorem dX2_init_20 : decode cX2_init 20 = .ok (.invokespecial 11, 3) := by decide +kernel
theorem dX2_init_23 : decode cX2_init 23 = .ok (.putfield 18, 3) := by decide +kernel
theorem dX2_init_26 : decode cX2_init 26 = .ok (.aload_n 0, 1) := by decide +kernel
theorem dX2_init_27 : decode cX2_init 27 = .ok (.new 9, 3) := by decide +kernel
theorem dX2_init_30 : decode cX2_init 30 = .ok (.dup, 1) := by decide +kernel
theorem dX2_init_31 : decode cX2_init 31 = .ok (.invokespecial 11, 3) := by decide +kernel
theorem dX2_init_34 : decode cX2_init 34 = .ok (.putfield 21, 3) := by decide +kernel
theorem dX2_init_37 : decode cX2_init 37 = .ok (.aload_n 0, 1) := by decide +kernel
theorem dX2_init_38 : decode cX2_init 38 = .ok (.new 9, 3) := by decide +kernel
theorem dX2_init_41 : decode cX2_init 41 = .ok (.dup, 1) := by decide +kernel
theorem dX2_init_42 : decode cX2_init 42 = .ok (.invokespecial 11, 3) := by decide +kernel
theorem dX2_init_45 : decode cX2_init 45 = .ok (.putfield 24, 3) := by decide +kernel
theorem dX2_init_48 : decode cX2_init 48 = .ok (.aload_n 0, 1) := by decide +kernel
theorem dX2_init_49 : decode cX2_init 49 = .ok (.bipush 10, 2) := by decide +kernel
theorem dX2_init_51 : decode cX2_init 51 = .ok (.newarray .int, 2) := by decide +kernel
theorem dX2_init_53 : decode cX2_init 53 = .ok (.putfield 27, 3) := by decide +kernel
theorem dX2_init_56 : decode cX2_init 56 = .ok (.aload_n 0, 1) := by decide +kernel
theorem dX2_init_57 : decode cX2_init 57 = .ok (.bipush 10, 2) := by decide +kernel
theorem dX2_init_59 : decode cX2_init 59 = .ok (.newarray .int, 2) := by decide +kernel
theorem dX2_init_61 : decode cX2_init 61 = .ok (.putfield 31, 3) := by decide +kernel
theorem dX2_init_64 : decode cX2_init 64 = .ok (.return_, 1) := by decide +kernel
theorem dX2_gather_0 : decode cX2_gather 0 = .ok (.aload_n 0, 1) := by decide +kernel
theorem dX2_gather_1 : decode cX2_gather 1 = .ok (.getfield 12, 3) := by decide +kernel
theorem dX2_gather_4 : decode cX2_gather 4 = .ok (.invokeinterface 34 1, 5) := by decide +kernel
theorem dX2_gather_9 : decode cX2_gather 9 = .ok (.aload_n 0, 1) := by decide +kernel
theorem dX2_gather_10 : decode cX2_gather 10 = .ok (.getfield 18, 3) := by decide +kernel
theorem dX2_gather_13 : decode cX2_gather 13 = .ok (.invokeinterface 34 1, 5) := by decide +kernel
theorem dX2_gather_18 : decode cX2_gather 18 = .ok (.aload_n 0, 1) := by decide +kernel
theorem dX2_gather_19 : decode cX2_gather 19 = .ok (.getfield 21, 3) := by decide +kernel
theorem dX2_gather_22 : decode cX2_gather 22 = .ok (.invokeinterface 34 1, 5) := by decide +kernel
theorem dX2_gather_27 : decode cX2_gather 27 = .ok (.iconst 0, 1) := by decide +kernel
theorem dX2_gather_28 : decode cX2_gather 28 = .ok (.istore_n 2, 1) := by decide +kernel
theorem dX2_gather_29 : decode cX2_gather 29 = .ok (.iload_n 2, 1) := by decide +kernel
theorem dX2_gather_30 : decode cX2_gather 30 = .ok (.aload_n 1, 1) := by decide +kernel
theorem dX2_gather_31 : decode cX2_gather 31 = .ok (.invokeinterface 39 1, 5) := by decide +kernel
theorem dX2_gather_36 : decode cX2_gather 36 = .ok (.if_icmp .ge 161, 3) := by decide +kernel
theorem dX2_gather_39 : decode cX2_gather 39 = .ok (.aload_n 1, 1) := by decide +kernel
theorem dX2_gather_40 : decode cX2_gather 40 = .ok (.iload_n 2, 1) := by decide +kernel
theorem dX2_gather_41 : decode cX2_gather 41 = .ok (.invokeinterface 43 2, 5) := by decide +kernel
theorem dX2_gather_46 : decode cX2_gather 46 = .ok (.checkcast 47, 3) := by decide +kernel
theorem dX2_gather_49 : decode cX2_gather 49 = .ok (.astore_n 3, 1) := by decide +kernel
theorem dX2_gather_50 : decode cX2_gather 50 = .ok (.iconst 0, 1) := by decide +kernel
theorem dX2_gather_51 : decode cX2_gather 51 = .ok (.istore 4, 2) := by decide +kernel
theorem dX2_gather_53 : decode cX2_gather 53 = .ok (.iload 4, 2) := by decide +kernel
theorem dX2_gather_55 : decode cX2_gather 55 = .ok (.aload_n 3, 1) := by decide +kernel
theorem dX2_gather_56 : decode cX2_gather 56 = .ok (.getfield 49, 3) := by decide +kernel
theorem dX2_gather_59 : decode cX2_gather 59 = .ok (.invokeinterface 39 1, 5) := by decide +kernel
theorem dX2_gather_64 : decode cX2_gather 64 = .ok (.if_icmp .ge 33, 3) := by decide +kernel
theorem dX2_gather_67 : decode cX2_gather 67 = .ok (.aload_n 0, 1) := by decide +kernel
theorem dX2_gather_68 : decode cX2_gather 68 = .ok (.getfield 12, 3) := by decide +kernel
theorem dX2_gather_71 : decode cX2_gather 71 = .ok (.aload_n 3, 1) := by decide +kernel
theorem dX2_gather_72 : decode cX2_gather 72 = .ok (.getfield 49, 3) := by decide +kernel
theorem dX2_gather_75 : decode cX2_gather 75 = .ok (.iload 4, 2) := by decide +kernel
theorem dX2_gather_77 : decode cX2_gather 77 = .ok (.invokeinterface 43 2, 5) := by decide +kernel
theorem dX2_gather_82 : decode cX2_gather 82 = .ok (.checkcast 50, 3) := by decide +kernel
theorem dX2_gather_85 : decode cX2_gather 85 = .ok (.invokeinterface 52 2, 5) := by decide +kernel
theorem dX2_gather_90 : decode cX2_gather 90 = .ok (.pop, 1) := by decide +kernel
theorem dX2_gather_91 : decode cX2_gather 91 = .ok (.iinc 4 1, 3) := by decide +kernel
theorem dX2_gather_94 : decode cX2_gather 94 = .ok (.goto (-41), 3) := by decide +kernel
theorem dX2_gather_97 : decode cX2_gather 97 = .ok (.iconst 0, 1) := by decide +kernel
theorem dX2_gather_98 : decode cX2_gather 98 = .ok (.istore 4, 2) := by decide +kernel
theorem dX2_gather_100 : decode cX2_gather 100 = .ok (.iload 4, 2) := by decide +kernel
theorem dX2_gather_102 : decode cX2_gather 102 = .ok (.aload_n 3, 1) := by decide +kernel
theorem dX2_gather_103 : decode cX2_gather 103 = .ok (.getfield 56, 3) := by decide +kernel
theorem dX2_gather_106 : decode cX2_gather 106 = .ok (.invokeinterface 39 1, 5) := by decide +kernel
theorem dX2_gather_111 : decode cX2_gather 111 = .ok (.if_icmp .ge 33, 3) := by decide +kernel
theorem dX2_gather_114 : decode cX2_gather 114 = .ok (.aload_n 0, 1) := by decide +kernel
theorem dX2_gather_115 : decode cX2_gather 115 = .ok (.getfield 18, 3) := by decide +kernel
theorem dX2_gather_118 : decode cX2_gather 118 = .ok (.aload_n 3, 1) := by decide +kernel
theorem dX2_gather_119 : decode cX2_gather 119 = .ok (.getfield 56, 3) := by decide +kernel
theorem dX2_gather_122 : decode cX2_gather 122 = .ok (.iload 4, 2) := by decide +kernel
theorem dX2_gather_124 : decode cX2_gather 124 = .ok (.invokeinterface 43 2, 5) := by decide +kernel
theorem dX2_gather_129 : decode cX2_gather 129 = .ok (.checkcast 57, 3) := by decide +kernel
theorem dX2_gather_132 : decode cX2_gather 132 = .ok (.invokeinterface 52 2, 5) := by decide +kernel
theorem dX2_gather_137 : decode cX2_gather 137 = .ok (.pop, 1) := by decide +kernel
theorem dX2_gather_138 : decode cX2_gather 138 = .ok (.iinc 4 1, 3) := by decide +kernel
theorem dX2_gather_141 : decode cX2_gather 141 = .ok (.goto (-41), 3) := by decide +kernel
theorem dX2_gather_144 : decode cX2_gather 144 = .ok (.iconst 0, 1) := by decide +kernel
theorem dX2_gather_145 : decode cX2_gather 145 = .ok (.istore 4, 2) := by decide +kernel
theorem dX2_gather_147 : decode cX2_gather 147 = .ok (.iload 4, 2) := by decide +kernel
theorem dX2_gather_149 : decode cX2_gather 149 = .ok (.aload_n 3, 1) := by decide +kernel
theorem dX2_gather_150 : decode cX2_gather 150 = .ok (.getfield 59, 3) := by decide +kernel
theorem dX2_gather_153 : decode cX2_gather 153 = .ok (.invokeinterface 39 1, 5) := by decide +kernel
theorem dX2_gather_158 : decode cX2_gather 158 = .ok (.if_icmp .ge 33, 3) := by decide +kernel
theorem dX2_gather_161 : decode cX2_gather 161 = .ok (.aload_n 0, 1) := by decide +kernel
theorem dX2_gather_162 : decode cX2_gather 162 = .ok (.getfield 21, 3) := by decide +kernel
theorem dX2_gather_165 : decode cX2_gather 165 = .ok (.aload_n 3, 1) := by decide +kernel
theorem dX2_gather_166 : decode cX2_gather 166 = .ok (.getfield 59, 3) := by decide +kernel
theorem dX2_gather_169 : decode cX2_gather 169 = .ok (.iload 4, 2) := by decide +kernel
theorem dX2_gather_171 : decode cX2_gather 171 = .ok (.invokeinterface 43 2, 5) := by decide +kernel
theorem dX2_gather_176 : decode cX2_gather 176 = .ok (.checkcast 60, 3) := by decide +kernel
theorem dX2_gather_179 : decode cX2_gather 179 = .ok (.invokeinterface 52 2, 5) := by decide +kernel
theorem dX2_gather_184 : decode cX2_gather 184 = .ok (.pop, 1) := by decide +kernel
theorem dX2_gather_185 : decode cX2_gather 185 = .ok (.iinc 4 1, 3) := by decide +kernel
theorem dX2_gather_188 : decode cX2_gather 188 = .ok (.goto (-41), 3) := by decide +kernel
theorem dX2_gather_191 : decode cX2_gather 191 = .ok (.iinc 2 1, 3) := by decide +kernel
theorem dX2_gather_194 : decode cX2_gather 194 = .ok (.goto (-165), 3) := by decide +kernel
theorem dX2_gather_197 : decode cX2_gather 197 = .ok (.return_, 1) := by decide +kernel
theorem dX2_wrongNumber_0 : decode cX2_wrongNumber 0 = .ok (.iconst 0, 1) := by decide +kernel
theorem dX2_wrongNumber_1 : decode cX2_wrongNumber 1 = .ok (.istore_n 1, 1) := by decide +kernel
theorem dX2_wrongNumber_2 : decode cX2_wrongNumber 2 = .ok (.iload_n 1, 1) := by decide +kernel
theorem dX2_wrongNumber_3 : decode cX2_wrongNumber 3 = .ok (.aload_n 0, 1) := by decide +kernel
theorem dX2_wrongNumber_4 : decode cX2_wrongNumber 4 = .ok (.getfield 12, 3) := by decide +kernel
theorem dX2_wrongNumber_7 : decode cX2_wrongNumber 7 = .ok (.invokeinterface 39 1, 5) := by decide +kernel
theorem dX2_wrongNumber_12 : decode cX2_wrongNumber 12 = .ok (.if_icmp .ge 54, 3) := by decide +kernel
theorem dX2_wrongNumber_15 : decode cX2_wrongNumber 15 = .ok (.aload_n 0, 1) := by decide +kernel
theorem dX2_wrongNumber_16 : decode cX2_wrongNumber 16 = .ok (.getfield 12, 3) := by decide +kernel
theorem dX2_wrongNumber_19 : decode cX2_wrongNumber 19 = .ok (.iload_n 1, 1) := by decide +kernel
theorem dX2_wrongNumber_20 : decode cX2_wrongNumber 20 = .ok (.invokeinterface 43 2, 5) := by decide +kernel
theorem dX2_wrongNumber_25 : decode cX2_wrongNumber 25 = .ok (.checkcast 50, 3) := by decide +kernel
theorem dX2_wrongNumber_28 : decode cX2_wrongNumber 28 = .ok (.astore_n 2, 1) := by decide +kernel
theorem dX2_wrongNumber_29 : decode cX2_wrongNumber 29 = .ok (.iconst 0, 1) := by decide +kernel
theorem dX2_wrongNumber_30 : decode cX2_wrongNumber 30 = .ok (.istore_n 3, 1) := by decide +kernel
theorem dX2_wrongNumber_31 : decode cX2_wrongNumber 31 = .ok (.iload_n 3, 1) := by decide +kernel
theorem dX2_wrongNumber_32 : decode cX2_wrongNumber 32 = .ok (.aload_n 2, 1) := by decide +kernel
theorem dX2_wrongNumber_33 : decode cX2_wrongNumber 33 = .ok (.getfield 62, 3) := by decide +kernel
theorem dX2_wrongNumber_36 : decode cX2_wrongNumber 36 = .ok (.if_icmp .ge 24, 3) := by decide +kernel
theorem dX2_wrongNumber_39 : decode cX2_wrongNumber 39 = .ok (.aload_n 2, 1) := by decide +kernel
theorem dX2_wrongNumber_40 : decode cX2_wrongNumber 40 = .ok (.iload_n 3, 1) := by decide +kernel
theorem dX2_wrongNumber_41 : decode cX2_wrongNumber 41 = .ok (.invokevirtual 65, 3) := by decide +kernel
theorem dX2_wrongNumber_44 : decode cX2_wrongNumber 44 = .ok (.ifCond .ne 10, 3) := by decide +kernel
theorem dX2_wrongNumber_47 : decode cX2_wrongNumber 47 = .ok (.aload_n 2, 1) := by decide +kernel
theorem dX2_wrongNumber_48 : decode cX2_wrongNumber 48 = .ok (.getfield 69, 3) := by decide +kernel
theorem dX2_wrongNumber_51 : decode cX2_wrongNumber 51 = .ok (.iload_n 3, 1) := by decide +kernel
theorem dX2_wrongNumber_52 : decode cX2_wrongNumber 52 = .ok (.iadd, 1) := by decide +kernel
theorem dX2_wrongNumber_53 : decode cX2_wrongNumber 53 = .ok (.ireturn, 1) := by decide +kernel
theorem dX2_wrongNumber_54 : decode cX2_wrongNumber 54 = .ok (.iinc 3 1, 3) := by decide +kernel
theorem dX2_wrongNumber_57 : decode cX2_wrongNumber 57 = .ok (.goto (-26), 3) := by decide +kernel
theorem dX2_wrongNumber_60 : decode cX2_wrongNumber 60 = .ok (.iinc 1 1, 3) := by decide +kernel
theorem dX2_wrongNumber_63 : decode cX2_wrongNumber 63 = .ok (.goto (-61), 3) := by decide +kernel
theorem dX2_wrongNumber_66 : decode cX2_wrongNumber 66 = .ok (.iconst (-1), 1) := by decide +kernel
theorem dX2_wrongNumber_67 : decode cX2_wrongNumber 67 = .ok (.ireturn, 1) := by decide +kernel
theorem dX2_otherSignature_0 : decode cX2_otherSignature 0 = .ok (.iconst 0, 1) := by decide +kernel
theorem dX2_otherSignature_1 : decode cX2_otherSignature 1 = .ok (.istore_n 1, 1) := by decide +kernel
theorem dX2_otherSignature_2 : decode cX2_otherSignature 2 = .ok (.iload_n 1, 1) := by decide +kernel
theorem dX2_otherSignature_3 : decode cX2_otherSignature 3 = .ok (.aload_n 0, 1) := by decide +kernel
theorem dX2_otherSignature_4 : decode cX2_otherSignature 4 = .ok (.getfield 12, 3) := by decide +kernel
theorem dX2_otherSignature_7 : decode cX2_otherSignature 7 = .ok (.invokeinterface 39 1, 5) := by decide +kernel
theorem dX2_otherSignature_12 : decode cX2_otherSignature 12 = .ok (.if_icmp .ge 65, 3) := by decide +kernel
theorem dX2_otherSignature_15 : decode cX2_otherSignature 15 = .ok (.aload_n 0, 1) := by decide +kernel
theorem dX2_otherSignature_16 : decode cX2_otherSignature 16 = .ok (.getfield 12, 3) := by decide +kernel
theorem dX2_otherSignature_19 : decode cX2_otherSignature 19 = .ok (.iload_n 1, 1) := by decide +kernel
theorem dX2_otherSignature_20 : decode cX2_otherSignature 20 = .ok (.invokeinterface 43 2, 5) := by decide +kernel
theorem dX2_otherSignature_25 : decode cX2_otherSignature 25 = .ok (.checkcast 50, 3) := by decide +kernel
theorem dX2_otherSignature_28 : decode cX2_otherSignature 28 = .ok (.astore_n 2, 1) := by decide +kernel
theorem dX2_otherSignature_29 : decode cX2_otherSignature 29 = .ok (.iconst 0, 1) := by decide +kernel
theorem dX2_otherSignature_30 : decode cX2_otherSignature 30 = .ok (.istore_n 3, 1) := by decide +kernel
theorem dX2_otherSignature_31 : decode cX2_otherSignature 31 = .ok (.iload_n 3, 1) := by decide +kernel
theorem dX2_otherSignature_32 : decode cX2_otherSignature 32 = .ok (.aload_n 2, 1) := by decide +kernel
theorem dX2_otherSignature_33 : decode cX2_otherSignature 33 = .ok (.getfield 62, 3) := by decide +kernel
theorem dX2_otherSignature_36 : decode cX2_otherSignature 36 = .ok (.if_icmp .ge 35, 3) := by decide +kernel
theorem dX2_otherSignature_39 : decode cX2_otherSignature 39 = .ok (.aload_n 2, 1) := by decide +kernel
theorem dX2_otherSignature_40 : decode cX2_otherSignature 40 = .ok (.getfield 72, 3) := by decide +kernel
theorem dX2_otherSignature_43 : decode cX2_otherSignature 43 = .ok (.iload_n 3, 1) := by decide +kernel
theorem dX2_otherSignature_44 : decode cX2_otherSignature 44 = .ok (.iaload, 1) := by decide +kernel
theorem dX2_otherSignature_45 : decode cX2_otherSignature 45 = .ok (.bipush 31, 2) := by decide +kernel
theorem dX2_otherSignature_47 : decode cX2_otherSignature 47 = .ok (.if_icmp .ne 18, 3) := by decide +kernel
theorem dX2_otherSignature_50 : decode cX2_otherSignature 50 = .ok (.aload_n 2, 1) := by decide +kernel
theorem dX2_otherSignature_51 : decode cX2_otherSignature 51 = .ok (.iload_n 3, 1) := by decide +kernel
theorem dX2_otherSignature_52 : decode cX2_otherSignature 52 = .ok (.invokevirtual 77, 3) := by decide +kernel
theorem dX2_otherSignature_55 : decode cX2_otherSignature 55 = .ok (.ifCond .ne 10, 3) := by decide +kernel
theorem dX2_otherSignature_58 : decode cX2_otherSignature 58 = .ok (.aload_n 2, 1) := by decide +kernel
theorem dX2_otherSignature_59 : decode cX2_otherSignature 59 = .ok (.getfield 69, 3) := by decide +kernel
theorem dX2_otherSignature_62 : decode cX2_otherSignature 62 = .ok (.iload_n 3, 1) := by decide +kernel
theorem dX2_otherSignature_63 : decode cX2_otherSignature 63 = .ok (.iadd, 1) := by decide +kernel
theorem dX2_otherSignature_64 : decode cX2_otherSignature 64 = .ok (.ireturn, 1) := by decide +kernel
theorem dX2_otherSignature_65 : decode cX2_otherSignature 65 = .ok (.iinc 3 1, 3) := by decide +kernel
theorem dX2_otherSignature_68 : decode cX2_otherSignature 68 = .ok (.goto (-37), 3) := by decide +kernel
theorem dX2_otherSignature_71 : decode cX2_otherSignature 71 = .ok (.iinc 1 1, 3) := by decide +kernel
theorem dX2_otherSignature_74 : decode cX2_otherSignature 74 = .ok (.goto (-72), 3) := by decide +kernel
theorem dX2_otherSignature_77 : decode cX2_otherSignature 77 = .ok (.iconst (-1), 1) := by decide +kernel
theorem dX2_otherSignature_78 : decode cX2_otherSignature 78 = .ok (.ireturn, 1) := by decide +kernel
theorem dX2_layOut_0 : decode cX2_layOut 0 = .ok (.aload_n 0, 1) := by decide +kernel
theorem dX2_layOut_1 : decode cX2_layOut 1 = .ok (.bipush 16, 2) := by decide +kernel
theorem dX2_layOut_3 : decode cX2_layOut 3 = .ok (.putfield 80, 3) := by decide +kernel
theorem dX2_layOut_6 : decode cX2_layOut 6 = .ok (.iconst 0, 1) := by decide +kernel
theorem dX2_layOut_7 : decode cX2_layOut 7 = .ok (.istore_n 1, 1) := by decide +kernel
theorem dX2_layOut_8 : decode cX2_layOut 8 = .ok (.iload_n 1, 1) := by decide +kernel
theorem dX2_layOut_9 : decode cX2_layOut 9 = .ok (.aload_n 0, 1) := by decide +kernel
theorem dX2_layOut_10 : decode cX2_layOut 10 = .ok (.getfield 18, 3) := by decide +kernel
theorem dX2_layOut_13 : decode cX2_layOut 13 = .ok (.invokeinterface 39 1, 5) := by decide +kernel
theorem dX2_layOut_18 : decode cX2_layOut 18 = .ok (.if_icmp .ge 58, 3) := by decide +kernel
theorem dX2_layOut_21 : decode cX2_layOut 21 = .ok (.aload_n 0, 1) := by decide +kernel
theorem dX2_layOut_22 : decode cX2_layOut 22 = .ok (.getfield 18, 3) := by decide +kernel
theorem dX2_layOut_25 : decode cX2_layOut 25 = .ok (.iload_n 1, 1) := by decide +kernel
theorem dX2_layOut_26 : decode cX2_layOut 26 = .ok (.invokeinterface 43 2, 5) := by decide +kernel
theorem dX2_layOut_31 : decode cX2_layOut 31 = .ok (.checkcast 57, 3) := by decide +kernel
theorem dX2_layOut_34 : decode cX2_layOut 34 = .ok (.astore_n 2, 1) := by decide +kernel
theorem dX2_layOut_35 : decode cX2_layOut 35 = .ok (.aload_n 2, 1) := by decide +kernel
theorem dX2_layOut_36 : decode cX2_layOut 36 = .ok (.aload_n 0, 1) := by decide +kernel
theorem dX2_layOut_37 : decode cX2_layOut 37 = .ok (.getfield 80, 3) := by decide +kernel
theorem dX2_layOut_40 : decode cX2_layOut 40 = .ok (.aload_n 2, 1) := by decide +kernel
theorem dX2_layOut_41 : decode cX2_layOut 41 = .ok (.getfield 83, 3) := by decide +kernel
theorem dX2_layOut_44 : decode cX2_layOut 44 = .ok (.iadd, 1) := by decide +kernel
theorem dX2_layOut_45 : decode cX2_layOut 45 = .ok (.iconst 1, 1) := by decide +kernel
theorem dX2_layOut_46 : decode cX2_layOut 46 = .ok (.isub, 1) := by decide +kernel
theorem dX2_layOut_47 : decode cX2_layOut 47 = .ok (.aload_n 2, 1) := by decide +kernel
theorem dX2_layOut_48 : decode cX2_layOut 48 = .ok (.getfield 83, 3) := by decide +kernel
theorem dX2_layOut_51 : decode cX2_layOut 51 = .ok (.ineg, 1) := by decide +kernel
theorem dX2_layOut_52 : decode cX2_layOut 52 = .ok (.iand, 1) := by decide +kernel
theorem dX2_layOut_53 : decode cX2_layOut 53 = .ok (.putfield 86, 3) := by decide +kernel
theorem dX2_layOut_56 : decode cX2_layOut 56 = .ok (.aload_n 0, 1) := by decide +kernel
theorem dX2_layOut_57 : decode cX2_layOut 57 = .ok (.aload_n 2, 1) := by decide +kernel
theorem dX2_layOut_58 : decode cX2_layOut 58 = .ok (.getfield 86, 3) := by decide +kernel
theorem dX2_layOut_61 : decode cX2_layOut 61 = .ok (.aload_n 2, 1) := by decide +kernel
theorem dX2_layOut_62 : decode cX2_layOut 62 = .ok (.getfield 89, 3) := by decide +kernel
theorem dX2_layOut_65 : decode cX2_layOut 65 = .ok (.arraylength, 1) := by decide +kernel
theorem dX2_layOut_66 : decode cX2_layOut 66 = .ok (.iadd, 1) := by decide +kernel
theorem dX2_layOut_67 : decode cX2_layOut 67 = .ok (.putfield 80, 3) := by decide +kernel
theorem dX2_layOut_70 : decode cX2_layOut 70 = .ok (.iinc 1 1, 3) := by decide +kernel
theorem dX2_layOut_73 : decode cX2_layOut 73 = .ok (.goto (-65), 3) := by decide +kernel
theorem dX2_layOut_76 : decode cX2_layOut 76 = .ok (.return_, 1) := by decide +kernel
theorem dX2_number_0 : decode cX2_number 0 = .ok (.aload_n 0, 1) := by decide +kernel
theorem dX2_number_1 : decode cX2_number 1 = .ok (.getfield 24, 3) := by decide +kernel
theorem dX2_number_4 : decode cX2_number 4 = .ok (.invokeinterface 34 1, 5) := by decide +kernel
theorem dX2_number_9 : decode cX2_number 9 = .ok (.aload_n 0, 1) := by decide +kernel
theorem dX2_number_10 : decode cX2_number 10 = .ok (.iconst 0, 1) := by decide +kernel
theorem dX2_number_11 : decode cX2_number 11 = .ok (.putfield 93, 3) := by decide +kernel
theorem dX2_number_14 : decode cX2_number 14 = .ok (.aload_n 0, 1) := by decide +kernel
theorem dX2_number_15 : decode cX2_number 15 = .ok (.getfield 31, 3) := by decide +kernel
theorem dX2_number_18 : decode cX2_number 18 = .ok (.iconst (-1), 1) := by decide +kernel
theorem dX2_number_19 : decode cX2_number 19 = .ok (.invokestatic 96, 3) := by decide +kernel
theorem dX2_number_22 : decode cX2_number 22 = .ok (.iconst 0, 1) := by decide +kernel
theorem dX2_number_23 : decode cX2_number 23 = .ok (.istore_n 1, 1) := by decide +kernel
theorem dX2_number_24 : decode cX2_number 24 = .ok (.iload_n 1, 1) := by decide +kernel
theorem dX2_number_25 : decode cX2_number 25 = .ok (.aload_n 0, 1) := by decide +kernel
theorem dX2_number_26 : decode cX2_number 26 = .ok (.getfield 12, 3) := by decide +kernel
theorem dX2_number_29 : decode cX2_number 29 = .ok (.invokeinterface 39 1, 5) := by decide +kernel
theorem dX2_number_34 : decode cX2_number 34 = .ok (.if_icmp .ge 41, 3) := by decide +kernel
theorem dX2_number_37 : decode cX2_number 37 = .ok (.aload_n 0, 1) := by decide +kernel
theorem dX2_number_38 : decode cX2_number 38 = .ok (.getfield 12, 3) := by decide +kernel
theorem dX2_number_41 : decode cX2_number 41 = .ok (.iload_n 1, 1) := by decide +kernel
theorem dX2_number_42 : decode cX2_number 42 = .ok (.invokeinterface 43 2, 5) := by decide +kernel
theorem dX2_number_47 : decode cX2_number 47 = .ok (.checkcast 50, 3) := by decide +kernel
theorem dX2_number_50 : decode cX2_number 50 = .ok (.astore_n 2, 1) := by decide +kernel
theorem dX2_number_51 : decode cX2_number 51 = .ok (.aload_n 2, 1) := by decide +kernel
theorem dX2_number_52 : decode cX2_number 52 = .ok (.iload_n 1, 1) := by decide +kernel
theorem dX2_number_53 : decode cX2_number 53 = .ok (.putfield 102, 3) := by decide +kernel
theorem dX2_number_56 : decode cX2_number 56 = .ok (.aload_n 2, 1) := by decide +kernel
theorem dX2_number_57 : decode cX2_number 57 = .ok (.iconst 0, 1) := by decide +kernel
theorem dX2_number_58 : decode cX2_number 58 = .ok (.putfield 105, 3) := by decide +kernel
theorem dX2_number_61 : decode cX2_number 61 = .ok (.aload_n 0, 1) := by decide +kernel
theorem dX2_number_62 : decode cX2_number 62 = .ok (.aload_n 2, 1) := by decide +kernel
theorem dX2_number_63 : decode cX2_number 63 = .ok (.invokevirtual 108, 3) := by decide +kernel
theorem dX2_number_66 : decode cX2_number 66 = .ok (.invokevirtual 111, 3) := by decide +kernel
theorem dX2_number_69 : decode cX2_number 69 = .ok (.iinc 1 1, 3) := by decide +kernel
theorem dX2_number_72 : decode cX2_number 72 = .ok (.goto (-48), 3) := by decide +kernel
theorem dX2_number_75 : decode cX2_number 75 = .ok (.iconst 0, 1) := by decide +kernel
theorem dX2_number_76 : decode cX2_number 76 = .ok (.istore_n 1, 1) := by decide +kernel
theorem dX2_number_77 : decode cX2_number 77 = .ok (.iload_n 1, 1) := by decide +kernel
theorem dX2_number_78 : decode cX2_number 78 = .ok (.aload_n 0, 1) := by decide +kernel
theorem dX2_number_79 : decode cX2_number 79 = .ok (.getfield 12, 3) := by decide +kernel
theorem dX2_number_82 : decode cX2_number 82 = .ok (.invokeinterface 39 1, 5) := by decide +kernel
theorem dX2_number_87 : decode cX2_number 87 = .ok (.if_icmp .ge 45, 3) := by decide +kernel
theorem dX2_number_90 : decode cX2_number 90 = .ok (.aload_n 0, 1) := by decide +kernel
theorem dX2_number_91 : decode cX2_number 91 = .ok (.getfield 12, 3) := by decide +kernel
theorem dX2_number_94 : decode cX2_number 94 = .ok (.iload_n 1, 1) := by decide +kernel
theorem dX2_number_95 : decode cX2_number 95 = .ok (.invokeinterface 43 2, 5) := by decide +kernel
theorem dX2_number_100 : decode cX2_number 100 = .ok (.checkcast 50, 3) := by decide +kernel
theorem dX2_number_103 : decode cX2_number 103 = .ok (.astore_n 2, 1) := by decide +kernel
theorem dX2_number_104 : decode cX2_number 104 = .ok (.iconst 0, 1) := by decide +kernel
theorem dX2_number_105 : decode cX2_number 105 = .ok (.istore_n 3, 1) := by decide +kernel
theorem dX2_number_106 : decode cX2_number 106 = .ok (.iload_n 3, 1) := by decide +kernel
theorem dX2_number_107 : decode cX2_number 107 = .ok (.aload_n 2, 1) := by decide +kernel
theorem dX2_number_108 : decode cX2_number 108 = .ok (.getfield 62, 3) := by decide +kernel
theorem dX2_number_111 : decode cX2_number 111 = .ok (.if_icmp .ge 15, 3) := by decide +kernel
theorem dX2_number_114 : decode cX2_number 114 = .ok (.aload_n 0, 1) := by decide +kernel
theorem dX2_number_115 : decode cX2_number 115 = .ok (.aload_n 2, 1) := by decide +kernel
theorem dX2_number_116 : decode cX2_number 116 = .ok (.iload_n 3, 1) := by decide +kernel
theorem dX2_number_117 : decode cX2_number 117 = .ok (.invokevirtual 115, 3) := by decide +kernel
theorem dX2_number_120 : decode cX2_number 120 = .ok (.iinc 3 1, 3) := by decide +kernel
theorem dX2_number_123 : decode cX2_number 123 = .ok (.goto (-17), 3) := by decide +kernel
theorem dX2_number_126 : decode cX2_number 126 = .ok (.iinc 1 1, 3) := by decide +kernel
theorem dX2_number_129 : decode cX2_number 129 = .ok (.goto (-52), 3) := by decide +kernel
theorem dX2_number_132 : decode cX2_number 132 = .ok (.return_, 1) := by decide +kernel
theorem dX2_noteWord_0 : decode cX2_noteWord 0 = .ok (.aload_n 1, 1) := by decide +kernel
theorem dX2_noteWord_1 : decode cX2_noteWord 1 = .ok (.getfield 72, 3) := by decide +kernel
theorem dX2_noteWord_4 : decode cX2_noteWord 4 = .ok (.iload_n 2, 1) := by decide +kernel
theorem dX2_noteWord_5 : decode cX2_noteWord 5 = .ok (.iaload, 1) := by decide +kernel
theorem dX2_noteWord_6 : decode cX2_noteWord 6 = .ok (.bipush 32, 2) := by decide +kernel
theorem dX2_noteWord_8 : decode cX2_noteWord 8 = .ok (.if_icmp .ne 13, 3) := by decide +kernel
theorem dX2_noteWord_11 : decode cX2_noteWord 11 = .ok (.aload_n 0, 1) := by decide +kernel
theorem dX2_noteWord_12 : decode cX2_noteWord 12 = .ok (.aload_n 1, 1) := by decide +kernel
theorem dX2_noteWord_13 : decode cX2_noteWord 13 = .ok (.getfield 119, 3) := by decide +kernel
theorem dX2_noteWord_16 : decode cX2_noteWord 16 = .ok (.iload_n 2, 1) := by decide +kernel
theorem dX2_noteWord_17 : decode cX2_noteWord 17 = .ok (.iaload, 1) := by decide +kernel
theorem dX2_noteWord_18 : decode cX2_noteWord 18 = .ok (.invokevirtual 111, 3) := by decide +kernel
theorem dX2_noteWord_21 : decode cX2_noteWord 21 = .ok (.aload_n 1, 1) := by decide +kernel
theorem dX2_noteWord_22 : decode cX2_noteWord 22 = .ok (.getfield 72, 3) := by decide +kernel
theorem dX2_noteWord_25 : decode cX2_noteWord 25 = .ok (.iload_n 2, 1) := by decide +kernel
theorem dX2_noteWord_26 : decode cX2_noteWord 26 = .ok (.iaload, 1) := by decide +kernel
theorem dX2_noteWord_27 : decode cX2_noteWord 27 = .ok (.bipush 34, 2) := by decide +kernel
theorem dX2_noteWord_29 : decode cX2_noteWord 29 = .ok (.if_icmp .ne 12, 3) := by decide +kernel
theorem dX2_noteWord_32 : decode cX2_noteWord 32 = .ok (.aload_n 0, 1) := by decide +kernel
theorem dX2_noteWord_33 : decode cX2_noteWord 33 = .ok (.aload_n 1, 1) := by decide +kernel
theorem dX2_noteWord_34 : decode cX2_noteWord 34 = .ok (.iload_n 2, 1) := by decide +kernel
theorem dX2_noteWord_35 : decode cX2_noteWord 35 = .ok (.invokevirtual 122, 3) := by decide +kernel
theorem dX2_noteWord_38 : decode cX2_noteWord 38 = .ok (.invokevirtual 126, 3) := by decide +kernel
theorem dX2_noteWord_41 : decode cX2_noteWord 41 = .ok (.return_, 1) := by decide +kernel
theorem dX2_noteType_0 : decode cX2_noteType 0 = .ok (.aload_n 0, 1) := by decide +kernel
theorem dX2_noteType_1 : decode cX2_noteType 1 = .ok (.getfield 31, 3) := by decide +kernel
theorem dX2_noteType_4 : decode cX2_noteType 4 = .ok (.iload_n 1, 1) := by decide +kernel
theorem dX2_noteType_5 : decode cX2_noteType 5 = .ok (.iaload, 1) := by decide +kernel
theorem dX2_noteType_6 : decode cX2_noteType 6 = .ok (.iconst (-1), 1) := by decide +kernel
theorem dX2_noteType_7 : decode cX2_noteType 7 = .ok (.if_icmp .ne 33, 3) := by decide +kernel
theorem dX2_noteType_10 : decode cX2_noteType 10 = .ok (.aload_n 0, 1) := by decide +kernel
theorem dX2_noteType_11 : decode cX2_noteType 11 = .ok (.getfield 31, 3) := by decide +kernel
theorem dX2_noteType_14 : decode cX2_noteType 14 = .ok (.iload_n 1, 1) := by decide +kernel
theorem dX2_noteType_15 : decode cX2_noteType 15 = .ok (.aload_n 0, 1) := by decide +kernel
theorem dX2_noteType_16 : decode cX2_noteType 16 = .ok (.getfield 93, 3) := by decide +kernel
theorem dX2_noteType_19 : decode cX2_noteType 19 = .ok (.iastore, 1) := by decide +kernel
theorem dX2_noteType_20 : decode cX2_noteType 20 = .ok (.aload_n 0, 1) := by decide +kernel
theorem dX2_noteType_21 : decode cX2_noteType 21 = .ok (.getfield 27, 3) := by decide +kernel
theorem dX2_noteType_24 : decode cX2_noteType 24 = .ok (.aload_n 0, 1) := by decide +kernel
theorem dX2_noteType_25 : decode cX2_noteType 25 = .ok (.getfield 93, 3) := by decide +kernel
theorem dX2_noteType_28 : decode cX2_noteType 28 = .ok (.iload_n 1, 1) := by decide +kernel
theorem dX2_noteType_29 : decode cX2_noteType 29 = .ok (.iastore, 1) := by decide +kernel
theorem dX2_noteType_30 : decode cX2_noteType 30 = .ok (.aload_n 0, 1) := by decide +kernel
theorem dX2_noteType_31 : decode cX2_noteType 31 = .ok (.dup, 1) := by decide +kernel
theorem dX2_noteType_32 : decode cX2_noteType 32 = .ok (.getfield 93, 3) := by decide +kernel
theorem dX2_noteType_35 : decode cX2_noteType 35 = .ok (.iconst 1, 1) := by decide +kernel
theorem dX2_noteType_36 : decode cX2_noteType 36 = .ok (.iadd, 1) := by decide +kernel
theorem dX2_noteType_37 : decode cX2_noteType 37 = .ok (.putfield 93, 3) := by decide +kernel
theorem dX2_noteType_40 : decode cX2_noteType 40 = .ok (.return_, 1) := by decide +kernel
theorem dX2_noteSlot_0 : decode cX2_noteSlot 0 = .ok (.aload_n 1, 1) := by decide +kernel
theorem dX2_noteSlot_1 : decode cX2_noteSlot 1 = .ok (.ifnull 34, 3) := by decide +kernel
theorem dX2_noteSlot_4 : decode cX2_noteSlot 4 = .ok (.aload_n 1, 1) := by decide +kernel
theorem dX2_noteSlot_5 : decode cX2_noteSlot 5 = .ok (.getfield 105, 3) := by decide +kernel
theorem dX2_noteSlot_8 : decode cX2_noteSlot 8 = .ok (.ifCond .ne 27, 3) := by decide +kernel
theorem dX2_noteSlot_11 : decode cX2_noteSlot 11 = .ok (.aload_n 0, 1) := by decide +kernel
theorem dX2_noteSlot_12 : decode cX2_noteSlot 12 = .ok (.getfield 24, 3) := by decide +kernel
theorem dX2_noteSlot_15 : decode cX2_noteSlot 15 = .ok (.aload_n 1, 1) := by decide +kernel
theorem dX2_noteSlot_16 : decode cX2_noteSlot 16 = .ok (.invokeinterface 52 2, 5) := by decide +kernel
theorem dX2_noteSlot_21 : decode cX2_noteSlot 21 = .ok (.pop, 1) := by decide +kernel
theorem dX2_noteSlot_22 : decode cX2_noteSlot 22 = .ok (.aload_n 1, 1) := by decide +kernel
theorem dX2_noteSlot_23 : decode cX2_noteSlot 23 = .ok (.aload_n 0, 1) := by decide +kernel
theorem dX2_noteSlot_24 : decode cX2_noteSlot 24 = .ok (.getfield 24, 3) := by decide +kernel
theorem dX2_noteSlot_27 : decode cX2_noteSlot 27 = .ok (.invokeinterface 39 1, 5) := by decide +kernel
theorem dX2_noteSlot_32 : decode cX2_noteSlot 32 = .ok (.putfield 105, 3) := by decide +kernel
theorem dX2_noteSlot_35 : decode cX2_noteSlot 35 = .ok (.return_, 1) := by decide +kernel
theorem dX3_init_0 : decode cX3_init 0 = .ok (.aload_n 0, 1) := by decide +kernel
theorem dX3_init_1 : decode cX3_init 1 = .ok (.invokespecial 3, 3) := by decide +kernel
theorem dX3_init_4 : decode cX3_init 4 = .ok (.aload_n 0, 1) := by decide +kernel
theorem dX3_init_5 : decode cX3_init 5 = .ok (.sipush 2720, 3) := by decide +kernel
theorem dX3_init_8 : decode cX3_init 8 = .ok (.newarray .long, 2) := by decide +kernel
theorem dX3_init_10 : decode cX3_init 10 = .ok (.putfield 9, 3) := by decide +kernel
theorem dX3_init_13 : decode cX3_init 13 = .ok (.aload_n 0, 1) := by decide +kernel
theorem dX3_init_14 : decode cX3_init 14 = .ok (.bipush 40, 2) := by decide +kernel
theorem dX3_init_16 : decode cX3_init 16 = .ok (.anewarray 15, 3) := by decide +kernel
theorem dX3_init_19 : decode cX3_init 19 = .ok (.putfield 17, 3) := by decide +kernel
theorem dX3_init_22 : decode cX3_init 22 = .ok (.aload_n 0, 1) := by decide +kernel
theorem dX3_init_23 : decode cX3_init 23 = .ok (.bipush 40, 2) := by decide +kernel
theorem dX3_init_25 : decode cX3_init 25 = .ok (.newarray .int, 2) := by decide +kernel
theorem dX3_init_27 : decode cX3_init 27 = .ok (.putfield 21, 3) := by decide +kernel
theorem dX3_init_30 : decode cX3_init 30 = .ok (.aload_n 0, 1) := by decide +kernel
theorem dX3_init_31 : decode cX3_init 31 = .ok (.bipush 40, 2) := by decide +kernel
theorem dX3_init_33 : decode cX3_init 33 = .ok (.newarray .int, 2) := by decide +kernel
theorem dX3_init_35 : decode cX3_init 35 = .ok (.putfield 25, 3) := by decide +kernel
theorem dX3_init_38 : decode cX3_init 38 = .ok (.aload_n 0, 1) := by decide +kernel
theorem dX3_init_39 : decode cX3_init 39 = .ok (.sipush 1024, 3) := by decide +kernel
theorem dX3_init_42 : decode cX3_init 42 = .ok (.newarray .byte, 2) := by decide +kernel
theorem dX3_init_44 : decode cX3_init 44 = .ok (.putfield 28, 3) := by decide +kernel
theorem dX3_init_47 : decode cX3_init 47 = .ok (.aload_n 0, 1) := by decide +kernel
theorem dX3_init_48 : decode cX3_init 48 = .ok (.aconst_null, 1) := by decide +kernel
theorem dX3_init_49 : decode cX3_init 49 = .ok (.putfield 32, 3) := by decide +kernel
theorem dX3_init_52 : decode cX3_init 52 = .ok (.return_, 1) := by decide +kernel
theorem dX3_prepare_0 : decode cX3_prepare 0 = .ok (.aload_n 0, 1) := by decide +kernel
theorem dX3_prepare_1 : decode cX3_prepare 1 = .ok (.aload_n 1, 1) := by decide +kernel
theorem dX3_prepare_2 : decode cX3_prepare 2 = .ok (.getfield 36, 3) := by decide +kernel
theorem dX3_prepare_5 : decode cX3_prepare 5 = .ok (.putfield 32, 3) := by decide +kernel
theorem dX3_prepare_8 : decode cX3_prepare 8 = .ok (.aload_n 0, 1) := by decide +kernel
theorem dX3_prepare_9 : decode cX3_prepare 9 = .ok (.getfield 28, 3) := by decide +kernel
theorem dX3_prepare_12 : decode cX3_prepare 12 = .ok (.iconst 0, 1) := by decide +kernel
theorem dX3_prepare_13 : decode cX3_prepare 13 = .ok (.invokestatic 39, 3) := by decide +kernel
theorem dX3_prepare_16 : decode cX3_prepare 16 = .ok (.iconst 0, 1) := by decide +kernel
theorem dX3_prepare_17 : decode cX3_prepare 17 = .ok (.istore_n 2, 1) := by decide +kernel
theorem dX3_prepare_18 : decode cX3_prepare 18 = .ok (.iload_n 2, 1) := by decide +kernel
theorem dX3_prepare_19 : decode cX3_prepare 19 = .ok (.aload_n 1, 1) := by decide +kernel
theorem dX3_prepare_20 : decode cX3_prepare 20 = .ok (.getfield 45, 3) := by decide +kernel
theorem dX3_prepare_23 : decode cX3_prepare 23 = .ok (.invokeinterface 48 1, 5) := by decide +kernel
theorem dX3_prepare_28 : decode cX3_prepare 28 = .ok (.if_icmp .ge 44, 3) := by decide +kernel
theorem dX3_prepare_31 : decode cX3_prepare 31 = .ok (.aload_n 1, 1) := by decide +kernel
theorem dX3_prepare_32 : decode cX3_prepare 32 = .ok (.getfield 45, 3) := by decide +kernel
theorem dX3_prepare_35 : decode cX3_prepare 35 = .ok (.iload_n 2, 1) := by decide +kernel
theorem dX3_prepare_36 : decode cX3_prepare 36 = .ok (.invokeinterface 54 2, 5) := by decide +kernel
theorem dX3_prepare_41 : decode cX3_prepare 41 = .ok (.checkcast 58, 3) := by decide +kernel
theorem dX3_prepare_44 : decode cX3_prepare 44 = .ok (.astore_n 3, 1) := by decide +kernel
theorem dX3_prepare_45 : decode cX3_prepare 45 = .ok (.aload_n 3, 1) := by decide +kernel
theorem dX3_prepare_46 : decode cX3_prepare 46 = .ok (.getfield 60, 3) := by decide +kernel
theorem dX3_prepare_49 : decode cX3_prepare 49 = .ok (.iconst 0, 1) := by decide +kernel
theorem dX3_prepare_50 : decode cX3_prepare 50 = .ok (.aload_n 0, 1) := by decide +kernel
theorem dX3_prepare_51 : decode cX3_prepare 51 = .ok (.getfield 28, 3) := by decide +kernel
theorem dX3_prepare_54 : decode cX3_prepare 54 = .ok (.aload_n 3, 1) := by decide +kernel
theorem dX3_prepare_55 : decode cX3_prepare 55 = .ok (.getfield 61, 3) := by decide +kernel
theorem dX3_prepare_58 : decode cX3_prepare 58 = .ok (.aload_n 3, 1) := by decide +kernel
theorem dX3_prepare_59 : decode cX3_prepare 59 = .ok (.getfield 60, 3) := by decide +kernel
theorem dX3_prepare_62 : decode cX3_prepare 62 = .ok (.arraylength, 1) := by decide +kernel
theorem dX3_prepare_63 : decode cX3_prepare 63 = .ok (.invokestatic 65, 3) := by decide +kernel
theorem dX3_prepare_66 : decode cX3_prepare 66 = .ok (.iinc 2 1, 3) := by decide +kernel
theorem dX3_prepare_69 : decode cX3_prepare 69 = .ok (.goto (-51), 3) := by decide +kernel
theorem dX3_prepare_72 : decode cX3_prepare 72 = .ok (.aload_n 0, 1) := by decide +kernel
theorem dX3_prepare_73 : decode cX3_prepare 73 = .ok (.iconst 0, 1) := by decide +kernel
theorem dX3_prepare_74 : decode cX3_prepare 74 = .ok (.putfield 71, 3) := by decide +kernel
theorem dX3_prepare_77 : decode cX3_prepare 77 = .ok (.aload_n 0, 1) := by decide +kernel
theorem dX3_prepare_78 : decode cX3_prepare 78 = .ok (.iconst 0, 1) := by decide +kernel
theorem dX3_prepare_79 : decode cX3_prepare 79 = .ok (.putfield 74, 3) := by decide +kernel
theorem dX3_prepare_82 : decode cX3_prepare 82 = .ok (.aload_n 0, 1) := by decide +kernel
theorem dX3_prepare_83 : decode cX3_prepare 83 = .ok (.iconst (-1), 1) := by decide +kernel
theorem dX3_prepare_84 : decode cX3_prepare 84 = .ok (.putfield 77, 3) := by decide +kernel
theorem dX3_prepare_87 : decode cX3_prepare 87 = .ok (.aload_n 0, 1) := by decide +kernel
theorem dX3_prepare_88 : decode cX3_prepare 88 = .ok (.lconst 0, 1) := by decide +kernel
theorem dX3_prepare_89 : decode cX3_prepare 89 = .ok (.putfield 80, 3) := by decide +kernel
theorem dX3_prepare_92 : decode cX3_prepare 92 = .ok (.aload_n 0, 1) := by decide +kernel
theorem dX3_prepare_93 : decode cX3_prepare 93 = .ok (.iconst 0, 1) := by decide +kernel
theorem dX3_prepare_94 : decode cX3_prepare 94 = .ok (.putfield 84, 3) := by decide +kernel
theorem dX3_prepare_97 : decode cX3_prepare 97 = .ok (.aload_n 0, 1) := by decide +kernel
theorem dX3_prepare_98 : decode cX3_prepare 98 = .ok (.iconst 0, 1) := by decide +kernel
theorem dX3_prepare_99 : decode cX3_prepare 99 = .ok (.putfield 87, 3) := by decide +kernel
theorem dX3_prepare_102 : decode cX3_prepare 102 = .ok (.return_, 1) := by decide +kernel
theorem dX3_perform_0 : decode cX3_perform 0 = .ok (.iconst 0, 1) := by decide +kernel
theorem dX3_perform_1 : decode cX3_perform 1 = .ok (.istore 7, 2) := by decide +kernel
theorem dX3_perform_3 : decode cX3_perform 3 = .ok (.iload 7, 2) := by decide +kernel
theorem dX3_perform_5 : decode cX3_perform 5 = .ok (.aload_n 1, 1) := by decide +kernel
theorem dX3_perform_6 : decode cX3_perform 6 = .ok (.getfield 90, 3) := by decide +kernel
theorem dX3_perform_9 : decode cX3_perform 9 = .ok (.if_icmp .ge 34, 3) := by decide +kernel
theorem dX3_perform_12 : decode cX3_perform 12 = .ok (.aload_n 0, 1) := by decide +kernel
theorem dX3_perform_13 : decode cX3_perform 13 = .ok (.iload 7, 2) := by decide +kernel
theorem dX3_perform_15 : decode cX3_perform 15 = .ok (.ifCond .ne 7, 3) := by decide +kernel
theorem dX3_perform_18 : decode cX3_perform 18 = .ok (.lload_n 2, 1) := by decide +kernel
theorem dX3_perform_19 : decode cX3_perform 19 = .ok (.goto 15, 3) := by decide +kernel
theorem dX3_perform_22 : decode cX3_perform 22 = .ok (.iload 7, 2) := by decide +kernel
theorem dX3_perform_24 : decode cX3_perform 24 = .ok (.iconst 1, 1) := by decide +kernel
theorem dX3_perform_25 : decode cX3_perform 25 = .ok (.if_icmp .ne 8, 3) := by decide +kernel
theorem dX3_perform_28 : decode cX3_perform 28 = .ok (.lload 4, 2) := by decide +kernel
theorem dX3_perform_30 : decode cX3_perform 30 = .ok (.goto 4, 3) := by decide +kernel
theorem dX3_perform_33 : decode cX3_perform 33 = .ok (.lconst 0, 1) := by decide +kernel
theorem dX3_perform_34 : decode cX3_perform 34 = .ok (.invokevirtual 93, 3) := by decide +kernel
theorem dX3_perform_37 : decode cX3_perform 37 = .ok (.iinc 7 1, 3) := by decide +kernel
theorem dX3_perform_40 : decode cX3_perform 40 = .ok (.goto (-37), 3) := by decide +kernel
theorem dX3_perform_43 : decode cX3_perform 43 = .ok (.aload_n 0, 1) := by decide +kernel
theorem dX3_perform_44 : decode cX3_perform 44 = .ok (.aload_n 1, 1) := by decide +kernel
theorem dX3_perform_45 : decode cX3_perform 45 = .ok (.invokevirtual 97, 3) := by decide +kernel
theorem dX3_perform_48 : decode cX3_perform 48 = .ok (.aload_n 0, 1) := by decide +kernel
theorem dX3_perform_49 : decode cX3_perform 49 = .ok (.invokevirtual 101, 3) := by decide +kernel
theorem dX3_perform_52 : decode cX3_perform 52 = .ok (.aload_n 0, 1) := by decide +kernel
theorem dX3_perform_53 : decode cX3_perform 53 = .ok (.getfield 77, 3) := by decide +kernel
theorem dX3_perform_56 : decode cX3_perform 56 = .ok (.iconst (-1), 1) := by decide +kernel
theorem dX3_perform_57 : decode cX3_perform 57 = .ok (.if_icmp .ne 33, 3) := by decide +kernel
theorem dX3_perform_60 : decode cX3_perform 60 = .ok (.aload_n 0, 1) := by decide +kernel
theorem dX3_perform_61 : decode cX3_perform 61 = .ok (.getfield 84, 3) := by decide +kernel
theorem dX3_perform_64 : decode cX3_perform 64 = .ok (.iload 6, 2) := by decide +kernel
theorem dX3_perform_66 : decode cX3_perform 66 = .ok (.if_icmp .ge 24, 3) := by decide +kernel
theorem dX3_perform_69 : decode cX3_perform 69 = .ok (.aload_n 0, 1) := by decide +kernel
theorem dX3_perform_70 : decode cX3_perform 70 = .ok (.dup, 1) := by decide +kernel
theorem dX3_perform_71 : decode cX3_perform 71 = .ok (.getfield 84, 3) := by decide +kernel
theorem dX3_perform_74 : decode cX3_perform 74 = .ok (.iconst 1, 1) := by decide +kernel
theorem dX3_perform_75 : decode cX3_perform 75 = .ok (.iadd, 1) := by decide +kernel
theorem dX3_perform_76 : decode cX3_perform 76 = .ok (.putfield 84, 3) := by decide +kernel
theorem dX3_perform_79 : decode cX3_perform 79 = .ok (.aload_n 0, 1) := by decide +kernel
theorem dX3_perform_80 : decode cX3_perform 80 = .ok (.invokevirtual 104, 3) := by decide +kernel
theorem dX3_perform_83 : decode cX3_perform 83 = .ok (.aload_n 0, 1) := by decide +kernel
theorem dX3_perform_84 : decode cX3_perform 84 = .ok (.invokevirtual 101, 3) := by decide +kernel
theorem dX3_perform_87 : decode cX3_perform 87 = .ok (.goto (-35), 3) := by decide +kernel
theorem dX3_perform_90 : decode cX3_perform 90 = .ok (.aload_n 0, 1) := by decide +kernel
theorem dX3_perform_91 : decode cX3_perform 91 = .ok (.getfield 77, 3) := by decide +kernel
theorem dX3_perform_94 : decode cX3_perform 94 = .ok (.iconst (-1), 1) := by decide +kernel
theorem dX3_perform_95 : decode cX3_perform 95 = .ok (.if_icmp .ne 8, 3) := by decide +kernel
theorem dX3_perform_98 : decode cX3_perform 98 = .ok (.aload_n 0, 1) := by decide +kernel
theorem dX3_perform_99 : decode cX3_perform 99 = .ok (.iconst 1, 1) := by decide +kernel
theorem dX3_perform_100 : decode cX3_perform 100 = .ok (.putfield 77, 3) := by decide +kernel
theorem dX3_perform_103 : decode cX3_perform 103 = .ok (.aload_n 0, 1) := by decide +kernel
theorem dX3_perform_104 : decode cX3_perform 104 = .ok (.getfield 77, 3) := by decide +kernel
theorem dX3_perform_107 : decode cX3_perform 107 = .ok (.ireturn, 1) := by decide +kernel
theorem dX3_enter_0 : decode cX3_enter 0 = .ok (.aload_n 0, 1) := by decide +kernel
theorem dX3_enter_1 : decode cX3_enter 1 = .ok (.getfield 74, 3) := by decide +kernel
theorem dX3_enter_4 : decode cX3_enter 4 = .ok (.bipush 40, 2) := by decide +kernel
theorem dX3_enter_6 : decode cX3_enter 6 = .ok (.if_icmp .lt 10, 3) := by decide +kernel
theorem dX3_enter_9 : decode cX3_enter 9 = .ok (.aload_n 0, 1) := by decide +kernel
theorem dX3_enter_10 : decode cX3_enter 10 = .ok (.bipush 6, 2) := by decide +kernel
theorem dX3_enter_12 : decode cX3_enter 12 = .ok (.putfield 77, 3) := by decide +kernel
theorem dX3_enter_15 : decode cX3_enter 15 = .ok (.return_, 1) := by decide +kernel
theorem dX3_enter_16 : decode cX3_enter 16 = .ok (.aload_n 0, 1) := by decide +kernel
theorem dX3_enter_17 : decode cX3_enter 17 = .ok (.getfield 17, 3) := by decide +kernel
theorem dX3_enter_20 : decode cX3_enter 20 = .ok (.aload_n 0, 1) := by decide +kernel
theorem dX3_enter_21 : decode cX3_enter 21 = .ok (.getfield 74, 3) := by decide +kernel
theorem dX3_enter_24 : decode cX3_enter 24 = .ok (.aload_n 1, 1) := by decide +kernel
theorem dX3_enter_25 : decode cX3_enter 25 = .ok (.aastore, 1) := by decide +kernel
theorem dX3_enter_26 : decode cX3_enter 26 = .ok (.aload_n 0, 1) := by decide +kernel
theorem dX3_enter_27 : decode cX3_enter 27 = .ok (.getfield 21, 3) := by decide +kernel
theorem dX3_enter_30 : decode cX3_enter 30 = .ok (.aload_n 0, 1) := by decide +kernel
theorem dX3_enter_31 : decode cX3_enter 31 = .ok (.getfield 74, 3) := by decide +kernel
theorem dX3_enter_34 : decode cX3_enter 34 = .ok (.iconst 0, 1) := by decide +kernel
theorem dX3_enter_35 : decode cX3_enter 35 = .ok (.iastore, 1) := by decide +kernel
theorem dX3_enter_36 : decode cX3_enter 36 = .ok (.aload_n 0, 1) := by decide +kernel
theorem dX3_enter_37 : decode cX3_enter 37 = .ok (.getfield 25, 3) := by decide +kernel
theorem dX3_enter_40 : decode cX3_enter 40 = .ok (.aload_n 0, 1) := by decide +kernel
theorem dX3_enter_41 : decode cX3_enter 41 = .ok (.getfield 74, 3) := by decide +kernel
theorem dX3_enter_44 : decode cX3_enter 44 = .ok (.aload_n 0, 1) := by decide +kernel
theorem dX3_enter_45 : decode cX3_enter 45 = .ok (.getfield 71, 3) := by decide +kernel
theorem dX3_enter_48 : decode cX3_enter 48 = .ok (.aload_n 1, 1) := by decide +kernel
theorem dX3_enter_49 : decode cX3_enter 49 = .ok (.getfield 90, 3) := by decide +kernel
theorem dX3_enter_52 : decode cX3_enter 52 = .ok (.isub, 1) := by decide +kernel
theorem dX3_enter_53 : decode cX3_enter 53 = .ok (.iastore, 1) := by decide +kernel
theorem dX3_enter_54 : decode cX3_enter 54 = .ok (.aload_n 0, 1) := by decide +kernel
theorem dX3_enter_55 : decode cX3_enter 55 = .ok (.dup, 1) := by decide +kernel
theorem dX3_enter_56 : decode cX3_enter 56 = .ok (.getfield 74, 3) := by decide +kernel
theorem dX3_enter_59 : decode cX3_enter 59 = .ok (.iconst 1, 1) := by decide +kernel
theorem dX3_enter_60 : decode cX3_enter 60 = .ok (.iadd, 1) := by decide +kernel
theorem dX3_enter_61 : decode cX3_enter 61 = .ok (.putfield 74, 3) := by decide +kernel
theorem dX3_enter_64 : decode cX3_enter 64 = .ok (.aload_n 0, 1) := by decide +kernel
theorem dX3_enter_65 : decode cX3_enter 65 = .ok (.aload_n 0, 1) := by decide +kernel
theorem dX3_enter_66 : decode cX3_enter 66 = .ok (.getfield 87, 3) := by decide +kernel
theorem dX3_enter_69 : decode cX3_enter 69 = .ok (.aload_n 0, 1) := by decide +kernel
theorem dX3_enter_70 : decode cX3_enter 70 = .ok (.getfield 74, 3) := by decide +kernel
theorem dX3_enter_73 : decode cX3_enter 73 = .ok (.invokestatic 107, 3) := by decide +kernel
theorem dX3_enter_76 : decode cX3_enter 76 = .ok (.putfield 87, 3) := by decide +kernel
theorem dX3_enter_79 : decode cX3_enter 79 = .ok (.iconst 0, 1) := by decide +kernel
theorem dX3_enter_80 : decode cX3_enter 80 = .ok (.istore_n 2, 1) := by decide +kernel
theorem dX3_enter_81 : decode cX3_enter 81 = .ok (.iload_n 2, 1) := by decide +kernel
theorem dX3_enter_82 : decode cX3_enter 82 = .ok (.aload_n 1, 1) := by decide +kernel
theorem dX3_enter_83 : decode cX3_enter 83 = .ok (.getfield 113, 3) := by decide +kernel
theorem dX3_enter_86 : decode cX3_enter 86 = .ok (.if_icmp .ge 14, 3) := by decide +kernel
theorem dX3_enter_89 : decode cX3_enter 89 = .ok (.aload_n 0, 1) := by decide +kernel
theorem dX3_enter_90 : decode cX3_enter 90 = .ok (.lconst 0, 1) := by decide +kernel
theorem dX3_enter_91 : decode cX3_enter 91 = .ok (.invokevirtual 93, 3) := by decide +kernel
theorem dX3_enter_94 : decode cX3_enter 94 = .ok (.iinc 2 1, 3) := by decide +kernel
theorem dX3_enter_97 : decode cX3_enter 97 = .ok (.goto (-16), 3) := by decide +kernel
theorem dX3_enter_100 : decode cX3_enter 100 = .ok (.return_, 1) := by decide +kernel
theorem dX3_leaveEnded_0 : decode cX3_leaveEnded 0 = .ok (.aload_n 0, 1) := by decide +kernel
theorem dX3_leaveEnded_1 : decode cX3_leaveEnded 1 = .ok (.getfield 74, 3) := by decide +kernel
theorem dX3_leaveEnded_4 : decode cX3_leaveEnded 4 = .ok (.istore_n 1, 1) := by decide +kernel
theorem dX3_leaveEnded_5 : decode cX3_leaveEnded 5 = .ok (.iload_n 1, 1) := by decide +kernel
theorem dX3_leaveEnded_6 : decode cX3_leaveEnded 6 = .ok (.ifCond .le 44, 3) := by decide +kernel
theorem dX3_leaveEnded_9 : decode cX3_leaveEnded 9 = .ok (.aload_n 0, 1) := by decide +kernel
theorem dX3_leaveEnded_10 : decode cX3_leaveEnded 10 = .ok (.getfield 77, 3) := by decide +kernel
theorem dX3_leaveEnded_13 : decode cX3_leaveEnded 13 = .ok (.iconst (-1), 1) := by decide +kernel
theorem dX3_leaveEnded_14 : decode cX3_leaveEnded 14 = .ok (.if_icmp .ne 36, 3) := by decide +kernel
theorem dX3_leaveEnded_17 : decode cX3_leaveEnded 17 = .ok (.aload_n 0, 1) := by decide +kernel
theorem dX3_leaveEnded_18 : decode cX3_leaveEnded 18 = .ok (.getfield 21, 3) := by decide +kernel
theorem dX3_leaveEnded_21 : decode cX3_leaveEnded 21 = .ok (.iload_n 1, 1) := by decide +kernel
theorem dX3_leaveEnded_22 : decode cX3_leaveEnded 22 = .ok (.iconst 1, 1) := by decide +kernel
theorem dX3_leaveEnded_23 : decode cX3_leaveEnded 23 = .ok (.isub, 1) := by decide +kernel
theorem dX3_leaveEnded_24 : decode cX3_leaveEnded 24 = .ok (.iaload, 1) := by decide +kernel
theorem dX3_leaveEnded_25 : decode cX3_leaveEnded 25 = .ok (.aload_n 0, 1) := by decide +kernel
theorem dX3_leaveEnded_26 : decode cX3_leaveEnded 26 = .ok (.getfield 17, 3) := by decide +kernel
theorem dX3_leaveEnded_29 : decode cX3_leaveEnded 29 = .ok (.iload_n 1, 1) := by decide +kernel
theorem dX3_leaveEnded_30 : decode cX3_leaveEnded 30 = .ok (.iconst 1, 1) := by decide +kernel
theorem dX3_leaveEnded_31 : decode cX3_leaveEnded 31 = .ok (.isub, 1) := by decide +kernel
theorem dX3_leaveEnded_32 : decode cX3_leaveEnded 32 = .ok (.aaload, 1) := by decide +kernel
theorem dX3_leaveEnded_33 : decode cX3_leaveEnded 33 = .ok (.getfield 116, 3) := by decide +kernel
theorem dX3_leaveEnded_36 : decode cX3_leaveEnded 36 = .ok (.if_icmp .ge 4, 3) := by decide +kernel
theorem dX3_leaveEnded_39 : decode cX3_leaveEnded 39 = .ok (.return_, 1) := by decide +kernel
theorem dX3_leaveEnded_40 : decode cX3_leaveEnded 40 = .ok (.aload_n 0, 1) := by decide +kernel
theorem dX3_leaveEnded_41 : decode cX3_leaveEnded 41 = .ok (.invokevirtual 118, 3) := by decide +kernel
theorem dX3_leaveEnded_44 : decode cX3_leaveEnded 44 = .ok (.iinc 1 (-1), 3) := by decide +kernel
theorem dX3_leaveEnded_47 : decode cX3_leaveEnded 47 = .ok (.goto (-42), 3) := by decide +kernel
theorem dX3_leaveEnded_50 : decode cX3_leaveEnded 50 = .ok (.return_, 1) := by decide +kernel
theorem dX3_leave_0 : decode cX3_leave 0 = .ok (.aload_n 0, 1) := by decide +kernel
theorem dX3_leave_1 : decode cX3_leave 1 = .ok (.dup, 1) := by decide +kernel
theorem dX3_leave_2 : decode cX3_leave 2 = .ok (.getfield 74, 3) := by decide +kernel
theorem dX3_leave_5 : decode cX3_leave 5 = .ok (.iconst 1, 1) := by decide +kernel
theorem dX3_leave_6 : decode cX3_leave 6 = .ok (.isub, 1) := by decide +kernel
theorem dX3_leave_7 : decode cX3_leave 7 = .ok (.putfield 74, 3) := by decide +kernel
theorem dX3_leave_10 : decode cX3_leave 10 = .ok (.aload_n 0, 1) := by decide +kernel
theorem dX3_leave_11 : decode cX3_leave 11 = .ok (.getfield 17, 3) := by decide +kernel
theorem dX3_leave_14 : decode cX3_leave 14 = .ok (.aload_n 0, 1) := by decide +kernel
theorem dX3_leave_15 : decode cX3_leave 15 = .ok (.getfield 74, 3) := by decide +kernel
theorem dX3_leave_18 : decode cX3_leave 18 = .ok (.aaload, 1) := by decide +kernel
theorem dX3_leave_19 : decode cX3_leave 19 = .ok (.getfield 121, 3) := by decide +kernel
theorem dX3_leave_22 : decode cX3_leave 22 = .ok (.istore_n 1, 1) := by decide +kernel
theorem dX3_leave_23 : decode cX3_leave 23 = .ok (.aload_n 0, 1) := by decide +kernel
theorem dX3_leave_24 : decode cX3_leave 24 = .ok (.aload_n 0, 1) := by decide +kernel
theorem dX3_leave_25 : decode cX3_leave 25 = .ok (.getfield 25, 3) := by decide +kernel
theorem dX3_leave_28 : decode cX3_leave 28 = .ok (.aload_n 0, 1) := by decide +kernel
theorem dX3_leave_29 : decode cX3_leave 29 = .ok (.getfield 74, 3) := by decide +kernel
theorem dX3_leave_32 : decode cX3_leave 32 = .ok (.iaload, 1) := by decide +kernel
theorem dX3_leave_33 : decode cX3_leave 33 = .ok (.iload_n 1, 1) := by decide +kernel
theorem dX3_leave_34 : decode cX3_leave 34 = .ok (.invokevirtual 124, 3) := by decide +kernel
theorem dX3_leave_37 : decode cX3_leave 37 = .ok (.aload_n 0, 1) := by decide +kernel
theorem dX3_leave_38 : decode cX3_leave 38 = .ok (.getfield 74, 3) := by decide +kernel
theorem dX3_leave_41 : decode cX3_leave 41 = .ok (.ifCond .ne 24, 3) := by decide +kernel
theorem dX3_leave_44 : decode cX3_leave 44 = .ok (.aload_n 0, 1) := by decide +kernel
theorem dX3_leave_45 : decode cX3_leave 45 = .ok (.iconst 0, 1) := by decide +kernel
theorem dX3_leave_46 : decode cX3_leave 46 = .ok (.putfield 77, 3) := by decide +kernel
theorem dX3_leave_49 : decode cX3_leave 49 = .ok (.aload_n 0, 1) := by decide +kernel
theorem dX3_leave_50 : decode cX3_leave 50 = .ok (.iload_n 1, 1) := by decide +kernel
theorem dX3_leave_51 : decode cX3_leave 51 = .ok (.ifCond .ne 7, 3) := by decide +kernel
theorem dX3_leave_54 : decode cX3_leave 54 = .ok (.lconst 0, 1) := by decide +kernel
theorem dX3_leave_55 : decode cX3_leave 55 = .ok (.goto 7, 3) := by decide +kernel
theorem dX3_leave_58 : decode cX3_leave 58 = .ok (.aload_n 0, 1) := by decide +kernel
theorem dX3_leave_59 : decode cX3_leave 59 = .ok (.invokevirtual 128, 3) := by decide +kernel
theorem dX3_leave_62 : decode cX3_leave 62 = .ok (.putfield 80, 3) := by decide +kernel
theorem dX3_leave_65 : decode cX3_leave 65 = .ok (.return_, 1) := by decide +kernel
theorem dX3_step_0 : decode cX3_step 0 = .ok (.aload_n 0, 1) := by decide +kernel
theorem dX3_step_1 : decode cX3_step 1 = .ok (.getfield 17, 3) := by decide +kernel
theorem dX3_step_4 : decode cX3_step 4 = .ok (.aload_n 0, 1) := by decide +kernel
theorem dX3_step_5 : decode cX3_step 5 = .ok (.getfield 74, 3) := by decide +kernel
theorem dX3_step_8 : decode cX3_step 8 = .ok (.iconst 1, 1) := by decide +kernel
theorem dX3_step_9 : decode cX3_step 9 = .ok (.isub, 1) := by decide +kernel
theorem dX3_step_10 : decode cX3_step 10 = .ok (.aaload, 1) := by decide +kernel
theorem dX3_step_11 : decode cX3_step 11 = .ok (.astore_n 1, 1) := by decide +kernel
theorem dX3_step_12 : decode cX3_step 12 = .ok (.aload_n 0, 1) := by decide +kernel
theorem dX3_step_13 : decode cX3_step 13 = .ok (.getfield 21, 3) := by decide +kernel
theorem dX3_step_16 : decode cX3_step 16 = .ok (.aload_n 0, 1) := by decide +kernel
theorem dX3_step_17 : decode cX3_step 17 = .ok (.getfield 74, 3) := by decide +kernel
theorem dX3_step_20 : decode cX3_step 20 = .ok (.iconst 1, 1) := by decide +kernel
theorem dX3_step_21 : decode cX3_step 21 = .ok (.isub, 1) := by decide +kernel
theorem dX3_step_22 : decode cX3_step 22 = .ok (.iaload, 1) := by decide +kernel
theorem dX3_step_23 : decode cX3_step 23 = .ok (.istore_n 2, 1) := by decide +kernel
theorem dX3_step_24 : decode cX3_step 24 = .ok (.aload_n 1, 1) := by decide +kernel
theorem dX3_step_25 : decode cX3_step 25 = .ok (.getfield 132, 3) := by decide +kernel
theorem dX3_step_28 : decode cX3_step 28 = .ok (.iload_n 2, 1) := by decide +kernel
theorem dX3_step_29 : decode cX3_step 29 = .ok (.iaload, 1) := by decide +kernel
theorem dX3_step_30 : decode cX3_step 30 = .ok (.istore_n 3, 1) := by decide +kernel
theorem dX3_step_31 : decode cX3_step 31 = .ok (.aload_n 0, 1) := by decide +kernel
theorem dX3_step_32 : decode cX3_step 32 = .ok (.getfield 21, 3) := by decide +kernel
theorem dX3_step_35 : decode cX3_step 35 = .ok (.aload_n 0, 1) := by decide +kernel
theorem dX3_step_36 : decode cX3_step 36 = .ok (.getfield 74, 3) := by decide +kernel
theorem dX3_step_39 : decode cX3_step 39 = .ok (.iconst 1, 1) := by decide +kernel
theorem dX3_step_40 : decode cX3_step 40 = .ok (.isub, 1) := by decide +kernel
theorem dX3_step_41 : decode cX3_step 41 = .ok (.iload_n 2, 1) := by decide +kernel
theorem dX3_step_42 : decode cX3_step 42 = .ok (.iconst 1, 1) := by decide +kernel
theorem dX3_step_43 : decode cX3_step 43 = .ok (.iadd, 1) := by decide +kernel
theorem dX3_step_44 : decode cX3_step 44 = .ok (.iastore, 1) := by decide +kernel
theorem dX3_step_45 : decode cX3_step 45 = .ok (.iload_n 3, 1) := by decide +kernel
theorem dX3_step_46 : decode cX3_step 46 = .ok (.iconst 3, 1) := by decide +kernel
theorem dX3_step_47 : decode cX3_step 47 = .ok (.if_icmp .lt 17, 3) := by decide +kernel
theorem dX3_step_50 : decode cX3_step 50 = .ok (.iload_n 3, 1) := by decide +kernel
theorem dX3_step_51 : decode cX3_step 51 = .ok (.bipush 16, 2) := by decide +kernel
theorem dX3_step_53 : decode cX3_step 53 = .ok (.if_icmp .gt 11, 3) := by decide +kernel
theorem dX3_step_56 : decode cX3_step 56 = .ok (.aload_n 0, 1) := by decide +kernel
theorem dX3_step_57 : decode cX3_step 57 = .ok (.iload_n 3, 1) := by decide +kernel
theorem dX3_step_58 : decode cX3_step 58 = .ok (.invokevirtual 137, 3) := by decide +kernel
theorem dX3_step_61 : decode cX3_step 61 = .ok (.goto 93, 3) := by decide +kernel
theorem dX3_step_64 : decode cX3_step 64 = .ok (.iload_n 3, 1) := by decide +kernel
theorem dX3_step_65 : decode cX3_step 65 = .ok (.bipush 19, 2) := by decide +kernel
theorem dX3_step_67 : decode cX3_step 67 = .ok (.if_icmp .lt 23, 3) := by decide +kernel
theorem dX3_step_70 : decode cX3_step 70 = .ok (.iload_n 3, 1) := by decide +kernel
theorem dX3_step_71 : decode cX3_step 71 = .ok (.bipush 22, 2) := by decide +kernel
theorem dX3_step_73 : decode cX3_step 73 = .ok (.if_icmp .gt 17, 3) := by decide +kernel
theorem dX3_step_76 : decode cX3_step 76 = .ok (.aload_n 0, 1) := by decide +kernel
theorem dX3_step_77 : decode cX3_step 77 = .ok (.iload_n 3, 1) := by decide +kernel
theorem dX3_step_78 : decode cX3_step 78 = .ok (.aload_n 1, 1) := by decide +kernel
theorem dX3_step_79 : decode cX3_step 79 = .ok (.getfield 141, 3) := by decide +kernel
theorem dX3_step_82 : decode cX3_step 82 = .ok (.iload_n 2, 1) := by decide +kernel
theorem dX3_step_83 : decode cX3_step 83 = .ok (.iaload, 1) := by decide +kernel
theorem dX3_step_84 : decode cX3_step 84 = .ok (.invokevirtual 144, 3) := by decide +kernel
theorem dX3_step_87 : decode cX3_step 87 = .ok (.goto 67, 3) := by decide +kernel
theorem dX3_step_90 : decode cX3_step 90 = .ok (.iload_n 3, 1) := by decide +kernel
theorem dX3_step_91 : decode cX3_step 91 = .ok (.bipush 23, 2) := by decide +kernel
theorem dX3_step_93 : decode cX3_step 93 = .ok (.if_icmp .lt 18, 3) := by decide +kernel
theorem dX3_step_96 : decode cX3_step 96 = .ok (.iload_n 3, 1) := by decide +kernel
theorem dX3_step_97 : decode cX3_step 97 = .ok (.bipush 30, 2) := by decide +kernel
theorem dX3_step_99 : decode cX3_step 99 = .ok (.if_icmp .gt 12, 3) := by decide +kernel
theorem dX3_step_102 : decode cX3_step 102 = .ok (.aload_n 0, 1) := by decide +kernel
theorem dX3_step_103 : decode cX3_step 103 = .ok (.aload_n 1, 1) := by decide +kernel
theorem dX3_step_104 : decode cX3_step 104 = .ok (.iload_n 2, 1) := by decide +kernel
theorem dX3_step_105 : decode cX3_step 105 = .ok (.invokevirtual 147, 3) := by decide +kernel
theorem dX3_step_108 : decode cX3_step 108 = .ok (.goto 46, 3) := by decide +kernel
theorem dX3_step_111 : decode cX3_step 111 = .ok (.iload_n 3, 1) := by decide +kernel
theorem dX3_step_112 : decode cX3_step 112 = .ok (.bipush 31, 2) := by decide +kernel
theorem dX3_step_114 : decode cX3_step 114 = .ok (.if_icmp .ne 15, 3) := by decide +kernel
theorem dX3_step_117 : decode cX3_step 117 = .ok (.aload_n 0, 1) := by decide +kernel
theorem dX3_step_118 : decode cX3_step 118 = .ok (.aload_n 1, 1) := by decide +kernel
theorem dX3_step_119 : decode cX3_step 119 = .ok (.iload_n 2, 1) := by decide +kernel
theorem dX3_step_120 : decode cX3_step 120 = .ok (.invokevirtual 151, 3) := by decide +kernel
theorem dX3_step_123 : decode cX3_step 123 = .ok (.invokevirtual 155, 3) := by decide +kernel
theorem dX3_step_126 : decode cX3_step 126 = .ok (.goto 28, 3) := by decide +kernel
theorem dX3_step_129 : decode cX3_step 129 = .ok (.iload_n 3, 1) := by decide +kernel
theorem dX3_step_130 : decode cX3_step 130 = .ok (.bipush 32, 2) := by decide +kernel
theorem dX3_step_132 : decode cX3_step 132 = .ok (.if_icmp .ne 16, 3) := by decide +kernel
theorem dX3_step_135 : decode cX3_step 135 = .ok (.aload_n 0, 1) := by decide +kernel
theorem dX3_step_136 : decode cX3_step 136 = .ok (.aload_n 1, 1) := by decide +kernel
theorem dX3_step_137 : decode cX3_step 137 = .ok (.getfield 141, 3) := by decide +kernel
theorem dX3_step_140 : decode cX3_step 140 = .ok (.iload_n 2, 1) := by decide +kernel
theorem dX3_step_141 : decode cX3_step 141 = .ok (.iaload, 1) := by decide +kernel
theorem dX3_step_142 : decode cX3_step 142 = .ok (.invokevirtual 158, 3) := by decide +kernel
theorem dX3_step_145 : decode cX3_step 145 = .ok (.goto 9, 3) := by decide +kernel
theorem dX3_step_148 : decode cX3_step 148 = .ok (.aload_n 0, 1) := by decide +kernel
theorem dX3_step_149 : decode cX3_step 149 = .ok (.aload_n 1, 1) := by decide +kernel
theorem dX3_step_150 : decode cX3_step 150 = .ok (.iload_n 2, 1) := by decide +kernel
theorem dX3_step_151 : decode cX3_step 151 = .ok (.invokevirtual 161, 3) := by decide +kernel
theorem dX3_step_154 : decode cX3_step 154 = .ok (.return_, 1) := by decide +kernel
theorem dX3_move_0 : decode cX3_move 0 = .ok (.aload_n 1, 1) := by decide +kernel
theorem dX3_move_1 : decode cX3_move 1 = .ok (.getfield 141, 3) := by decide +kernel
theorem dX3_move_4 : decode cX3_move 4 = .ok (.iload_n 2, 1) := by decide +kernel
theorem dX3_move_5 : decode cX3_move 5 = .ok (.iaload, 1) := by decide +kernel
theorem dX3_move_6 : decode cX3_move 6 = .ok (.istore_n 3, 1) := by decide +kernel
theorem dX3_move_7 : decode cX3_move 7 = .ok (.aload_n 1, 1) := by decide +kernel
theorem dX3_move_8 : decode cX3_move 8 = .ok (.getfield 132, 3) := by decide +kernel
theorem dX3_move_11 : decode cX3_move 11 = .ok (.iload_n 2, 1) := by decide +kernel
theorem dX3_move_12 : decode cX3_move 12 = .ok (.iaload, 1) := by decide +kernel
theorem dX3_move_13 : decode cX3_move 13 = .ok (.lookupswitch 167 #[(0, 67), (1, 76), (2, 101), (17, 126), (18, 133), (33, 141), (34, 154)], 67) := by decide +kernel
theorem dX3_move_80 : decode cX3_move 80 = .ok (.aload_n 0, 1) := by decide +kernel
theorem dX3_move_81 : decode cX3_move 81 = .ok (.iload_n 3, 1) := by decide +kernel
theorem dX3_move_82 : decode cX3_move 82 = .ok (.i2l, 1) := by decide +kernel
theorem dX3_move_83 : decode cX3_move 83 = .ok (.invokevirtual 93, 3) := by decide +kernel
theorem dX3_move_86 : decode cX3_move 86 = .ok (.goto 101, 3) := by decide +kernel
theorem dX3_move_89 : decode cX3_move 89 = .ok (.aload_n 0, 1) := by decide +kernel
theorem dX3_move_90 : decode cX3_move 90 = .ok (.aload_n 0, 1) := by decide +kernel
theorem dX3_move_91 : decode cX3_move 91 = .ok (.getfield 9, 3) := by decide +kernel
theorem dX3_move_94 : decode cX3_move 94 = .ok (.aload_n 0, 1) := by decide +kernel
theorem dX3_move_95 : decode cX3_move 95 = .ok (.getfield 25, 3) := by decide +kernel
theorem dX3_move_98 : decode cX3_move 98 = .ok (.aload_n 0, 1) := by decide +kernel
theorem dX3_move_99 : decode cX3_move 99 = .ok (.getfield 74, 3) := by decide +kernel
theorem dX3_move_102 : decode cX3_move 102 = .ok (.iconst 1, 1) := by decide +kernel
theorem dX3_move_103 : decode cX3_move 103 = .ok (.isub, 1) := by decide +kernel
theorem dX3_move_104 : decode cX3_move 104 = .ok (.iaload, 1) := by decide +kernel
theorem dX3_move_105 : decode cX3_move 105 = .ok (.iload_n 3, 1) := by decide +kernel
theorem dX3_move_106 : decode cX3_move 106 = .ok (.iadd, 1) := by decide +kernel
theorem dX3_move_107 : decode cX3_move 107 = .ok (.laload, 1) := by decide +kernel
theorem dX3_move_108 : decode cX3_move 108 = .ok (.invokevirtual 93, 3) := by decide +kernel
theorem dX3_move_111 : decode cX3_move 111 = .ok (.goto 76, 3) := by decide +kernel
theorem dX3_move_114 : decode cX3_move 114 = .ok (.aload_n 0, 1) := by decide +kernel
theorem dX3_move_115 : decode cX3_move 115 = .ok (.getfield 9, 3) := by decide +kernel
theorem dX3_move_118 : decode cX3_move 118 = .ok (.aload_n 0, 1) := by decide +kernel
theorem dX3_move_119 : decode cX3_move 119 = .ok (.getfield 25, 3) := by decide +kernel
theorem dX3_move_122 : decode cX3_move 122 = .ok (.aload_n 0, 1) := by decide +kernel
theorem dX3_move_123 : decode cX3_move 123 = .ok (.getfield 74, 3) := by decide +kernel
theorem dX3_move_126 : decode cX3_move 126 = .ok (.iconst 1, 1) := by decide +kernel
theorem dX3_move_127 : decode cX3_move 127 = .ok (.isub, 1) := by decide +kernel
theorem dX3_move_128 : decode cX3_move 128 = .ok (.iaload, 1) := by decide +kernel
theorem dX3_move_129 : decode cX3_move 129 = .ok (.iload_n 3, 1) := by decide +kernel
theorem dX3_move_130 : decode cX3_move 130 = .ok (.iadd, 1) := by decide +kernel
theorem dX3_move_131 : decode cX3_move 131 = .ok (.aload_n 0, 1) := by decide +kernel
theorem dX3_move_132 : decode cX3_move 132 = .ok (.invokevirtual 128, 3) := by decide +kernel
theorem dX3_move_135 : decode cX3_move 135 = .ok (.lastore, 1) := by decide +kernel
theorem dX3_move_136 : decode cX3_move 136 = .ok (.goto 51, 3) := by decide +kernel
theorem dX3_move_139 : decode cX3_move 139 = .ok (.aload_n 0, 1) := by decide +kernel
theorem dX3_move_140 : decode cX3_move 140 = .ok (.invokevirtual 164, 3) := by decide +kernel
theorem dX3_move_143 : decode cX3_move 143 = .ok (.goto 44, 3) := by decide +kernel
theorem dX3_move_146 : decode cX3_move 146 = .ok (.aload_n 0, 1) := by decide +kernel
theorem dX3_move_147 : decode cX3_move 147 = .ok (.invokevirtual 128, 3) := by decide +kernel
theorem dX3_move_150 : decode cX3_move 150 = .ok (.pop2, 1) := by decide +kernel
theorem dX3_move_151 : decode cX3_move 151 = .ok (.goto 36, 3) := by decide +kernel
theorem dX3_move_154 : decode cX3_move 154 = .ok (.aload_n 0, 1) := by decide +kernel
theorem dX3_move_155 : decode cX3_move 155 = .ok (.aload_n 1, 1) := by decide +kernel
theorem dX3_move_156 : decode cX3_move 156 = .ok (.iload_n 2, 1) := by decide +kernel
theorem dX3_move_157 : decode cX3_move 157 = .ok (.invokevirtual 167, 3) := by decide +kernel
theorem dX3_move_160 : decode cX3_move 160 = .ok (.i2l, 1) := by decide +kernel
theorem dX3_move_161 : decode cX3_move 161 = .ok (.invokevirtual 93, 3) := by decide +kernel
theorem dX3_move_164 : decode cX3_move 164 = .ok (.goto 23, 3) := by decide +kernel
theorem dX3_move_167 : decode cX3_move 167 = .ok (.aload_n 0, 1) := by decide +kernel
theorem dX3_move_168 : decode cX3_move 168 = .ok (.aload_n 1, 1) := by decide +kernel
theorem dX3_move_169 : decode cX3_move 169 = .ok (.iload_n 2, 1) := by decide +kernel
theorem dX3_move_170 : decode cX3_move 170 = .ok (.invokevirtual 171, 3) := by decide +kernel
theorem dX3_move_173 : decode cX3_move 173 = .ok (.i2l, 1) := by decide +kernel
theorem dX3_move_174 : decode cX3_move 174 = .ok (.invokevirtual 93, 3) := by decide +kernel
theorem dX3_move_177 : decode cX3_move 177 = .ok (.goto 10, 3) := by decide +kernel
theorem dX3_move_180 : decode cX3_move 180 = .ok (.aload_n 0, 1) := by decide +kernel
theorem dX3_move_181 : decode cX3_move 181 = .ok (.ldc2_w 174, 3) := by decide +kernel
theorem dX3_move_184 : decode cX3_move 184 = .ok (.invokevirtual 93, 3) := by decide +kernel
theorem dX3_move_187 : decode cX3_move 187 = .ok (.return_, 1) := by decide +kernel
theorem dX3_select_0 : decode cX3_select 0 = .ok (.aload_n 0, 1) := by decide +kernel
theorem dX3_select_1 : decode cX3_select 1 = .ok (.invokevirtual 128, 3) := by decide +kernel
theorem dX3_select_4 : decode cX3_select 4 = .ok (.lstore_n 1, 1) := by decide +kernel
theorem dX3_select_5 : decode cX3_select 5 = .ok (.aload_n 0, 1) := by decide +kernel
theorem dX3_select_6 : decode cX3_select 6 = .ok (.invokevirtual 128, 3) := by decide +kernel
theorem dX3_select_9 : decode cX3_select 9 = .ok (.lstore_n 3, 1) := by decide +kernel
theorem dX3_select_10 : decode cX3_select 10 = .ok (.aload_n 0, 1) := by decide +kernel
theorem dX3_select_11 : decode cX3_select 11 = .ok (.invokevirtual 128, 3) := by decide +kernel
theorem dX3_select_14 : decode cX3_select 14 = .ok (.lstore 5, 2) := by decide +kernel
theorem dX3_select_16 : decode cX3_select 16 = .ok (.aload_n 0, 1) := by decide +kernel
theorem dX3_select_17 : decode cX3_select 17 = .ok (.lload_n 1, 1) := by decide +kernel
theorem dX3_select_18 : decode cX3_select 18 = .ok (.lconst 0, 1) := by decide +kernel
theorem dX3_select_19 : decode cX3_select 19 = .ok (.lcmp, 1) := by decide +kernel
theorem dX3_select_20 : decode cX3_select 20 = .ok (.ifCond .eq 8, 3) := by decide +kernel
theorem dX3_select_23 : decode cX3_select 23 = .ok (.lload 5, 2) := by decide +kernel
theorem dX3_select_25 : decode cX3_select 25 = .ok (.goto 4, 3) := by decide +kernel
theorem dX3_select_28 : decode cX3_select 28 = .ok (.lload_n 3, 1) := by decide +kernel
theorem dX3_select_29 : decode cX3_select 29 = .ok (.invokevirtual 93, 3) := by decide +kernel
theorem dX3_select_32 : decode cX3_select 32 = .ok (.return_, 1) := by decide +kernel
theorem dX3_reckon_0 : decode cX3_reckon 0 = .ok (.aload_n 0, 1) := by decide +kernel
theorem dX3_reckon_1 : decode cX3_reckon 1 = .ok (.invokevirtual 128, 3) := by decide +kernel
theorem dX3_reckon_4 : decode cX3_reckon 4 = .ok (.lstore_n 2, 1) := by decide +kernel
theorem dX3_reckon_5 : decode cX3_reckon 5 = .ok (.aload_n 0, 1) := by decide +kernel
theorem dX3_reckon_6 : decode cX3_reckon 6 = .ok (.invokevirtual 128, 3) := by decide +kernel
theorem dX3_reckon_9 : decode cX3_reckon 9 = .ok (.lstore 4, 2) := by decide +kernel
theorem dX3_reckon_11 : decode cX3_reckon 11 = .ok (.iload_n 1, 1) := by decide +kernel
theorem dX3_reckon_12 : decode cX3_reckon 12 = .ok (.bipush 6, 2) := by decide +kernel
theorem dX3_reckon_14 : decode cX3_reckon 14 = .ok (.if_icmp .eq 9, 3) := by decide +kernel
theorem dX3_reckon_17 : decode cX3_reckon 17 = .ok (.iload_n 1, 1) := by decide +kernel
theorem dX3_reckon_18 : decode cX3_reckon 18 = .ok (.bipush 7, 2) := by decide +kernel
theorem dX3_reckon_20 : decode cX3_reckon 20 = .ok (.if_icmp .ne 14, 3) := by decide +kernel
theorem dX3_reckon_23 : decode cX3_reckon 23 = .ok (.aload_n 0, 1) := by decide +kernel
theorem dX3_reckon_24 : decode cX3_reckon 24 = .ok (.iload_n 1, 1) := by decide +kernel
theorem dX3_reckon_25 : decode cX3_reckon 25 = .ok (.lload 4, 2) := by decide +kernel
theorem dX3_reckon_27 : decode cX3_reckon 27 = .ok (.lload_n 2, 1) := by decide +kernel
theorem dX3_reckon_28 : decode cX3_reckon 28 = .ok (.invokevirtual 176, 3) := by decide +kernel
theorem dX3_reckon_31 : decode cX3_reckon 31 = .ok (.goto 14, 3) := by decide +kernel
theorem dX3_reckon_34 : decode cX3_reckon 34 = .ok (.aload_n 0, 1) := by decide +kernel
theorem dX3_reckon_35 : decode cX3_reckon 35 = .ok (.iload_n 1, 1) := by decide +kernel
theorem dX3_reckon_36 : decode cX3_reckon 36 = .ok (.lload 4, 2) := by decide +kernel
theorem dX3_reckon_38 : decode cX3_reckon 38 = .ok (.lload_n 2, 1) := by decide +kernel
theorem dX3_reckon_39 : decode cX3_reckon 39 = .ok (.invokestatic 180, 3) := by decide +kernel
theorem dX3_reckon_42 : decode cX3_reckon 42 = .ok (.invokevirtual 93, 3) := by decide +kernel
theorem dX3_reckon_45 : decode cX3_reckon 45 = .ok (.return_, 1) := by decide +kernel
theorem dX3_divide_0 : decode cX3_divide 0 = .ok (.lload 4, 2) := by decide +kernel
theorem dX3_divide_2 : decode cX3_divide 2 = .ok (.lconst 0, 1) := by decide +kernel
theorem dX3_divide_3 : decode cX3_divide 3 = .ok (.lcmp, 1) := by decide +kernel
theorem dX3_divide_4 : decode cX3_divide 4 = .ok (.ifCond .eq 26, 3) := by decide +kernel
theorem dX3_divide_7 : decode cX3_divide 7 = .ok (.iload_n 1, 1) := by decide +kernel
theorem dX3_divide_8 : decode cX3_divide 8 = .ok (.bipush 6, 2) := by decide +kernel
theorem dX3_divide_10 : decode cX3_divide 10 = .ok (.if_icmp .ne 28, 3) := by decide +kernel
theorem dX3_divide_13 : decode cX3_divide 13 = .ok (.lload_n 2, 1) := by decide +kernel
theorem dX3_divide_14 : decode cX3_divide 14 = .ok (.ldc2_w 183, 3) := by decide +kernel
theorem dX3_divide_17 : decode cX3_divide 17 = .ok (.lcmp, 1) := by decide +kernel
theorem dX3_divide_18 : decode cX3_divide 18 = .ok (.ifCond .ne 20, 3) := by decide +kernel
theorem dX3_divide_21 : decode cX3_divide 21 = .ok (.lload 4, 2) := by decide +kernel
theorem dX3_divide_23 : decode cX3_divide 23 = .ok (.ldc2_w 185, 3) := by decide +kernel
theorem dX3_divide_26 : decode cX3_divide 26 = .ok (.lcmp, 1) := by decide +kernel
theorem dX3_divide_27 : decode cX3_divide 27 = .ok (.ifCond .ne 11, 3) := by decide +kernel
theorem dX3_divide_30 : decode cX3_divide 30 = .ok (.aload_n 0, 1) := by decide +kernel
theorem dX3_divide_31 : decode cX3_divide 31 = .ok (.iconst 2, 1) := by decide +kernel
theorem dX3_divide_32 : decode cX3_divide 32 = .ok (.putfield 77, 3) := by decide +kernel
theorem dX3_divide_35 : decode cX3_divide 35 = .ok (.goto 24, 3) := by decide +kernel
theorem dX3_divide_38 : decode cX3_divide 38 = .ok (.aload_n 0, 1) := by decide +kernel
theorem dX3_divide_39 : decode cX3_divide 39 = .ok (.iload_n 1, 1) := by decide +kernel
theorem dX3_divide_40 : decode cX3_divide 40 = .ok (.bipush 6, 2) := by decide +kernel
theorem dX3_divide_42 : decode cX3_divide 42 = .ok (.if_icmp .ne 10, 3) := by decide +kernel
theorem dX3_divide_45 : decode cX3_divide 45 = .ok (.lload_n 2, 1) := by decide +kernel
theorem dX3_divide_46 : decode cX3_divide 46 = .ok (.lload 4, 2) := by decide +kernel
theorem dX3_divide_48 : decode cX3_divide 48 = .ok (.ldiv, 1) := by decide +kernel
theorem dX3_divide_49 : decode cX3_divide 49 = .ok (.goto 7, 3) := by decide +kernel
theorem dX3_divide_52 : decode cX3_divide 52 = .ok (.lload_n 2, 1) := by decide +kernel
