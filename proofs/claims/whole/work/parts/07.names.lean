theorem dX12_functionOf_28 : decode cX12_functionOf 28 = .ok (.ireturn, 1) := by decide +kernel
theorem dX12_addressOf_0 : decode cX12_addressOf 0 = .ok (.aload_n 0, 1) := by decide +kernel
theorem dX12_addressOf_1 : decode cX12_addressOf 1 = .ok (.iload_n 1, 1) := by decide +kernel
theorem dX12_addressOf_2 : decode cX12_addressOf 2 = .ok (.invokevirtual 145, 3) := by decide +kernel
theorem dX12_addressOf_5 : decode cX12_addressOf 5 = .ok (.istore_n 2, 1) := by decide +kernel
theorem dX12_addressOf_6 : decode cX12_addressOf 6 = .ok (.iload_n 2, 1) := by decide +kernel
theorem dX12_addressOf_7 : decode cX12_addressOf 7 = .ok (.ifCond .ge 7, 3) := by decide +kernel
theorem dX12_addressOf_10 : decode cX12_addressOf 10 = .ok (.iconst 0, 1) := by decide +kernel
theorem dX12_addressOf_11 : decode cX12_addressOf 11 = .ok (.goto 27, 3) := by decide +kernel
theorem dX12_addressOf_14 : decode cX12_addressOf 14 = .ok (.aload_n 0, 1) := by decide +kernel
theorem dX12_addressOf_15 : decode cX12_addressOf 15 = .ok (.iconst 4, 1) := by decide +kernel
theorem dX12_addressOf_16 : decode cX12_addressOf 16 = .ok (.iload_n 2, 1) := by decide +kernel
theorem dX12_addressOf_17 : decode cX12_addressOf 17 = .ok (.bipush 16, 2) := by decide +kernel
theorem dX12_addressOf_19 : decode cX12_addressOf 19 = .ok (.idiv, 1) := by decide +kernel
theorem dX12_addressOf_20 : decode cX12_addressOf 20 = .ok (.imul, 1) := by decide +kernel
theorem dX12_addressOf_21 : decode cX12_addressOf 21 = .ok (.aload_n 0, 1) := by decide +kernel
theorem dX12_addressOf_22 : decode cX12_addressOf 22 = .ok (.getfield 56, 3) := by decide +kernel
theorem dX12_addressOf_25 : decode cX12_addressOf 25 = .ok (.iload_n 2, 1) := by decide +kernel
theorem dX12_addressOf_26 : decode cX12_addressOf 26 = .ok (.iaload, 1) := by decide +kernel
theorem dX12_addressOf_27 : decode cX12_addressOf 27 = .ok (.iadd, 1) := by decide +kernel
theorem dX12_addressOf_28 : decode cX12_addressOf 28 = .ok (.invokevirtual 149, 3) := by decide +kernel
theorem dX12_addressOf_31 : decode cX12_addressOf 31 = .ok (.aload_n 0, 1) := by decide +kernel
theorem dX12_addressOf_32 : decode cX12_addressOf 32 = .ok (.getfield 59, 3) := by decide +kernel
theorem dX12_addressOf_35 : decode cX12_addressOf 35 = .ok (.iload_n 2, 1) := by decide +kernel
theorem dX12_addressOf_36 : decode cX12_addressOf 36 = .ok (.iaload, 1) := by decide +kernel
theorem dX12_addressOf_37 : decode cX12_addressOf 37 = .ok (.iadd, 1) := by decide +kernel
theorem dX12_addressOf_38 : decode cX12_addressOf 38 = .ok (.ireturn, 1) := by decide +kernel
theorem dX12_raised_0 : decode cX12_raised 0 = .ok (.iconst 1, 1) := by decide +kernel
theorem dX12_raised_1 : decode cX12_raised 1 = .ok (.iload_n 1, 1) := by decide +kernel
theorem dX12_raised_2 : decode cX12_raised 2 = .ok (.ishl, 1) := by decide +kernel
theorem dX12_raised_3 : decode cX12_raised 3 = .ok (.istore_n 2, 1) := by decide +kernel
theorem dX12_raised_4 : decode cX12_raised 4 = .ok (.iload_n 0, 1) := by decide +kernel
theorem dX12_raised_5 : decode cX12_raised 5 = .ok (.iload_n 2, 1) := by decide +kernel
theorem dX12_raised_6 : decode cX12_raised 6 = .ok (.iadd, 1) := by decide +kernel
theorem dX12_raised_7 : decode cX12_raised 7 = .ok (.iconst 1, 1) := by decide +kernel
theorem dX12_raised_8 : decode cX12_raised 8 = .ok (.isub, 1) := by decide +kernel
theorem dX12_raised_9 : decode cX12_raised 9 = .ok (.iload_n 2, 1) := by decide +kernel
theorem dX12_raised_10 : decode cX12_raised 10 = .ok (.idiv, 1) := by decide +kernel
theorem dX12_raised_11 : decode cX12_raised 11 = .ok (.iload_n 2, 1) := by decide +kernel
theorem dX12_raised_12 : decode cX12_raised 12 = .ok (.imul, 1) := by decide +kernel
theorem dX12_raised_13 : decode cX12_raised 13 = .ok (.ireturn, 1) := by decide +kernel
theorem dX12_addressOfSegment_0 : decode cX12_addressOfSegment 0 = .ok (.bipush 16, 2) := by decide +kernel
theorem dX12_addressOfSegment_2 : decode cX12_addressOfSegment 2 = .ok (.istore_n 2, 1) := by decide +kernel
theorem dX12_addressOfSegment_3 : decode cX12_addressOfSegment 3 = .ok (.iconst 0, 1) := by decide +kernel
theorem dX12_addressOfSegment_4 : decode cX12_addressOfSegment 4 = .ok (.istore_n 3, 1) := by decide +kernel
theorem dX12_addressOfSegment_5 : decode cX12_addressOfSegment 5 = .ok (.iload_n 3, 1) := by decide +kernel
theorem dX12_addressOfSegment_6 : decode cX12_addressOfSegment 6 = .ok (.iload_n 1, 1) := by decide +kernel
theorem dX12_addressOfSegment_7 : decode cX12_addressOfSegment 7 = .ok (.if_icmp .ge 41, 3) := by decide +kernel
theorem dX12_addressOfSegment_10 : decode cX12_addressOfSegment 10 = .ok (.iload_n 3, 1) := by decide +kernel
theorem dX12_addressOfSegment_11 : decode cX12_addressOfSegment 11 = .ok (.iconst 4, 1) := by decide +kernel
theorem dX12_addressOfSegment_12 : decode cX12_addressOfSegment 12 = .ok (.irem, 1) := by decide +kernel
theorem dX12_addressOfSegment_13 : decode cX12_addressOfSegment 13 = .ok (.aload_n 0, 1) := by decide +kernel
theorem dX12_addressOfSegment_14 : decode cX12_addressOfSegment 14 = .ok (.getfield 13, 3) := by decide +kernel
theorem dX12_addressOfSegment_17 : decode cX12_addressOfSegment 17 = .ok (.iload_n 3, 1) := by decide +kernel
theorem dX12_addressOfSegment_18 : decode cX12_addressOfSegment 18 = .ok (.iconst 4, 1) := by decide +kernel
theorem dX12_addressOfSegment_19 : decode cX12_addressOfSegment 19 = .ok (.idiv, 1) := by decide +kernel
theorem dX12_addressOfSegment_20 : decode cX12_addressOfSegment 20 = .ok (.iaload, 1) := by decide +kernel
theorem dX12_addressOfSegment_21 : decode cX12_addressOfSegment 21 = .ok (.if_icmp .ge 21, 3) := by decide +kernel
theorem dX12_addressOfSegment_24 : decode cX12_addressOfSegment 24 = .ok (.iload_n 2, 1) := by decide +kernel
theorem dX12_addressOfSegment_25 : decode cX12_addressOfSegment 25 = .ok (.aload_n 0, 1) := by decide +kernel
theorem dX12_addressOfSegment_26 : decode cX12_addressOfSegment 26 = .ok (.getfield 40, 3) := by decide +kernel
theorem dX12_addressOfSegment_29 : decode cX12_addressOfSegment 29 = .ok (.iload_n 3, 1) := by decide +kernel
theorem dX12_addressOfSegment_30 : decode cX12_addressOfSegment 30 = .ok (.iaload, 1) := by decide +kernel
theorem dX12_addressOfSegment_31 : decode cX12_addressOfSegment 31 = .ok (.invokestatic 152, 3) := by decide +kernel
theorem dX12_addressOfSegment_34 : decode cX12_addressOfSegment 34 = .ok (.aload_n 0, 1) := by decide +kernel
theorem dX12_addressOfSegment_35 : decode cX12_addressOfSegment 35 = .ok (.getfield 37, 3) := by decide +kernel
theorem dX12_addressOfSegment_38 : decode cX12_addressOfSegment 38 = .ok (.iload_n 3, 1) := by decide +kernel
theorem dX12_addressOfSegment_39 : decode cX12_addressOfSegment 39 = .ok (.iaload, 1) := by decide +kernel
theorem dX12_addressOfSegment_40 : decode cX12_addressOfSegment 40 = .ok (.iadd, 1) := by decide +kernel
theorem dX12_addressOfSegment_41 : decode cX12_addressOfSegment 41 = .ok (.istore_n 2, 1) := by decide +kernel
theorem dX12_addressOfSegment_42 : decode cX12_addressOfSegment 42 = .ok (.iinc 3 1, 3) := by decide +kernel
theorem dX12_addressOfSegment_45 : decode cX12_addressOfSegment 45 = .ok (.goto (-40), 3) := by decide +kernel
theorem dX12_addressOfSegment_48 : decode cX12_addressOfSegment 48 = .ok (.iload_n 2, 1) := by decide +kernel
theorem dX12_addressOfSegment_49 : decode cX12_addressOfSegment 49 = .ok (.aload_n 0, 1) := by decide +kernel
theorem dX12_addressOfSegment_50 : decode cX12_addressOfSegment 50 = .ok (.getfield 40, 3) := by decide +kernel
theorem dX12_addressOfSegment_53 : decode cX12_addressOfSegment 53 = .ok (.iload_n 1, 1) := by decide +kernel
theorem dX12_addressOfSegment_54 : decode cX12_addressOfSegment 54 = .ok (.iaload, 1) := by decide +kernel
theorem dX12_addressOfSegment_55 : decode cX12_addressOfSegment 55 = .ok (.invokestatic 152, 3) := by decide +kernel
theorem dX12_addressOfSegment_58 : decode cX12_addressOfSegment 58 = .ok (.ireturn, 1) := by decide +kernel
theorem dX12_end_0 : decode cX12_end 0 = .ok (.bipush 16, 2) := by decide +kernel
theorem dX12_end_2 : decode cX12_end 2 = .ok (.istore_n 1, 1) := by decide +kernel
theorem dX12_end_3 : decode cX12_end 3 = .ok (.iconst 0, 1) := by decide +kernel
theorem dX12_end_4 : decode cX12_end 4 = .ok (.istore_n 2, 1) := by decide +kernel
theorem dX12_end_5 : decode cX12_end 5 = .ok (.iload_n 2, 1) := by decide +kernel
theorem dX12_end_6 : decode cX12_end 6 = .ok (.bipush 24, 2) := by decide +kernel
theorem dX12_end_8 : decode cX12_end 8 = .ok (.if_icmp .ge 41, 3) := by decide +kernel
theorem dX12_end_11 : decode cX12_end 11 = .ok (.iload_n 2, 1) := by decide +kernel
theorem dX12_end_12 : decode cX12_end 12 = .ok (.iconst 4, 1) := by decide +kernel
theorem dX12_end_13 : decode cX12_end 13 = .ok (.irem, 1) := by decide +kernel
theorem dX12_end_14 : decode cX12_end 14 = .ok (.aload_n 0, 1) := by decide +kernel
theorem dX12_end_15 : decode cX12_end 15 = .ok (.getfield 13, 3) := by decide +kernel
theorem dX12_end_18 : decode cX12_end 18 = .ok (.iload_n 2, 1) := by decide +kernel
theorem dX12_end_19 : decode cX12_end 19 = .ok (.iconst 4, 1) := by decide +kernel
theorem dX12_end_20 : decode cX12_end 20 = .ok (.idiv, 1) := by decide +kernel
theorem dX12_end_21 : decode cX12_end 21 = .ok (.iaload, 1) := by decide +kernel
theorem dX12_end_22 : decode cX12_end 22 = .ok (.if_icmp .ge 21, 3) := by decide +kernel
theorem dX12_end_25 : decode cX12_end 25 = .ok (.iload_n 1, 1) := by decide +kernel
theorem dX12_end_26 : decode cX12_end 26 = .ok (.aload_n 0, 1) := by decide +kernel
theorem dX12_end_27 : decode cX12_end 27 = .ok (.getfield 40, 3) := by decide +kernel
theorem dX12_end_30 : decode cX12_end 30 = .ok (.iload_n 2, 1) := by decide +kernel
theorem dX12_end_31 : decode cX12_end 31 = .ok (.iaload, 1) := by decide +kernel
theorem dX12_end_32 : decode cX12_end 32 = .ok (.invokestatic 152, 3) := by decide +kernel
theorem dX12_end_35 : decode cX12_end 35 = .ok (.aload_n 0, 1) := by decide +kernel
theorem dX12_end_36 : decode cX12_end 36 = .ok (.getfield 37, 3) := by decide +kernel
theorem dX12_end_39 : decode cX12_end 39 = .ok (.iload_n 2, 1) := by decide +kernel
theorem dX12_end_40 : decode cX12_end 40 = .ok (.iaload, 1) := by decide +kernel
theorem dX12_end_41 : decode cX12_end 41 = .ok (.iadd, 1) := by decide +kernel
theorem dX12_end_42 : decode cX12_end 42 = .ok (.istore_n 1, 1) := by decide +kernel
theorem dX12_end_43 : decode cX12_end 43 = .ok (.iinc 2 1, 3) := by decide +kernel
theorem dX12_end_46 : decode cX12_end 46 = .ok (.goto (-41), 3) := by decide +kernel
theorem dX12_end_49 : decode cX12_end 49 = .ok (.iload_n 1, 1) := by decide +kernel
theorem dX12_end_50 : decode cX12_end 50 = .ok (.ireturn, 1) := by decide +kernel
theorem dX12_signature_0 : decode cX12_signature 0 = .ok (.aload_n 0, 1) := by decide +kernel
theorem dX12_signature_1 : decode cX12_signature 1 = .ok (.getfield 56, 3) := by decide +kernel
theorem dX12_signature_4 : decode cX12_signature 4 = .ok (.iload_n 1, 1) := by decide +kernel
theorem dX12_signature_5 : decode cX12_signature 5 = .ok (.iaload, 1) := by decide +kernel
theorem dX12_signature_6 : decode cX12_signature 6 = .ok (.iconst (-1), 1) := by decide +kernel
theorem dX12_signature_7 : decode cX12_signature 7 = .ok (.if_icmp .ne 12, 3) := by decide +kernel
theorem dX12_signature_10 : decode cX12_signature 10 = .ok (.aload_n 0, 1) := by decide +kernel
theorem dX12_signature_11 : decode cX12_signature 11 = .ok (.getfield 59, 3) := by decide +kernel
theorem dX12_signature_14 : decode cX12_signature 14 = .ok (.iload_n 1, 1) := by decide +kernel
theorem dX12_signature_15 : decode cX12_signature 15 = .ok (.iaload, 1) := by decide +kernel
theorem dX12_signature_16 : decode cX12_signature 16 = .ok (.goto 21, 3) := by decide +kernel
theorem dX12_signature_19 : decode cX12_signature 19 = .ok (.aload_n 0, 1) := by decide +kernel
theorem dX12_signature_20 : decode cX12_signature 20 = .ok (.bipush 8, 2) := by decide +kernel
theorem dX12_signature_22 : decode cX12_signature 22 = .ok (.iload_n 1, 1) := by decide +kernel
theorem dX12_signature_23 : decode cX12_signature 23 = .ok (.bipush 16, 2) := by decide +kernel
theorem dX12_signature_25 : decode cX12_signature 25 = .ok (.idiv, 1) := by decide +kernel
theorem dX12_signature_26 : decode cX12_signature 26 = .ok (.imul, 1) := by decide +kernel
theorem dX12_signature_27 : decode cX12_signature 27 = .ok (.aload_n 0, 1) := by decide +kernel
theorem dX12_signature_28 : decode cX12_signature 28 = .ok (.getfield 56, 3) := by decide +kernel
theorem dX12_signature_31 : decode cX12_signature 31 = .ok (.iload_n 1, 1) := by decide +kernel
theorem dX12_signature_32 : decode cX12_signature 32 = .ok (.iaload, 1) := by decide +kernel
theorem dX12_signature_33 : decode cX12_signature 33 = .ok (.iadd, 1) := by decide +kernel
theorem dX12_signature_34 : decode cX12_signature 34 = .ok (.invokevirtual 156, 3) := by decide +kernel
theorem dX12_signature_37 : decode cX12_signature 37 = .ok (.ireturn, 1) := by decide +kernel
theorem dX12_shape_0 : decode cX12_shape 0 = .ok (.iconst 2, 1) := by decide +kernel
theorem dX12_shape_1 : decode cX12_shape 1 = .ok (.aload_n 0, 1) := by decide +kernel
theorem dX12_shape_2 : decode cX12_shape 2 = .ok (.getfield 19, 3) := by decide +kernel
theorem dX12_shape_5 : decode cX12_shape 5 = .ok (.iload_n 1, 1) := by decide +kernel
theorem dX12_shape_6 : decode cX12_shape 6 = .ok (.iaload, 1) := by decide +kernel
theorem dX12_shape_7 : decode cX12_shape 7 = .ok (.imul, 1) := by decide +kernel
theorem dX12_shape_8 : decode cX12_shape 8 = .ok (.aload_n 0, 1) := by decide +kernel
theorem dX12_shape_9 : decode cX12_shape 9 = .ok (.getfield 22, 3) := by decide +kernel
theorem dX12_shape_12 : decode cX12_shape 12 = .ok (.iload_n 1, 1) := by decide +kernel
theorem dX12_shape_13 : decode cX12_shape 13 = .ok (.iaload, 1) := by decide +kernel
theorem dX12_shape_14 : decode cX12_shape 14 = .ok (.iadd, 1) := by decide +kernel
theorem dX12_shape_15 : decode cX12_shape 15 = .ok (.ireturn, 1) := by decide +kernel
theorem dX12_numberOf_0 : decode cX12_numberOf 0 = .ok (.iload_n 1, 1) := by decide +kernel
theorem dX12_numberOf_1 : decode cX12_numberOf 1 = .ok (.bipush 8, 2) := by decide +kernel
theorem dX12_numberOf_3 : decode cX12_numberOf 3 = .ok (.irem, 1) := by decide +kernel
theorem dX12_numberOf_4 : decode cX12_numberOf 4 = .ok (.istore_n 2, 1) := by decide +kernel
theorem dX12_numberOf_5 : decode cX12_numberOf 5 = .ok (.iconst 0, 1) := by decide +kernel
theorem dX12_numberOf_6 : decode cX12_numberOf 6 = .ok (.istore_n 3, 1) := by decide +kernel
theorem dX12_numberOf_7 : decode cX12_numberOf 7 = .ok (.iload_n 3, 1) := by decide +kernel
theorem dX12_numberOf_8 : decode cX12_numberOf 8 = .ok (.iload_n 1, 1) := by decide +kernel
theorem dX12_numberOf_9 : decode cX12_numberOf 9 = .ok (.bipush 8, 2) := by decide +kernel
theorem dX12_numberOf_11 : decode cX12_numberOf 11 = .ok (.idiv, 1) := by decide +kernel
theorem dX12_numberOf_12 : decode cX12_numberOf 12 = .ok (.if_icmp .ge 18, 3) := by decide +kernel
theorem dX12_numberOf_15 : decode cX12_numberOf 15 = .ok (.iload_n 2, 1) := by decide +kernel
theorem dX12_numberOf_16 : decode cX12_numberOf 16 = .ok (.aload_n 0, 1) := by decide +kernel
theorem dX12_numberOf_17 : decode cX12_numberOf 17 = .ok (.getfield 7, 3) := by decide +kernel
theorem dX12_numberOf_20 : decode cX12_numberOf 20 = .ok (.iload_n 3, 1) := by decide +kernel
theorem dX12_numberOf_21 : decode cX12_numberOf 21 = .ok (.iaload, 1) := by decide +kernel
theorem dX12_numberOf_22 : decode cX12_numberOf 22 = .ok (.iadd, 1) := by decide +kernel
theorem dX12_numberOf_23 : decode cX12_numberOf 23 = .ok (.istore_n 2, 1) := by decide +kernel
theorem dX12_numberOf_24 : decode cX12_numberOf 24 = .ok (.iinc 3 1, 3) := by decide +kernel
theorem dX12_numberOf_27 : decode cX12_numberOf 27 = .ok (.goto (-20), 3) := by decide +kernel
theorem dX12_numberOf_30 : decode cX12_numberOf 30 = .ok (.iload_n 2, 1) := by decide +kernel
theorem dX12_numberOf_31 : decode cX12_numberOf 31 = .ok (.ireturn, 1) := by decide +kernel
theorem dX12_isThere_0 : decode cX12_isThere 0 = .ok (.iload_n 1, 1) := by decide +kernel
theorem dX12_isThere_1 : decode cX12_isThere 1 = .ok (.bipush 8, 2) := by decide +kernel
theorem dX12_isThere_3 : decode cX12_isThere 3 = .ok (.irem, 1) := by decide +kernel
theorem dX12_isThere_4 : decode cX12_isThere 4 = .ok (.aload_n 0, 1) := by decide +kernel
theorem dX12_isThere_5 : decode cX12_isThere 5 = .ok (.getfield 7, 3) := by decide +kernel
theorem dX12_isThere_8 : decode cX12_isThere 8 = .ok (.iload_n 1, 1) := by decide +kernel
theorem dX12_isThere_9 : decode cX12_isThere 9 = .ok (.bipush 8, 2) := by decide +kernel
theorem dX12_isThere_11 : decode cX12_isThere 11 = .ok (.idiv, 1) := by decide +kernel
theorem dX12_isThere_12 : decode cX12_isThere 12 = .ok (.iaload, 1) := by decide +kernel
theorem dX12_isThere_13 : decode cX12_isThere 13 = .ok (.if_icmp .ge 7, 3) := by decide +kernel
theorem dX12_isThere_16 : decode cX12_isThere 16 = .ok (.iconst 1, 1) := by decide +kernel
theorem dX12_isThere_17 : decode cX12_isThere 17 = .ok (.goto 4, 3) := by decide +kernel
theorem dX12_isThere_20 : decode cX12_isThere 20 = .ok (.iconst 0, 1) := by decide +kernel
theorem dX12_isThere_21 : decode cX12_isThere 21 = .ok (.ireturn, 1) := by decide +kernel
theorem dX12_isWordGood_0 : decode cX12_isWordGood 0 = .ok (.iload_n 1, 1) := by decide +kernel
theorem dX12_isWordGood_1 : decode cX12_isWordGood 1 = .ok (.bipush 8, 2) := by decide +kernel
theorem dX12_isWordGood_3 : decode cX12_isWordGood 3 = .ok (.idiv, 1) := by decide +kernel
theorem dX12_isWordGood_4 : decode cX12_isWordGood 4 = .ok (.istore 4, 2) := by decide +kernel
theorem dX12_isWordGood_6 : decode cX12_isWordGood 6 = .ok (.iload_n 2, 1) := by decide +kernel
theorem dX12_isWordGood_7 : decode cX12_isWordGood 7 = .ok (.tableswitch 275 1 34 #[149, 149, 275, 275, 275, 275, 275, 275, 275, 275, 275, 275, 275, 275, 275, 275, 275, 275, 170, 170, 170, 170, 179, 179, 179, 275, 275, 186, 186, 275, 194, 230, 238, 194], 149) := by decide +kernel
theorem dX12_isWordGood_156 : decode cX12_isWordGood 156 = .ok (.iload_n 3, 1) := by decide +kernel
theorem dX12_isWordGood_157 : decode cX12_isWordGood 157 = .ok (.iconst 0, 1) := by decide +kernel
theorem dX12_isWordGood_158 : decode cX12_isWordGood 158 = .ok (.aload_n 0, 1) := by decide +kernel
theorem dX12_isWordGood_159 : decode cX12_isWordGood 159 = .ok (.getfield 19, 3) := by decide +kernel
theorem dX12_isWordGood_162 : decode cX12_isWordGood 162 = .ok (.iload_n 1, 1) := by decide +kernel
theorem dX12_isWordGood_163 : decode cX12_isWordGood 163 = .ok (.iaload, 1) := by decide +kernel
theorem dX12_isWordGood_164 : decode cX12_isWordGood 164 = .ok (.aload_n 0, 1) := by decide +kernel
theorem dX12_isWordGood_165 : decode cX12_isWordGood 165 = .ok (.getfield 25, 3) := by decide +kernel
theorem dX12_isWordGood_168 : decode cX12_isWordGood 168 = .ok (.iload_n 1, 1) := by decide +kernel
theorem dX12_isWordGood_169 : decode cX12_isWordGood 169 = .ok (.iaload, 1) := by decide +kernel
theorem dX12_isWordGood_170 : decode cX12_isWordGood 170 = .ok (.iadd, 1) := by decide +kernel
theorem dX12_isWordGood_171 : decode cX12_isWordGood 171 = .ok (.iconst 1, 1) := by decide +kernel
theorem dX12_isWordGood_172 : decode cX12_isWordGood 172 = .ok (.isub, 1) := by decide +kernel
theorem dX12_isWordGood_173 : decode cX12_isWordGood 173 = .ok (.invokestatic 126, 3) := by decide +kernel
theorem dX12_isWordGood_176 : decode cX12_isWordGood 176 = .ok (.ireturn, 1) := by decide +kernel
theorem dX12_isWordGood_177 : decode cX12_isWordGood 177 = .ok (.iload_n 3, 1) := by decide +kernel
theorem dX12_isWordGood_178 : decode cX12_isWordGood 178 = .ok (.iconst 0, 1) := by decide +kernel
theorem dX12_isWordGood_179 : decode cX12_isWordGood 179 = .ok (.sipush 1000, 3) := by decide +kernel
theorem dX12_isWordGood_182 : decode cX12_isWordGood 182 = .ok (.invokestatic 126, 3) := by decide +kernel
theorem dX12_isWordGood_185 : decode cX12_isWordGood 185 = .ok (.ireturn, 1) := by decide +kernel
theorem dX12_isWordGood_186 : decode cX12_isWordGood 186 = .ok (.iload_n 3, 1) := by decide +kernel
theorem dX12_isWordGood_187 : decode cX12_isWordGood 187 = .ok (.iconst 0, 1) := by decide +kernel
theorem dX12_isWordGood_188 : decode cX12_isWordGood 188 = .ok (.iconst 1, 1) := by decide +kernel
theorem dX12_isWordGood_189 : decode cX12_isWordGood 189 = .ok (.invokestatic 126, 3) := by decide +kernel
theorem dX12_isWordGood_192 : decode cX12_isWordGood 192 = .ok (.ireturn, 1) := by decide +kernel
theorem dX12_isWordGood_193 : decode cX12_isWordGood 193 = .ok (.iload_n 3, 1) := by decide +kernel
theorem dX12_isWordGood_194 : decode cX12_isWordGood 194 = .ok (.iconst 0, 1) := by decide +kernel
theorem dX12_isWordGood_195 : decode cX12_isWordGood 195 = .ok (.bipush 30, 2) := by decide +kernel
theorem dX12_isWordGood_197 : decode cX12_isWordGood 197 = .ok (.invokestatic 126, 3) := by decide +kernel
theorem dX12_isWordGood_200 : decode cX12_isWordGood 200 = .ok (.ireturn, 1) := by decide +kernel
theorem dX12_isWordGood_201 : decode cX12_isWordGood 201 = .ok (.iload_n 3, 1) := by decide +kernel
theorem dX12_isWordGood_202 : decode cX12_isWordGood 202 = .ok (.ifCond .lt 33, 3) := by decide +kernel
theorem dX12_isWordGood_205 : decode cX12_isWordGood 205 = .ok (.iload_n 3, 1) := by decide +kernel
theorem dX12_isWordGood_206 : decode cX12_isWordGood 206 = .ok (.aload_n 0, 1) := by decide +kernel
theorem dX12_isWordGood_207 : decode cX12_isWordGood 207 = .ok (.getfield 16, 3) := by decide +kernel
theorem dX12_isWordGood_210 : decode cX12_isWordGood 210 = .ok (.iload 4, 2) := by decide +kernel
theorem dX12_isWordGood_212 : decode cX12_isWordGood 212 = .ok (.iaload, 1) := by decide +kernel
theorem dX12_isWordGood_213 : decode cX12_isWordGood 213 = .ok (.if_icmp .ge 22, 3) := by decide +kernel
theorem dX12_isWordGood_216 : decode cX12_isWordGood 216 = .ok (.aload_n 0, 1) := by decide +kernel
theorem dX12_isWordGood_217 : decode cX12_isWordGood 217 = .ok (.getfield 50, 3) := by decide +kernel
theorem dX12_isWordGood_220 : decode cX12_isWordGood 220 = .ok (.bipush 16, 2) := by decide +kernel
theorem dX12_isWordGood_222 : decode cX12_isWordGood 222 = .ok (.iload 4, 2) := by decide +kernel
theorem dX12_isWordGood_224 : decode cX12_isWordGood 224 = .ok (.imul, 1) := by decide +kernel
theorem dX12_isWordGood_225 : decode cX12_isWordGood 225 = .ok (.iload_n 3, 1) := by decide +kernel
theorem dX12_isWordGood_226 : decode cX12_isWordGood 226 = .ok (.iadd, 1) := by decide +kernel
theorem dX12_isWordGood_227 : decode cX12_isWordGood 227 = .ok (.iaload, 1) := by decide +kernel
theorem dX12_isWordGood_228 : decode cX12_isWordGood 228 = .ok (.ifCond .ne 7, 3) := by decide +kernel
theorem dX12_isWordGood_231 : decode cX12_isWordGood 231 = .ok (.iconst 1, 1) := by decide +kernel
theorem dX12_isWordGood_232 : decode cX12_isWordGood 232 = .ok (.goto 4, 3) := by decide +kernel
theorem dX12_isWordGood_235 : decode cX12_isWordGood 235 = .ok (.iconst 0, 1) := by decide +kernel
theorem dX12_isWordGood_236 : decode cX12_isWordGood 236 = .ok (.ireturn, 1) := by decide +kernel
theorem dX12_isWordGood_237 : decode cX12_isWordGood 237 = .ok (.iload_n 3, 1) := by decide +kernel
theorem dX12_isWordGood_238 : decode cX12_isWordGood 238 = .ok (.iconst 0, 1) := by decide +kernel
theorem dX12_isWordGood_239 : decode cX12_isWordGood 239 = .ok (.bipush 9, 2) := by decide +kernel
theorem dX12_isWordGood_241 : decode cX12_isWordGood 241 = .ok (.invokestatic 126, 3) := by decide +kernel
theorem dX12_isWordGood_244 : decode cX12_isWordGood 244 = .ok (.ireturn, 1) := by decide +kernel
theorem dX12_isWordGood_245 : decode cX12_isWordGood 245 = .ok (.iload_n 3, 1) := by decide +kernel
theorem dX12_isWordGood_246 : decode cX12_isWordGood 246 = .ok (.ifCond .lt 34, 3) := by decide +kernel
theorem dX12_isWordGood_249 : decode cX12_isWordGood 249 = .ok (.iload_n 3, 1) := by decide +kernel
theorem dX12_isWordGood_250 : decode cX12_isWordGood 250 = .ok (.aload_n 0, 1) := by decide +kernel
theorem dX12_isWordGood_251 : decode cX12_isWordGood 251 = .ok (.getfield 16, 3) := by decide +kernel
theorem dX12_isWordGood_254 : decode cX12_isWordGood 254 = .ok (.iload 4, 2) := by decide +kernel
theorem dX12_isWordGood_256 : decode cX12_isWordGood 256 = .ok (.iaload, 1) := by decide +kernel
theorem dX12_isWordGood_257 : decode cX12_isWordGood 257 = .ok (.if_icmp .ge 23, 3) := by decide +kernel
theorem dX12_isWordGood_260 : decode cX12_isWordGood 260 = .ok (.aload_n 0, 1) := by decide +kernel
theorem dX12_isWordGood_261 : decode cX12_isWordGood 261 = .ok (.getfield 50, 3) := by decide +kernel
theorem dX12_isWordGood_264 : decode cX12_isWordGood 264 = .ok (.bipush 16, 2) := by decide +kernel
theorem dX12_isWordGood_266 : decode cX12_isWordGood 266 = .ok (.iload 4, 2) := by decide +kernel
theorem dX12_isWordGood_268 : decode cX12_isWordGood 268 = .ok (.imul, 1) := by decide +kernel
theorem dX12_isWordGood_269 : decode cX12_isWordGood 269 = .ok (.iload_n 3, 1) := by decide +kernel
theorem dX12_isWordGood_270 : decode cX12_isWordGood 270 = .ok (.iadd, 1) := by decide +kernel
theorem dX12_isWordGood_271 : decode cX12_isWordGood 271 = .ok (.iaload, 1) := by decide +kernel
theorem dX12_isWordGood_272 : decode cX12_isWordGood 272 = .ok (.iconst 1, 1) := by decide +kernel
theorem dX12_isWordGood_273 : decode cX12_isWordGood 273 = .ok (.if_icmp .ne 7, 3) := by decide +kernel
theorem dX12_isWordGood_276 : decode cX12_isWordGood 276 = .ok (.iconst 1, 1) := by decide +kernel
theorem dX12_isWordGood_277 : decode cX12_isWordGood 277 = .ok (.goto 4, 3) := by decide +kernel
theorem dX12_isWordGood_280 : decode cX12_isWordGood 280 = .ok (.iconst 0, 1) := by decide +kernel
theorem dX12_isWordGood_281 : decode cX12_isWordGood 281 = .ok (.ireturn, 1) := by decide +kernel
theorem dX12_isWordGood_282 : decode cX12_isWordGood 282 = .ok (.iconst 1, 1) := by decide +kernel
theorem dX12_isWordGood_283 : decode cX12_isWordGood 283 = .ok (.ireturn, 1) := by decide +kernel
theorem dX12_open_0 : decode cX12_open 0 = .ok (.aload_n 0, 1) := by decide +kernel
theorem dX12_open_1 : decode cX12_open 1 = .ok (.getfield 79, 3) := by decide +kernel
theorem dX12_open_4 : decode cX12_open 4 = .ok (.aload_n 0, 1) := by decide +kernel
theorem dX12_open_5 : decode cX12_open 5 = .ok (.getfield 159, 3) := by decide +kernel
theorem dX12_open_8 : decode cX12_open 8 = .ok (.iload_n 1, 1) := by decide +kernel
theorem dX12_open_9 : decode cX12_open 9 = .ok (.iastore, 1) := by decide +kernel
theorem dX12_open_10 : decode cX12_open 10 = .ok (.aload_n 0, 1) := by decide +kernel
theorem dX12_open_11 : decode cX12_open 11 = .ok (.getfield 82, 3) := by decide +kernel
theorem dX12_open_14 : decode cX12_open 14 = .ok (.aload_n 0, 1) := by decide +kernel
theorem dX12_open_15 : decode cX12_open 15 = .ok (.getfield 159, 3) := by decide +kernel
theorem dX12_open_18 : decode cX12_open 18 = .ok (.iload_n 2, 1) := by decide +kernel
theorem dX12_open_19 : decode cX12_open 19 = .ok (.iastore, 1) := by decide +kernel
theorem dX12_open_20 : decode cX12_open 20 = .ok (.aload_n 0, 1) := by decide +kernel
theorem dX12_open_21 : decode cX12_open 21 = .ok (.getfield 85, 3) := by decide +kernel
theorem dX12_open_24 : decode cX12_open 24 = .ok (.aload_n 0, 1) := by decide +kernel
theorem dX12_open_25 : decode cX12_open 25 = .ok (.getfield 159, 3) := by decide +kernel
theorem dX12_open_28 : decode cX12_open 28 = .ok (.aload_n 0, 1) := by decide +kernel
theorem dX12_open_29 : decode cX12_open 29 = .ok (.getfield 162, 3) := by decide +kernel
theorem dX12_open_32 : decode cX12_open 32 = .ok (.iastore, 1) := by decide +kernel
theorem dX12_open_33 : decode cX12_open 33 = .ok (.aload_n 0, 1) := by decide +kernel
theorem dX12_open_34 : decode cX12_open 34 = .ok (.getfield 88, 3) := by decide +kernel
theorem dX12_open_37 : decode cX12_open 37 = .ok (.aload_n 0, 1) := by decide +kernel
theorem dX12_open_38 : decode cX12_open 38 = .ok (.getfield 159, 3) := by decide +kernel
theorem dX12_open_41 : decode cX12_open 41 = .ok (.iconst 0, 1) := by decide +kernel
theorem dX12_open_42 : decode cX12_open 42 = .ok (.bastore, 1) := by decide +kernel
theorem dX12_open_43 : decode cX12_open 43 = .ok (.aload_n 0, 1) := by decide +kernel
theorem dX12_open_44 : decode cX12_open 44 = .ok (.getfield 92, 3) := by decide +kernel
theorem dX12_open_47 : decode cX12_open 47 = .ok (.aload_n 0, 1) := by decide +kernel
theorem dX12_open_48 : decode cX12_open 48 = .ok (.getfield 159, 3) := by decide +kernel
theorem dX12_open_51 : decode cX12_open 51 = .ok (.iconst 0, 1) := by decide +kernel
theorem dX12_open_52 : decode cX12_open 52 = .ok (.bastore, 1) := by decide +kernel
theorem dX12_open_53 : decode cX12_open 53 = .ok (.aload_n 0, 1) := by decide +kernel
theorem dX12_open_54 : decode cX12_open 54 = .ok (.dup, 1) := by decide +kernel
theorem dX12_open_55 : decode cX12_open 55 = .ok (.getfield 159, 3) := by decide +kernel
theorem dX12_open_58 : decode cX12_open 58 = .ok (.iconst 1, 1) := by decide +kernel
theorem dX12_open_59 : decode cX12_open 59 = .ok (.iadd, 1) := by decide +kernel
theorem dX12_open_60 : decode cX12_open 60 = .ok (.putfield 159, 3) := by decide +kernel
theorem dX12_open_63 : decode cX12_open 63 = .ok (.return_, 1) := by decide +kernel
theorem dX12_pops_0 : decode cX12_pops 0 = .ok (.aload_n 0, 1) := by decide +kernel
theorem dX12_pops_1 : decode cX12_pops 1 = .ok (.getfield 159, 3) := by decide +kernel
theorem dX12_pops_4 : decode cX12_pops 4 = .ok (.iconst 1, 1) := by decide +kernel
theorem dX12_pops_5 : decode cX12_pops 5 = .ok (.isub, 1) := by decide +kernel
theorem dX12_pops_6 : decode cX12_pops 6 = .ok (.istore_n 2, 1) := by decide +kernel
theorem dX12_pops_7 : decode cX12_pops 7 = .ok (.aload_n 0, 1) := by decide +kernel
theorem dX12_pops_8 : decode cX12_pops 8 = .ok (.getfield 162, 3) := by decide +kernel
theorem dX12_pops_11 : decode cX12_pops 11 = .ok (.aload_n 0, 1) := by decide +kernel
theorem dX12_pops_12 : decode cX12_pops 12 = .ok (.getfield 85, 3) := by decide +kernel
theorem dX12_pops_15 : decode cX12_pops 15 = .ok (.iload_n 2, 1) := by decide +kernel
theorem dX12_pops_16 : decode cX12_pops 16 = .ok (.iaload, 1) := by decide +kernel
theorem dX12_pops_17 : decode cX12_pops 17 = .ok (.isub, 1) := by decide +kernel
theorem dX12_pops_18 : decode cX12_pops 18 = .ok (.istore_n 3, 1) := by decide +kernel
theorem dX12_pops_19 : decode cX12_pops 19 = .ok (.aload_n 0, 1) := by decide +kernel
theorem dX12_pops_20 : decode cX12_pops 20 = .ok (.dup, 1) := by decide +kernel
theorem dX12_pops_21 : decode cX12_pops 21 = .ok (.getfield 162, 3) := by decide +kernel
theorem dX12_pops_24 : decode cX12_pops 24 = .ok (.iload_n 1, 1) := by decide +kernel
theorem dX12_pops_25 : decode cX12_pops 25 = .ok (.iload_n 3, 1) := by decide +kernel
theorem dX12_pops_26 : decode cX12_pops 26 = .ok (.if_icmp .ge 7, 3) := by decide +kernel
theorem dX12_pops_29 : decode cX12_pops 29 = .ok (.iload_n 1, 1) := by decide +kernel
theorem dX12_pops_30 : decode cX12_pops 30 = .ok (.goto 4, 3) := by decide +kernel
theorem dX12_pops_33 : decode cX12_pops 33 = .ok (.iload_n 3, 1) := by decide +kernel
theorem dX12_pops_34 : decode cX12_pops 34 = .ok (.isub, 1) := by decide +kernel
theorem dX12_pops_35 : decode cX12_pops 35 = .ok (.putfield 162, 3) := by decide +kernel
theorem dX12_pops_38 : decode cX12_pops 38 = .ok (.iload_n 1, 1) := by decide +kernel
theorem dX12_pops_39 : decode cX12_pops 39 = .ok (.iload_n 3, 1) := by decide +kernel
theorem dX12_pops_40 : decode cX12_pops 40 = .ok (.if_icmp .le 12, 3) := by decide +kernel
theorem dX12_pops_43 : decode cX12_pops 43 = .ok (.aload_n 0, 1) := by decide +kernel
theorem dX12_pops_44 : decode cX12_pops 44 = .ok (.getfield 88, 3) := by decide +kernel
theorem dX12_pops_47 : decode cX12_pops 47 = .ok (.iload_n 2, 1) := by decide +kernel
theorem dX12_pops_48 : decode cX12_pops 48 = .ok (.baload, 1) := by decide +kernel
theorem dX12_pops_49 : decode cX12_pops 49 = .ok (.ifCond .eq 7, 3) := by decide +kernel
theorem dX12_pops_52 : decode cX12_pops 52 = .ok (.iconst 1, 1) := by decide +kernel
theorem dX12_pops_53 : decode cX12_pops 53 = .ok (.goto 4, 3) := by decide +kernel
theorem dX12_pops_56 : decode cX12_pops 56 = .ok (.iconst 0, 1) := by decide +kernel
theorem dX12_pops_57 : decode cX12_pops 57 = .ok (.ireturn, 1) := by decide +kernel
theorem dX12_closes_0 : decode cX12_closes 0 = .ok (.aload_n 0, 1) := by decide +kernel
theorem dX12_closes_1 : decode cX12_closes 1 = .ok (.getfield 159, 3) := by decide +kernel
theorem dX12_closes_4 : decode cX12_closes 4 = .ok (.iconst 1, 1) := by decide +kernel
theorem dX12_closes_5 : decode cX12_closes 5 = .ok (.isub, 1) := by decide +kernel
theorem dX12_closes_6 : decode cX12_closes 6 = .ok (.istore_n 1, 1) := by decide +kernel
theorem dX12_closes_7 : decode cX12_closes 7 = .ok (.aload_n 0, 1) := by decide +kernel
theorem dX12_closes_8 : decode cX12_closes 8 = .ok (.aload_n 0, 1) := by decide +kernel
theorem dX12_closes_9 : decode cX12_closes 9 = .ok (.getfield 82, 3) := by decide +kernel
theorem dX12_closes_12 : decode cX12_closes 12 = .ok (.iload_n 1, 1) := by decide +kernel
theorem dX12_closes_13 : decode cX12_closes 13 = .ok (.iaload, 1) := by decide +kernel
theorem dX12_closes_14 : decode cX12_closes 14 = .ok (.invokevirtual 165, 3) := by decide +kernel
theorem dX12_closes_17 : decode cX12_closes 17 = .ok (.istore_n 2, 1) := by decide +kernel
theorem dX12_closes_18 : decode cX12_closes 18 = .ok (.iload_n 2, 1) := by decide +kernel
theorem dX12_closes_19 : decode cX12_closes 19 = .ok (.ifCond .eq 20, 3) := by decide +kernel
theorem dX12_closes_22 : decode cX12_closes 22 = .ok (.aload_n 0, 1) := by decide +kernel
theorem dX12_closes_23 : decode cX12_closes 23 = .ok (.getfield 162, 3) := by decide +kernel
theorem dX12_closes_26 : decode cX12_closes 26 = .ok (.aload_n 0, 1) := by decide +kernel
theorem dX12_closes_27 : decode cX12_closes 27 = .ok (.getfield 85, 3) := by decide +kernel
theorem dX12_closes_30 : decode cX12_closes 30 = .ok (.iload_n 1, 1) := by decide +kernel
theorem dX12_closes_31 : decode cX12_closes 31 = .ok (.iaload, 1) := by decide +kernel
theorem dX12_closes_32 : decode cX12_closes 32 = .ok (.if_icmp .ne 7, 3) := by decide +kernel
theorem dX12_closes_35 : decode cX12_closes 35 = .ok (.iconst 1, 1) := by decide +kernel
theorem dX12_closes_36 : decode cX12_closes 36 = .ok (.goto 4, 3) := by decide +kernel
theorem dX12_closes_39 : decode cX12_closes 39 = .ok (.iconst 0, 1) := by decide +kernel
theorem dX12_closes_40 : decode cX12_closes 40 = .ok (.ireturn, 1) := by decide +kernel
theorem dX12_dies_0 : decode cX12_dies 0 = .ok (.aload_n 0, 1) := by decide +kernel
theorem dX12_dies_1 : decode cX12_dies 1 = .ok (.aload_n 0, 1) := by decide +kernel
theorem dX12_dies_2 : decode cX12_dies 2 = .ok (.getfield 85, 3) := by decide +kernel
theorem dX12_dies_5 : decode cX12_dies 5 = .ok (.aload_n 0, 1) := by decide +kernel
theorem dX12_dies_6 : decode cX12_dies 6 = .ok (.getfield 159, 3) := by decide +kernel
theorem dX12_dies_9 : decode cX12_dies 9 = .ok (.iconst 1, 1) := by decide +kernel
theorem dX12_dies_10 : decode cX12_dies 10 = .ok (.isub, 1) := by decide +kernel
theorem dX12_dies_11 : decode cX12_dies 11 = .ok (.iaload, 1) := by decide +kernel
theorem dX12_dies_12 : decode cX12_dies 12 = .ok (.putfield 162, 3) := by decide +kernel
theorem dX12_dies_15 : decode cX12_dies 15 = .ok (.aload_n 0, 1) := by decide +kernel
theorem dX12_dies_16 : decode cX12_dies 16 = .ok (.getfield 88, 3) := by decide +kernel
theorem dX12_dies_19 : decode cX12_dies 19 = .ok (.aload_n 0, 1) := by decide +kernel
theorem dX12_dies_20 : decode cX12_dies 20 = .ok (.getfield 159, 3) := by decide +kernel
theorem dX12_dies_23 : decode cX12_dies 23 = .ok (.iconst 1, 1) := by decide +kernel
theorem dX12_dies_24 : decode cX12_dies 24 = .ok (.isub, 1) := by decide +kernel
theorem dX12_dies_25 : decode cX12_dies 25 = .ok (.iconst 1, 1) := by decide +kernel
theorem dX12_dies_26 : decode cX12_dies 26 = .ok (.bastore, 1) := by decide +kernel
theorem dX12_dies_27 : decode cX12_dies 27 = .ok (.return_, 1) := by decide +kernel
theorem dX12_popped_0 : decode cX12_popped 0 = .ok (.iload_n 2, 1) := by decide +kernel
theorem dX12_popped_1 : decode cX12_popped 1 = .ok (.iconst 3, 1) := by decide +kernel
theorem dX12_popped_2 : decode cX12_popped 2 = .ok (.if_icmp .lt 9, 3) := by decide +kernel
theorem dX12_popped_5 : decode cX12_popped 5 = .ok (.iload_n 2, 1) := by decide +kernel
theorem dX12_popped_6 : decode cX12_popped 6 = .ok (.bipush 16, 2) := by decide +kernel
theorem dX12_popped_8 : decode cX12_popped 8 = .ok (.if_icmp .le 15, 3) := by decide +kernel
theorem dX12_popped_11 : decode cX12_popped 11 = .ok (.iload_n 2, 1) := by decide +kernel
theorem dX12_popped_12 : decode cX12_popped 12 = .ok (.bipush 20, 2) := by decide +kernel
theorem dX12_popped_14 : decode cX12_popped 14 = .ok (.if_icmp .eq 9, 3) := by decide +kernel
theorem dX12_popped_17 : decode cX12_popped 17 = .ok (.iload_n 2, 1) := by decide +kernel
theorem dX12_popped_18 : decode cX12_popped 18 = .ok (.bipush 22, 2) := by decide +kernel
theorem dX12_popped_20 : decode cX12_popped 20 = .ok (.if_icmp .ne 5, 3) := by decide +kernel
theorem dX12_popped_23 : decode cX12_popped 23 = .ok (.iconst 2, 1) := by decide +kernel
theorem dX12_popped_24 : decode cX12_popped 24 = .ok (.ireturn, 1) := by decide +kernel
theorem dX12_popped_25 : decode cX12_popped 25 = .ok (.iload_n 2, 1) := by decide +kernel
theorem dX12_popped_26 : decode cX12_popped 26 = .ok (.iconst 2, 1) := by decide +kernel
theorem dX12_popped_27 : decode cX12_popped 27 = .ok (.if_icmp .eq 33, 3) := by decide +kernel
theorem dX12_popped_30 : decode cX12_popped 30 = .ok (.iload_n 2, 1) := by decide +kernel
theorem dX12_popped_31 : decode cX12_popped 31 = .ok (.bipush 18, 2) := by decide +kernel
theorem dX12_popped_33 : decode cX12_popped 33 = .ok (.if_icmp .eq 27, 3) := by decide +kernel
theorem dX12_popped_36 : decode cX12_popped 36 = .ok (.iload_n 2, 1) := by decide +kernel
theorem dX12_popped_37 : decode cX12_popped 37 = .ok (.bipush 19, 2) := by decide +kernel
theorem dX12_popped_39 : decode cX12_popped 39 = .ok (.if_icmp .eq 21, 3) := by decide +kernel
theorem dX12_popped_42 : decode cX12_popped 42 = .ok (.iload_n 2, 1) := by decide +kernel
theorem dX12_popped_43 : decode cX12_popped 43 = .ok (.bipush 21, 2) := by decide +kernel
theorem dX12_popped_45 : decode cX12_popped 45 = .ok (.if_icmp .eq 15, 3) := by decide +kernel
theorem dX12_popped_48 : decode cX12_popped 48 = .ok (.iload_n 2, 1) := by decide +kernel
theorem dX12_popped_49 : decode cX12_popped 49 = .ok (.bipush 25, 2) := by decide +kernel
theorem dX12_popped_51 : decode cX12_popped 51 = .ok (.if_icmp .eq 9, 3) := by decide +kernel
theorem dX12_popped_54 : decode cX12_popped 54 = .ok (.iload_n 2, 1) := by decide +kernel
theorem dX12_popped_55 : decode cX12_popped 55 = .ok (.bipush 29, 2) := by decide +kernel
theorem dX12_popped_57 : decode cX12_popped 57 = .ok (.if_icmp .ne 5, 3) := by decide +kernel
theorem dX12_popped_60 : decode cX12_popped 60 = .ok (.iconst 1, 1) := by decide +kernel
theorem dX12_popped_61 : decode cX12_popped 61 = .ok (.ireturn, 1) := by decide +kernel
theorem dX12_popped_62 : decode cX12_popped 62 = .ok (.iload_n 2, 1) := by decide +kernel
theorem dX12_popped_63 : decode cX12_popped 63 = .ok (.bipush 17, 2) := by decide +kernel
theorem dX12_popped_65 : decode cX12_popped 65 = .ok (.if_icmp .ne 5, 3) := by decide +kernel
theorem dX12_popped_68 : decode cX12_popped 68 = .ok (.iconst 3, 1) := by decide +kernel
theorem dX12_popped_69 : decode cX12_popped 69 = .ok (.ireturn, 1) := by decide +kernel
theorem dX12_popped_70 : decode cX12_popped 70 = .ok (.iload_n 2, 1) := by decide +kernel
theorem dX12_popped_71 : decode cX12_popped 71 = .ok (.bipush 31, 2) := by decide +kernel
theorem dX12_popped_73 : decode cX12_popped 73 = .ok (.if_icmp .ne 16, 3) := by decide +kernel
theorem dX12_popped_76 : decode cX12_popped 76 = .ok (.aload_n 0, 1) := by decide +kernel
theorem dX12_popped_77 : decode cX12_popped 77 = .ok (.bipush 16, 2) := by decide +kernel
theorem dX12_popped_79 : decode cX12_popped 79 = .ok (.iload_n 1, 1) := by decide +kernel
theorem dX12_popped_80 : decode cX12_popped 80 = .ok (.imul, 1) := by decide +kernel
theorem dX12_popped_81 : decode cX12_popped 81 = .ok (.iload_n 3, 1) := by decide +kernel
theorem dX12_popped_82 : decode cX12_popped 82 = .ok (.iadd, 1) := by decide +kernel
theorem dX12_popped_83 : decode cX12_popped 83 = .ok (.invokevirtual 168, 3) := by decide +kernel
theorem dX12_popped_86 : decode cX12_popped 86 = .ok (.iconst 2, 1) := by decide +kernel
theorem dX12_popped_87 : decode cX12_popped 87 = .ok (.idiv, 1) := by decide +kernel
theorem dX12_popped_88 : decode cX12_popped 88 = .ok (.ireturn, 1) := by decide +kernel
theorem dX12_popped_89 : decode cX12_popped 89 = .ok (.iload_n 2, 1) := by decide +kernel
theorem dX12_popped_90 : decode cX12_popped 90 = .ok (.bipush 32, 2) := by decide +kernel
theorem dX12_popped_92 : decode cX12_popped 92 = .ok (.if_icmp .ne 11, 3) := by decide +kernel
theorem dX12_popped_95 : decode cX12_popped 95 = .ok (.iconst 1, 1) := by decide +kernel
theorem dX12_popped_96 : decode cX12_popped 96 = .ok (.iload_n 3, 1) := by decide +kernel
theorem dX12_popped_97 : decode cX12_popped 97 = .ok (.iconst 2, 1) := by decide +kernel
theorem dX12_popped_98 : decode cX12_popped 98 = .ok (.idiv, 1) := by decide +kernel
theorem dX12_popped_99 : decode cX12_popped 99 = .ok (.iadd, 1) := by decide +kernel
theorem dX12_popped_100 : decode cX12_popped 100 = .ok (.goto 4, 3) := by decide +kernel
theorem dX12_popped_103 : decode cX12_popped 103 = .ok (.iconst 0, 1) := by decide +kernel
theorem dX12_popped_104 : decode cX12_popped 104 = .ok (.ireturn, 1) := by decide +kernel
theorem dX12_pushed_0 : decode cX12_pushed 0 = .ok (.iload_n 2, 1) := by decide +kernel
theorem dX12_pushed_1 : decode cX12_pushed 1 = .ok (.bipush 31, 2) := by decide +kernel
theorem dX12_pushed_3 : decode cX12_pushed 3 = .ok (.if_icmp .ne 16, 3) := by decide +kernel
theorem dX12_pushed_6 : decode cX12_pushed 6 = .ok (.aload_n 0, 1) := by decide +kernel
theorem dX12_pushed_7 : decode cX12_pushed 7 = .ok (.bipush 16, 2) := by decide +kernel
theorem dX12_pushed_9 : decode cX12_pushed 9 = .ok (.iload_n 1, 1) := by decide +kernel
theorem dX12_pushed_10 : decode cX12_pushed 10 = .ok (.imul, 1) := by decide +kernel
theorem dX12_pushed_11 : decode cX12_pushed 11 = .ok (.iload_n 3, 1) := by decide +kernel
theorem dX12_pushed_12 : decode cX12_pushed 12 = .ok (.iadd, 1) := by decide +kernel
theorem dX12_pushed_13 : decode cX12_pushed 13 = .ok (.invokevirtual 168, 3) := by decide +kernel
theorem dX12_pushed_16 : decode cX12_pushed 16 = .ok (.iconst 2, 1) := by decide +kernel
theorem dX12_pushed_17 : decode cX12_pushed 17 = .ok (.irem, 1) := by decide +kernel
theorem dX12_pushed_18 : decode cX12_pushed 18 = .ok (.ireturn, 1) := by decide +kernel
theorem dX12_pushed_19 : decode cX12_pushed 19 = .ok (.iload_n 2, 1) := by decide +kernel
theorem dX12_pushed_20 : decode cX12_pushed 20 = .ok (.bipush 32, 2) := by decide +kernel
theorem dX12_pushed_22 : decode cX12_pushed 22 = .ok (.if_icmp .ne 7, 3) := by decide +kernel
theorem dX12_pushed_25 : decode cX12_pushed 25 = .ok (.iload_n 3, 1) := by decide +kernel
theorem dX12_pushed_26 : decode cX12_pushed 26 = .ok (.iconst 2, 1) := by decide +kernel
theorem dX12_pushed_27 : decode cX12_pushed 27 = .ok (.irem, 1) := by decide +kernel
theorem dX12_pushed_28 : decode cX12_pushed 28 = .ok (.ireturn, 1) := by decide +kernel
theorem dX12_pushed_29 : decode cX12_pushed 29 = .ok (.iload_n 2, 1) := by decide +kernel
theorem dX12_pushed_30 : decode cX12_pushed 30 = .ok (.iconst 2, 1) := by decide +kernel
theorem dX12_pushed_31 : decode cX12_pushed 31 = .ok (.if_icmp .eq 33, 3) := by decide +kernel
theorem dX12_pushed_34 : decode cX12_pushed 34 = .ok (.iload_n 2, 1) := by decide +kernel
theorem dX12_pushed_35 : decode cX12_pushed 35 = .ok (.bipush 18, 2) := by decide +kernel
theorem dX12_pushed_37 : decode cX12_pushed 37 = .ok (.if_icmp .eq 27, 3) := by decide +kernel
theorem dX12_pushed_40 : decode cX12_pushed 40 = .ok (.iload_n 2, 1) := by decide +kernel
theorem dX12_pushed_41 : decode cX12_pushed 41 = .ok (.bipush 20, 2) := by decide +kernel
theorem dX12_pushed_43 : decode cX12_pushed 43 = .ok (.if_icmp .eq 21, 3) := by decide +kernel
theorem dX12_pushed_46 : decode cX12_pushed 46 = .ok (.iload_n 2, 1) := by decide +kernel
theorem dX12_pushed_47 : decode cX12_pushed 47 = .ok (.bipush 22, 2) := by decide +kernel
theorem dX12_pushed_49 : decode cX12_pushed 49 = .ok (.if_icmp .eq 15, 3) := by decide +kernel
theorem dX12_pushed_52 : decode cX12_pushed 52 = .ok (.iload_n 2, 1) := by decide +kernel
theorem dX12_pushed_53 : decode cX12_pushed 53 = .ok (.bipush 23, 2) := by decide +kernel
theorem dX12_pushed_55 : decode cX12_pushed 55 = .ok (.if_icmp .lt 13, 3) := by decide +kernel
theorem dX12_pushed_58 : decode cX12_pushed 58 = .ok (.iload_n 2, 1) := by decide +kernel
theorem dX12_pushed_59 : decode cX12_pushed 59 = .ok (.bipush 30, 2) := by decide +kernel
theorem dX12_pushed_61 : decode cX12_pushed 61 = .ok (.if_icmp .gt 7, 3) := by decide +kernel
theorem dX12_pushed_64 : decode cX12_pushed 64 = .ok (.iconst 0, 1) := by decide +kernel
theorem dX12_pushed_65 : decode cX12_pushed 65 = .ok (.goto 4, 3) := by decide +kernel
theorem dX12_pushed_68 : decode cX12_pushed 68 = .ok (.iconst 1, 1) := by decide +kernel
theorem dX12_pushed_69 : decode cX12_pushed 69 = .ok (.ireturn, 1) := by decide +kernel
theorem dX12_wrongPlace_0 : decode cX12_wrongPlace 0 = .ok (.aload_n 0, 1) := by decide +kernel
theorem dX12_wrongPlace_1 : decode cX12_wrongPlace 1 = .ok (.iconst 0, 1) := by decide +kernel
theorem dX12_wrongPlace_2 : decode cX12_wrongPlace 2 = .ok (.putfield 159, 3) := by decide +kernel
theorem dX12_wrongPlace_5 : decode cX12_wrongPlace 5 = .ok (.aload_n 0, 1) := by decide +kernel
theorem dX12_wrongPlace_6 : decode cX12_wrongPlace 6 = .ok (.iconst 0, 1) := by decide +kernel
theorem dX12_wrongPlace_7 : decode cX12_wrongPlace 7 = .ok (.putfield 162, 3) := by decide +kernel
theorem dX12_wrongPlace_10 : decode cX12_wrongPlace 10 = .ok (.aload_n 0, 1) := by decide +kernel
theorem dX12_wrongPlace_11 : decode cX12_wrongPlace 11 = .ok (.iconst 0, 1) := by decide +kernel
theorem dX12_wrongPlace_12 : decode cX12_wrongPlace 12 = .ok (.aload_n 0, 1) := by decide +kernel
theorem dX12_wrongPlace_13 : decode cX12_wrongPlace 13 = .ok (.getfield 22, 3) := by decide +kernel
theorem dX12_wrongPlace_16 : decode cX12_wrongPlace 16 = .ok (.iload_n 1, 1) := by decide +kernel
theorem dX12_wrongPlace_17 : decode cX12_wrongPlace 17 = .ok (.iaload, 1) := by decide +kernel
theorem dX12_wrongPlace_18 : decode cX12_wrongPlace 18 = .ok (.invokevirtual 171, 3) := by decide +kernel
theorem dX12_wrongPlace_21 : decode cX12_wrongPlace 21 = .ok (.iconst 0, 1) := by decide +kernel
theorem dX12_wrongPlace_22 : decode cX12_wrongPlace 22 = .ok (.istore_n 2, 1) := by decide +kernel
theorem dX12_wrongPlace_23 : decode cX12_wrongPlace 23 = .ok (.iload_n 2, 1) := by decide +kernel
theorem dX12_wrongPlace_24 : decode cX12_wrongPlace 24 = .ok (.aload_n 0, 1) := by decide +kernel
theorem dX12_wrongPlace_25 : decode cX12_wrongPlace 25 = .ok (.getfield 28, 3) := by decide +kernel
theorem dX12_wrongPlace_28 : decode cX12_wrongPlace 28 = .ok (.iload_n 1, 1) := by decide +kernel
theorem dX12_wrongPlace_29 : decode cX12_wrongPlace 29 = .ok (.iaload, 1) := by decide +kernel
theorem dX12_wrongPlace_30 : decode cX12_wrongPlace 30 = .ok (.if_icmp .ge 400, 3) := by decide +kernel
theorem dX12_wrongPlace_33 : decode cX12_wrongPlace 33 = .ok (.aload_n 0, 1) := by decide +kernel
theorem dX12_wrongPlace_34 : decode cX12_wrongPlace 34 = .ok (.getfield 31, 3) := by decide +kernel
theorem dX12_wrongPlace_37 : decode cX12_wrongPlace 37 = .ok (.bipush 60, 2) := by decide +kernel
theorem dX12_wrongPlace_39 : decode cX12_wrongPlace 39 = .ok (.iload_n 1, 1) := by decide +kernel
theorem dX12_wrongPlace_40 : decode cX12_wrongPlace 40 = .ok (.imul, 1) := by decide +kernel
theorem dX12_wrongPlace_41 : decode cX12_wrongPlace 41 = .ok (.iload_n 2, 1) := by decide +kernel
theorem dX12_wrongPlace_42 : decode cX12_wrongPlace 42 = .ok (.iadd, 1) := by decide +kernel
theorem dX12_wrongPlace_43 : decode cX12_wrongPlace 43 = .ok (.iaload, 1) := by decide +kernel
theorem dX12_wrongPlace_44 : decode cX12_wrongPlace 44 = .ok (.istore_n 3, 1) := by decide +kernel
theorem dX12_wrongPlace_45 : decode cX12_wrongPlace 45 = .ok (.aload_n 0, 1) := by decide +kernel
theorem dX12_wrongPlace_46 : decode cX12_wrongPlace 46 = .ok (.getfield 34, 3) := by decide +kernel
theorem dX12_wrongPlace_49 : decode cX12_wrongPlace 49 = .ok (.bipush 60, 2) := by decide +kernel
theorem dX12_wrongPlace_51 : decode cX12_wrongPlace 51 = .ok (.iload_n 1, 1) := by decide +kernel
theorem dX12_wrongPlace_52 : decode cX12_wrongPlace 52 = .ok (.imul, 1) := by decide +kernel
theorem dX12_wrongPlace_53 : decode cX12_wrongPlace 53 = .ok (.iload_n 2, 1) := by decide +kernel
theorem dX12_wrongPlace_54 : decode cX12_wrongPlace 54 = .ok (.iadd, 1) := by decide +kernel
theorem dX12_wrongPlace_55 : decode cX12_wrongPlace 55 = .ok (.iaload, 1) := by decide +kernel
theorem dX12_wrongPlace_56 : decode cX12_wrongPlace 56 = .ok (.istore 4, 2) := by decide +kernel
theorem dX12_wrongPlace_58 : decode cX12_wrongPlace 58 = .ok (.aload_n 0, 1) := by decide +kernel
theorem dX12_wrongPlace_59 : decode cX12_wrongPlace 59 = .ok (.aload_n 0, 1) := by decide +kernel
theorem dX12_wrongPlace_60 : decode cX12_wrongPlace 60 = .ok (.iload_n 1, 1) := by decide +kernel
theorem dX12_wrongPlace_61 : decode cX12_wrongPlace 61 = .ok (.bipush 8, 2) := by decide +kernel
theorem dX12_wrongPlace_63 : decode cX12_wrongPlace 63 = .ok (.idiv, 1) := by decide +kernel
theorem dX12_wrongPlace_64 : decode cX12_wrongPlace 64 = .ok (.iload_n 3, 1) := by decide +kernel
theorem dX12_wrongPlace_65 : decode cX12_wrongPlace 65 = .ok (.iload 4, 2) := by decide +kernel
theorem dX12_wrongPlace_67 : decode cX12_wrongPlace 67 = .ok (.invokevirtual 175, 3) := by decide +kernel
theorem dX12_wrongPlace_70 : decode cX12_wrongPlace 70 = .ok (.invokevirtual 165, 3) := by decide +kernel
theorem dX12_wrongPlace_73 : decode cX12_wrongPlace 73 = .ok (.ifCond .ne 5, 3) := by decide +kernel
theorem dX12_wrongPlace_76 : decode cX12_wrongPlace 76 = .ok (.iload_n 2, 1) := by decide +kernel
theorem dX12_wrongPlace_77 : decode cX12_wrongPlace 77 = .ok (.ireturn, 1) := by decide +kernel
theorem dX12_wrongPlace_78 : decode cX12_wrongPlace 78 = .ok (.aload_n 0, 1) := by decide +kernel
theorem dX12_wrongPlace_79 : decode cX12_wrongPlace 79 = .ok (.dup, 1) := by decide +kernel
theorem dX12_wrongPlace_80 : decode cX12_wrongPlace 80 = .ok (.getfield 162, 3) := by decide +kernel
theorem dX12_wrongPlace_83 : decode cX12_wrongPlace 83 = .ok (.aload_n 0, 1) := by decide +kernel
theorem dX12_wrongPlace_84 : decode cX12_wrongPlace 84 = .ok (.iload_n 1, 1) := by decide +kernel
theorem dX12_wrongPlace_85 : decode cX12_wrongPlace 85 = .ok (.bipush 8, 2) := by decide +kernel
theorem dX12_wrongPlace_87 : decode cX12_wrongPlace 87 = .ok (.idiv, 1) := by decide +kernel
theorem dX12_wrongPlace_88 : decode cX12_wrongPlace 88 = .ok (.iload_n 3, 1) := by decide +kernel
theorem dX12_wrongPlace_89 : decode cX12_wrongPlace 89 = .ok (.iload 4, 2) := by decide +kernel
theorem dX12_wrongPlace_91 : decode cX12_wrongPlace 91 = .ok (.invokevirtual 179, 3) := by decide +kernel
theorem dX12_wrongPlace_94 : decode cX12_wrongPlace 94 = .ok (.iadd, 1) := by decide +kernel
theorem dX12_wrongPlace_95 : decode cX12_wrongPlace 95 = .ok (.putfield 162, 3) := by decide +kernel
theorem dX12_wrongPlace_98 : decode cX12_wrongPlace 98 = .ok (.iload_n 3, 1) := by decide +kernel
theorem dX12_wrongPlace_99 : decode cX12_wrongPlace 99 = .ok (.bipush 23, 2) := by decide +kernel
theorem dX12_wrongPlace_101 : decode cX12_wrongPlace 101 = .ok (.if_icmp .lt 19, 3) := by decide +kernel
theorem dX12_wrongPlace_104 : decode cX12_wrongPlace 104 = .ok (.iload_n 3, 1) := by decide +kernel
theorem dX12_wrongPlace_105 : decode cX12_wrongPlace 105 = .ok (.bipush 25, 2) := by decide +kernel
theorem dX12_wrongPlace_107 : decode cX12_wrongPlace 107 = .ok (.if_icmp .gt 13, 3) := by decide +kernel
theorem dX12_wrongPlace_110 : decode cX12_wrongPlace 110 = .ok (.aload_n 0, 1) := by decide +kernel
theorem dX12_wrongPlace_111 : decode cX12_wrongPlace 111 = .ok (.iload_n 3, 1) := by decide +kernel
theorem dX12_wrongPlace_112 : decode cX12_wrongPlace 112 = .ok (.iload 4, 2) := by decide +kernel
theorem dX12_wrongPlace_114 : decode cX12_wrongPlace 114 = .ok (.invokevirtual 171, 3) := by decide +kernel
theorem dX12_wrongPlace_117 : decode cX12_wrongPlace 117 = .ok (.goto 307, 3) := by decide +kernel
theorem dX12_wrongPlace_120 : decode cX12_wrongPlace 120 = .ok (.iload_n 3, 1) := by decide +kernel
theorem dX12_wrongPlace_121 : decode cX12_wrongPlace 121 = .ok (.bipush 26, 2) := by decide +kernel
theorem dX12_wrongPlace_123 : decode cX12_wrongPlace 123 = .ok (.if_icmp .ne 69, 3) := by decide +kernel
theorem dX12_wrongPlace_126 : decode cX12_wrongPlace 126 = .ok (.aload_n 0, 1) := by decide +kernel
theorem dX12_wrongPlace_127 : decode cX12_wrongPlace 127 = .ok (.getfield 79, 3) := by decide +kernel
theorem dX12_wrongPlace_130 : decode cX12_wrongPlace 130 = .ok (.aload_n 0, 1) := by decide +kernel
theorem dX12_wrongPlace_131 : decode cX12_wrongPlace 131 = .ok (.getfield 159, 3) := by decide +kernel
theorem dX12_wrongPlace_134 : decode cX12_wrongPlace 134 = .ok (.iconst 1, 1) := by decide +kernel
theorem dX12_wrongPlace_135 : decode cX12_wrongPlace 135 = .ok (.isub, 1) := by decide +kernel
theorem dX12_wrongPlace_136 : decode cX12_wrongPlace 136 = .ok (.iaload, 1) := by decide +kernel
theorem dX12_wrongPlace_137 : decode cX12_wrongPlace 137 = .ok (.bipush 25, 2) := by decide +kernel
theorem dX12_wrongPlace_139 : decode cX12_wrongPlace 139 = .ok (.if_icmp .ne 24, 3) := by decide +kernel
theorem dX12_wrongPlace_142 : decode cX12_wrongPlace 142 = .ok (.aload_n 0, 1) := by decide +kernel
theorem dX12_wrongPlace_143 : decode cX12_wrongPlace 143 = .ok (.getfield 92, 3) := by decide +kernel
theorem dX12_wrongPlace_146 : decode cX12_wrongPlace 146 = .ok (.aload_n 0, 1) := by decide +kernel
theorem dX12_wrongPlace_147 : decode cX12_wrongPlace 147 = .ok (.getfield 159, 3) := by decide +kernel
theorem dX12_wrongPlace_150 : decode cX12_wrongPlace 150 = .ok (.iconst 1, 1) := by decide +kernel
theorem dX12_wrongPlace_151 : decode cX12_wrongPlace 151 = .ok (.isub, 1) := by decide +kernel
theorem dX12_wrongPlace_152 : decode cX12_wrongPlace 152 = .ok (.baload, 1) := by decide +kernel
theorem dX12_wrongPlace_153 : decode cX12_wrongPlace 153 = .ok (.ifCond .ne 10, 3) := by decide +kernel
theorem dX12_wrongPlace_156 : decode cX12_wrongPlace 156 = .ok (.aload_n 0, 1) := by decide +kernel
theorem dX12_wrongPlace_157 : decode cX12_wrongPlace 157 = .ok (.invokevirtual 182, 3) := by decide +kernel
theorem dX12_wrongPlace_160 : decode cX12_wrongPlace 160 = .ok (.ifCond .ne 5, 3) := by decide +kernel
theorem dX12_wrongPlace_163 : decode cX12_wrongPlace 163 = .ok (.iload_n 2, 1) := by decide +kernel
theorem dX12_wrongPlace_164 : decode cX12_wrongPlace 164 = .ok (.ireturn, 1) := by decide +kernel
theorem dX12_wrongPlace_165 : decode cX12_wrongPlace 165 = .ok (.aload_n 0, 1) := by decide +kernel
theorem dX12_wrongPlace_166 : decode cX12_wrongPlace 166 = .ok (.getfield 92, 3) := by decide +kernel
theorem dX12_wrongPlace_169 : decode cX12_wrongPlace 169 = .ok (.aload_n 0, 1) := by decide +kernel
theorem dX12_wrongPlace_170 : decode cX12_wrongPlace 170 = .ok (.getfield 159, 3) := by decide +kernel
theorem dX12_wrongPlace_173 : decode cX12_wrongPlace 173 = .ok (.iconst 1, 1) := by decide +kernel
theorem dX12_wrongPlace_174 : decode cX12_wrongPlace 174 = .ok (.isub, 1) := by decide +kernel
theorem dX12_wrongPlace_175 : decode cX12_wrongPlace 175 = .ok (.iconst 1, 1) := by decide +kernel
theorem dX12_wrongPlace_176 : decode cX12_wrongPlace 176 = .ok (.bastore, 1) := by decide +kernel
theorem dX12_wrongPlace_177 : decode cX12_wrongPlace 177 = .ok (.aload_n 0, 1) := by decide +kernel
theorem dX12_wrongPlace_178 : decode cX12_wrongPlace 178 = .ok (.getfield 88, 3) := by decide +kernel
theorem dX12_wrongPlace_181 : decode cX12_wrongPlace 181 = .ok (.aload_n 0, 1) := by decide +kernel
theorem dX12_wrongPlace_182 : decode cX12_wrongPlace 182 = .ok (.getfield 159, 3) := by decide +kernel
theorem dX12_wrongPlace_185 : decode cX12_wrongPlace 185 = .ok (.iconst 1, 1) := by decide +kernel
theorem dX12_wrongPlace_186 : decode cX12_wrongPlace 186 = .ok (.isub, 1) := by decide +kernel
theorem dX12_wrongPlace_187 : decode cX12_wrongPlace 187 = .ok (.iconst 0, 1) := by decide +kernel
theorem dX12_wrongPlace_188 : decode cX12_wrongPlace 188 = .ok (.bastore, 1) := by decide +kernel
theorem dX12_wrongPlace_189 : decode cX12_wrongPlace 189 = .ok (.goto 235, 3) := by decide +kernel
theorem dX12_wrongPlace_192 : decode cX12_wrongPlace 192 = .ok (.iload_n 3, 1) := by decide +kernel
theorem dX12_wrongPlace_193 : decode cX12_wrongPlace 193 = .ok (.bipush 27, 2) := by decide +kernel
theorem dX12_wrongPlace_195 : decode cX12_wrongPlace 195 = .ok (.if_icmp .ne 107, 3) := by decide +kernel
theorem dX12_wrongPlace_198 : decode cX12_wrongPlace 198 = .ok (.aload_n 0, 1) := by decide +kernel
theorem dX12_wrongPlace_199 : decode cX12_wrongPlace 199 = .ok (.getfield 79, 3) := by decide +kernel
theorem dX12_wrongPlace_202 : decode cX12_wrongPlace 202 = .ok (.aload_n 0, 1) := by decide +kernel
theorem dX12_wrongPlace_203 : decode cX12_wrongPlace 203 = .ok (.getfield 159, 3) := by decide +kernel
theorem dX12_wrongPlace_206 : decode cX12_wrongPlace 206 = .ok (.iconst 1, 1) := by decide +kernel
theorem dX12_wrongPlace_207 : decode cX12_wrongPlace 207 = .ok (.isub, 1) := by decide +kernel
theorem dX12_wrongPlace_208 : decode cX12_wrongPlace 208 = .ok (.iaload, 1) := by decide +kernel
theorem dX12_wrongPlace_209 : decode cX12_wrongPlace 209 = .ok (.bipush 25, 2) := by decide +kernel
theorem dX12_wrongPlace_211 : decode cX12_wrongPlace 211 = .ok (.if_icmp .ne 35, 3) := by decide +kernel
theorem dX12_wrongPlace_214 : decode cX12_wrongPlace 214 = .ok (.aload_n 0, 1) := by decide +kernel
theorem dX12_wrongPlace_215 : decode cX12_wrongPlace 215 = .ok (.getfield 92, 3) := by decide +kernel
theorem dX12_wrongPlace_218 : decode cX12_wrongPlace 218 = .ok (.aload_n 0, 1) := by decide +kernel
theorem dX12_wrongPlace_219 : decode cX12_wrongPlace 219 = .ok (.getfield 159, 3) := by decide +kernel
theorem dX12_wrongPlace_222 : decode cX12_wrongPlace 222 = .ok (.iconst 1, 1) := by decide +kernel
theorem dX12_wrongPlace_223 : decode cX12_wrongPlace 223 = .ok (.isub, 1) := by decide +kernel
theorem dX12_wrongPlace_224 : decode cX12_wrongPlace 224 = .ok (.baload, 1) := by decide +kernel
theorem dX12_wrongPlace_225 : decode cX12_wrongPlace 225 = .ok (.ifCond .ne 21, 3) := by decide +kernel
theorem dX12_wrongPlace_228 : decode cX12_wrongPlace 228 = .ok (.aload_n 0, 1) := by decide +kernel
theorem dX12_wrongPlace_229 : decode cX12_wrongPlace 229 = .ok (.getfield 82, 3) := by decide +kernel
theorem dX12_wrongPlace_232 : decode cX12_wrongPlace 232 = .ok (.aload_n 0, 1) := by decide +kernel
theorem dX12_wrongPlace_233 : decode cX12_wrongPlace 233 = .ok (.getfield 159, 3) := by decide +kernel
theorem dX12_wrongPlace_236 : decode cX12_wrongPlace 236 = .ok (.iconst 1, 1) := by decide +kernel
theorem dX12_wrongPlace_237 : decode cX12_wrongPlace 237 = .ok (.isub, 1) := by decide +kernel
theorem dX12_wrongPlace_238 : decode cX12_wrongPlace 238 = .ok (.iaload, 1) := by decide +kernel
theorem dX12_wrongPlace_239 : decode cX12_wrongPlace 239 = .ok (.ifCond .le 7, 3) := by decide +kernel
theorem dX12_wrongPlace_242 : decode cX12_wrongPlace 242 = .ok (.iconst 1, 1) := by decide +kernel
theorem dX12_wrongPlace_243 : decode cX12_wrongPlace 243 = .ok (.goto 4, 3) := by decide +kernel
theorem dX12_wrongPlace_246 : decode cX12_wrongPlace 246 = .ok (.iconst 0, 1) := by decide +kernel
theorem dX12_wrongPlace_247 : decode cX12_wrongPlace 247 = .ok (.istore 5, 2) := by decide +kernel
theorem dX12_wrongPlace_249 : decode cX12_wrongPlace 249 = .ok (.aload_n 0, 1) := by decide +kernel
theorem dX12_wrongPlace_250 : decode cX12_wrongPlace 250 = .ok (.getfield 159, 3) := by decide +kernel
theorem dX12_wrongPlace_253 : decode cX12_wrongPlace 253 = .ok (.iconst 1, 1) := by decide +kernel
theorem dX12_wrongPlace_254 : decode cX12_wrongPlace 254 = .ok (.if_icmp .eq 15, 3) := by decide +kernel
theorem dX12_wrongPlace_257 : decode cX12_wrongPlace 257 = .ok (.aload_n 0, 1) := by decide +kernel
theorem dX12_wrongPlace_258 : decode cX12_wrongPlace 258 = .ok (.invokevirtual 182, 3) := by decide +kernel
theorem dX12_wrongPlace_261 : decode cX12_wrongPlace 261 = .ok (.ifCond .eq 8, 3) := by decide +kernel
theorem dX12_wrongPlace_264 : decode cX12_wrongPlace 264 = .ok (.iload 5, 2) := by decide +kernel
theorem dX12_wrongPlace_266 : decode cX12_wrongPlace 266 = .ok (.ifCond .eq 5, 3) := by decide +kernel
theorem dX12_wrongPlace_269 : decode cX12_wrongPlace 269 = .ok (.iload_n 2, 1) := by decide +kernel
theorem dX12_wrongPlace_270 : decode cX12_wrongPlace 270 = .ok (.ireturn, 1) := by decide +kernel
theorem dX12_wrongPlace_271 : decode cX12_wrongPlace 271 = .ok (.aload_n 0, 1) := by decide +kernel
theorem dX12_wrongPlace_272 : decode cX12_wrongPlace 272 = .ok (.dup, 1) := by decide +kernel
theorem dX12_wrongPlace_273 : decode cX12_wrongPlace 273 = .ok (.getfield 159, 3) := by decide +kernel
theorem dX12_wrongPlace_276 : decode cX12_wrongPlace 276 = .ok (.iconst 1, 1) := by decide +kernel
theorem dX12_wrongPlace_277 : decode cX12_wrongPlace 277 = .ok (.isub, 1) := by decide +kernel
theorem dX12_wrongPlace_278 : decode cX12_wrongPlace 278 = .ok (.putfield 159, 3) := by decide +kernel
theorem dX12_wrongPlace_281 : decode cX12_wrongPlace 281 = .ok (.aload_n 0, 1) := by decide +kernel
theorem dX12_wrongPlace_282 : decode cX12_wrongPlace 282 = .ok (.dup, 1) := by decide +kernel
theorem dX12_wrongPlace_283 : decode cX12_wrongPlace 283 = .ok (.getfield 162, 3) := by decide +kernel
theorem dX12_wrongPlace_286 : decode cX12_wrongPlace 286 = .ok (.aload_n 0, 1) := by decide +kernel
theorem dX12_wrongPlace_287 : decode cX12_wrongPlace 287 = .ok (.getfield 82, 3) := by decide +kernel
theorem dX12_wrongPlace_290 : decode cX12_wrongPlace 290 = .ok (.aload_n 0, 1) := by decide +kernel
theorem dX12_wrongPlace_291 : decode cX12_wrongPlace 291 = .ok (.getfield 159, 3) := by decide +kernel
theorem dX12_wrongPlace_294 : decode cX12_wrongPlace 294 = .ok (.iaload, 1) := by decide +kernel
theorem dX12_wrongPlace_295 : decode cX12_wrongPlace 295 = .ok (.iadd, 1) := by decide +kernel
theorem dX12_wrongPlace_296 : decode cX12_wrongPlace 296 = .ok (.putfield 162, 3) := by decide +kernel
theorem dX12_wrongPlace_299 : decode cX12_wrongPlace 299 = .ok (.goto 125, 3) := by decide +kernel
theorem dX12_wrongPlace_302 : decode cX12_wrongPlace 302 = .ok (.iload_n 3, 1) := by decide +kernel
theorem dX12_wrongPlace_303 : decode cX12_wrongPlace 303 = .ok (.bipush 28, 2) := by decide +kernel
theorem dX12_wrongPlace_305 : decode cX12_wrongPlace 305 = .ok (.if_icmp .eq 9, 3) := by decide +kernel
theorem dX12_wrongPlace_308 : decode cX12_wrongPlace 308 = .ok (.iload_n 3, 1) := by decide +kernel
theorem dX12_wrongPlace_309 : decode cX12_wrongPlace 309 = .ok (.bipush 29, 2) := by decide +kernel
theorem dX12_wrongPlace_311 : decode cX12_wrongPlace 311 = .ok (.if_icmp .ne 88, 3) := by decide +kernel
theorem dX12_wrongPlace_314 : decode cX12_wrongPlace 314 = .ok (.iload 4, 2) := by decide +kernel
theorem dX12_wrongPlace_316 : decode cX12_wrongPlace 316 = .ok (.aload_n 0, 1) := by decide +kernel
theorem dX12_wrongPlace_317 : decode cX12_wrongPlace 317 = .ok (.getfield 159, 3) := by decide +kernel
theorem dX12_wrongPlace_320 : decode cX12_wrongPlace 320 = .ok (.if_icmp .lt 5, 3) := by decide +kernel
theorem dX12_wrongPlace_323 : decode cX12_wrongPlace 323 = .ok (.iload_n 2, 1) := by decide +kernel
theorem dX12_wrongPlace_324 : decode cX12_wrongPlace 324 = .ok (.ireturn, 1) := by decide +kernel
theorem dX12_wrongPlace_325 : decode cX12_wrongPlace 325 = .ok (.aload_n 0, 1) := by decide +kernel
theorem dX12_wrongPlace_326 : decode cX12_wrongPlace 326 = .ok (.getfield 159, 3) := by decide +kernel
theorem dX12_wrongPlace_329 : decode cX12_wrongPlace 329 = .ok (.iconst 1, 1) := by decide +kernel
theorem dX12_wrongPlace_330 : decode cX12_wrongPlace 330 = .ok (.isub, 1) := by decide +kernel
theorem dX12_wrongPlace_331 : decode cX12_wrongPlace 331 = .ok (.iload 4, 2) := by decide +kernel
theorem dX12_wrongPlace_333 : decode cX12_wrongPlace 333 = .ok (.isub, 1) := by decide +kernel
theorem dX12_wrongPlace_334 : decode cX12_wrongPlace 334 = .ok (.istore 5, 2) := by decide +kernel
theorem dX12_wrongPlace_336 : decode cX12_wrongPlace 336 = .ok (.aload_n 0, 1) := by decide +kernel
theorem dX12_wrongPlace_337 : decode cX12_wrongPlace 337 = .ok (.getfield 79, 3) := by decide +kernel
theorem dX12_wrongPlace_340 : decode cX12_wrongPlace 340 = .ok (.iload 5, 2) := by decide +kernel
theorem dX12_wrongPlace_342 : decode cX12_wrongPlace 342 = .ok (.iaload, 1) := by decide +kernel
theorem dX12_wrongPlace_343 : decode cX12_wrongPlace 343 = .ok (.bipush 24, 2) := by decide +kernel
theorem dX12_wrongPlace_345 : decode cX12_wrongPlace 345 = .ok (.if_icmp .ne 7, 3) := by decide +kernel
theorem dX12_wrongPlace_348 : decode cX12_wrongPlace 348 = .ok (.iconst 0, 1) := by decide +kernel
theorem dX12_wrongPlace_349 : decode cX12_wrongPlace 349 = .ok (.goto 10, 3) := by decide +kernel
theorem dX12_wrongPlace_352 : decode cX12_wrongPlace 352 = .ok (.aload_n 0, 1) := by decide +kernel
theorem dX12_wrongPlace_353 : decode cX12_wrongPlace 353 = .ok (.getfield 82, 3) := by decide +kernel
theorem dX12_wrongPlace_356 : decode cX12_wrongPlace 356 = .ok (.iload 5, 2) := by decide +kernel
theorem dX12_wrongPlace_358 : decode cX12_wrongPlace 358 = .ok (.iaload, 1) := by decide +kernel
theorem dX12_wrongPlace_359 : decode cX12_wrongPlace 359 = .ok (.istore 6, 2) := by decide +kernel
theorem dX12_wrongPlace_361 : decode cX12_wrongPlace 361 = .ok (.aload_n 0, 1) := by decide +kernel
theorem dX12_wrongPlace_362 : decode cX12_wrongPlace 362 = .ok (.iload 6, 2) := by decide +kernel
theorem dX12_wrongPlace_364 : decode cX12_wrongPlace 364 = .ok (.invokevirtual 165, 3) := by decide +kernel
theorem dX12_wrongPlace_367 : decode cX12_wrongPlace 367 = .ok (.ifCond .ne 5, 3) := by decide +kernel
theorem dX12_wrongPlace_370 : decode cX12_wrongPlace 370 = .ok (.iload_n 2, 1) := by decide +kernel
theorem dX12_wrongPlace_371 : decode cX12_wrongPlace 371 = .ok (.ireturn, 1) := by decide +kernel
theorem dX12_wrongPlace_372 : decode cX12_wrongPlace 372 = .ok (.iload_n 3, 1) := by decide +kernel
theorem dX12_wrongPlace_373 : decode cX12_wrongPlace 373 = .ok (.bipush 28, 2) := by decide +kernel
theorem dX12_wrongPlace_375 : decode cX12_wrongPlace 375 = .ok (.if_icmp .ne 10, 3) := by decide +kernel
theorem dX12_wrongPlace_378 : decode cX12_wrongPlace 378 = .ok (.aload_n 0, 1) := by decide +kernel
theorem dX12_wrongPlace_379 : decode cX12_wrongPlace 379 = .ok (.invokevirtual 186, 3) := by decide +kernel
theorem dX12_wrongPlace_382 : decode cX12_wrongPlace 382 = .ok (.goto 14, 3) := by decide +kernel
theorem dX12_wrongPlace_385 : decode cX12_wrongPlace 385 = .ok (.aload_n 0, 1) := by decide +kernel
theorem dX12_wrongPlace_386 : decode cX12_wrongPlace 386 = .ok (.dup, 1) := by decide +kernel
theorem dX12_wrongPlace_387 : decode cX12_wrongPlace 387 = .ok (.getfield 162, 3) := by decide +kernel
theorem dX12_wrongPlace_390 : decode cX12_wrongPlace 390 = .ok (.iload 6, 2) := by decide +kernel
theorem dX12_wrongPlace_392 : decode cX12_wrongPlace 392 = .ok (.iadd, 1) := by decide +kernel
theorem dX12_wrongPlace_393 : decode cX12_wrongPlace 393 = .ok (.putfield 162, 3) := by decide +kernel
theorem dX12_wrongPlace_396 : decode cX12_wrongPlace 396 = .ok (.goto 28, 3) := by decide +kernel
theorem dX12_wrongPlace_399 : decode cX12_wrongPlace 399 = .ok (.iload_n 3, 1) := by decide +kernel
theorem dX12_wrongPlace_400 : decode cX12_wrongPlace 400 = .ok (.bipush 30, 2) := by decide +kernel
theorem dX12_wrongPlace_402 : decode cX12_wrongPlace 402 = .ok (.if_icmp .ne 22, 3) := by decide +kernel
theorem dX12_wrongPlace_405 : decode cX12_wrongPlace 405 = .ok (.aload_n 0, 1) := by decide +kernel
theorem dX12_wrongPlace_406 : decode cX12_wrongPlace 406 = .ok (.aload_n 0, 1) := by decide +kernel
theorem dX12_wrongPlace_407 : decode cX12_wrongPlace 407 = .ok (.getfield 22, 3) := by decide +kernel
theorem dX12_wrongPlace_410 : decode cX12_wrongPlace 410 = .ok (.iload_n 1, 1) := by decide +kernel
theorem dX12_wrongPlace_411 : decode cX12_wrongPlace 411 = .ok (.iaload, 1) := by decide +kernel
theorem dX12_wrongPlace_412 : decode cX12_wrongPlace 412 = .ok (.invokevirtual 165, 3) := by decide +kernel
theorem dX12_wrongPlace_415 : decode cX12_wrongPlace 415 = .ok (.ifCond .ne 5, 3) := by decide +kernel
theorem dX12_wrongPlace_418 : decode cX12_wrongPlace 418 = .ok (.iload_n 2, 1) := by decide +kernel
theorem dX12_wrongPlace_419 : decode cX12_wrongPlace 419 = .ok (.ireturn, 1) := by decide +kernel
theorem dX12_wrongPlace_420 : decode cX12_wrongPlace 420 = .ok (.aload_n 0, 1) := by decide +kernel
theorem dX12_wrongPlace_421 : decode cX12_wrongPlace 421 = .ok (.invokevirtual 186, 3) := by decide +kernel
theorem dX12_wrongPlace_424 : decode cX12_wrongPlace 424 = .ok (.iinc 2 1, 3) := by decide +kernel
theorem dX12_wrongPlace_427 : decode cX12_wrongPlace 427 = .ok (.goto (-404), 3) := by decide +kernel
theorem dX12_wrongPlace_430 : decode cX12_wrongPlace 430 = .ok (.aload_n 0, 1) := by decide +kernel
theorem dX12_wrongPlace_431 : decode cX12_wrongPlace 431 = .ok (.getfield 159, 3) := by decide +kernel
theorem dX12_wrongPlace_434 : decode cX12_wrongPlace 434 = .ok (.iconst 1, 1) := by decide +kernel
theorem dX12_wrongPlace_435 : decode cX12_wrongPlace 435 = .ok (.if_icmp .gt 10, 3) := by decide +kernel
theorem dX12_wrongPlace_438 : decode cX12_wrongPlace 438 = .ok (.aload_n 0, 1) := by decide +kernel
theorem dX12_wrongPlace_439 : decode cX12_wrongPlace 439 = .ok (.invokevirtual 182, 3) := by decide +kernel
theorem dX12_wrongPlace_442 : decode cX12_wrongPlace 442 = .ok (.ifCond .ne 12, 3) := by decide +kernel
theorem dX12_wrongPlace_445 : decode cX12_wrongPlace 445 = .ok (.aload_n 0, 1) := by decide +kernel
theorem dX12_wrongPlace_446 : decode cX12_wrongPlace 446 = .ok (.getfield 28, 3) := by decide +kernel
theorem dX12_wrongPlace_449 : decode cX12_wrongPlace 449 = .ok (.iload_n 1, 1) := by decide +kernel
theorem dX12_wrongPlace_450 : decode cX12_wrongPlace 450 = .ok (.iaload, 1) := by decide +kernel
theorem dX12_wrongPlace_451 : decode cX12_wrongPlace 451 = .ok (.goto 4, 3) := by decide +kernel
theorem dX12_wrongPlace_454 : decode cX12_wrongPlace 454 = .ok (.iconst (-1), 1) := by decide +kernel
theorem dX12_wrongPlace_455 : decode cX12_wrongPlace 455 = .ok (.ireturn, 1) := by decide +kernel
theorem dX12_isStrongDouble_0 : decode cX12_isStrongDouble 0 = .ok (.aload_n 0, 1) := by decide +kernel
theorem dX12_isStrongDouble_1 : decode cX12_isStrongDouble 1 = .ok (.getfield 53, 3) := by decide +kernel
theorem dX12_isStrongDouble_4 : decode cX12_isStrongDouble 4 = .ok (.iload_n 1, 1) := by decide +kernel
theorem dX12_isStrongDouble_5 : decode cX12_isStrongDouble 5 = .ok (.iaload, 1) := by decide +kernel
theorem dX12_isStrongDouble_6 : decode cX12_isStrongDouble 6 = .ok (.ifCond .ne 13, 3) := by decide +kernel
theorem dX12_isStrongDouble_9 : decode cX12_isStrongDouble 9 = .ok (.aload_n 0, 1) := by decide +kernel
theorem dX12_isStrongDouble_10 : decode cX12_isStrongDouble 10 = .ok (.getfield 56, 3) := by decide +kernel
theorem dX12_isStrongDouble_13 : decode cX12_isStrongDouble 13 = .ok (.iload_n 1, 1) := by decide +kernel
theorem dX12_isStrongDouble_14 : decode cX12_isStrongDouble 14 = .ok (.iaload, 1) := by decide +kernel
theorem dX12_isStrongDouble_15 : decode cX12_isStrongDouble 15 = .ok (.iconst (-1), 1) := by decide +kernel
theorem dX12_isStrongDouble_16 : decode cX12_isStrongDouble 16 = .ok (.if_icmp .ne 5, 3) := by decide +kernel
theorem dX12_isStrongDouble_19 : decode cX12_isStrongDouble 19 = .ok (.iconst 0, 1) := by decide +kernel
theorem dX12_isStrongDouble_20 : decode cX12_isStrongDouble 20 = .ok (.ireturn, 1) := by decide +kernel
theorem dX12_isStrongDouble_21 : decode cX12_isStrongDouble 21 = .ok (.iconst 0, 1) := by decide +kernel
theorem dX12_isStrongDouble_22 : decode cX12_isStrongDouble 22 = .ok (.istore_n 2, 1) := by decide +kernel
theorem dX12_isStrongDouble_23 : decode cX12_isStrongDouble 23 = .ok (.iload_n 2, 1) := by decide +kernel
theorem dX12_isStrongDouble_24 : decode cX12_isStrongDouble 24 = .ok (.iload_n 1, 1) := by decide +kernel
theorem dX12_isStrongDouble_25 : decode cX12_isStrongDouble 25 = .ok (.if_icmp .ge 61, 3) := by decide +kernel
theorem dX12_isStrongDouble_28 : decode cX12_isStrongDouble 28 = .ok (.iload_n 2, 1) := by decide +kernel
theorem dX12_isStrongDouble_29 : decode cX12_isStrongDouble 29 = .ok (.bipush 16, 2) := by decide +kernel
theorem dX12_isStrongDouble_31 : decode cX12_isStrongDouble 31 = .ok (.irem, 1) := by decide +kernel
theorem dX12_isStrongDouble_32 : decode cX12_isStrongDouble 32 = .ok (.aload_n 0, 1) := by decide +kernel
theorem dX12_isStrongDouble_33 : decode cX12_isStrongDouble 33 = .ok (.getfield 16, 3) := by decide +kernel
theorem dX12_isStrongDouble_36 : decode cX12_isStrongDouble 36 = .ok (.iload_n 2, 1) := by decide +kernel
theorem dX12_isStrongDouble_37 : decode cX12_isStrongDouble 37 = .ok (.bipush 16, 2) := by decide +kernel
theorem dX12_isStrongDouble_39 : decode cX12_isStrongDouble 39 = .ok (.idiv, 1) := by decide +kernel
theorem dX12_isStrongDouble_40 : decode cX12_isStrongDouble 40 = .ok (.iaload, 1) := by decide +kernel
theorem dX12_isStrongDouble_41 : decode cX12_isStrongDouble 41 = .ok (.if_icmp .ge 39, 3) := by decide +kernel
theorem dX12_isStrongDouble_44 : decode cX12_isStrongDouble 44 = .ok (.aload_n 0, 1) := by decide +kernel
theorem dX12_isStrongDouble_45 : decode cX12_isStrongDouble 45 = .ok (.getfield 53, 3) := by decide +kernel
theorem dX12_isStrongDouble_48 : decode cX12_isStrongDouble 48 = .ok (.iload_n 2, 1) := by decide +kernel
theorem dX12_isStrongDouble_49 : decode cX12_isStrongDouble 49 = .ok (.iaload, 1) := by decide +kernel
theorem dX12_isStrongDouble_50 : decode cX12_isStrongDouble 50 = .ok (.ifCond .ne 30, 3) := by decide +kernel
theorem dX12_isStrongDouble_53 : decode cX12_isStrongDouble 53 = .ok (.aload_n 0, 1) := by decide +kernel
theorem dX12_isStrongDouble_54 : decode cX12_isStrongDouble 54 = .ok (.getfield 56, 3) := by decide +kernel
theorem dX12_isStrongDouble_57 : decode cX12_isStrongDouble 57 = .ok (.iload_n 2, 1) := by decide +kernel
theorem dX12_isStrongDouble_58 : decode cX12_isStrongDouble 58 = .ok (.iaload, 1) := by decide +kernel
theorem dX12_isStrongDouble_59 : decode cX12_isStrongDouble 59 = .ok (.iconst (-1), 1) := by decide +kernel
theorem dX12_isStrongDouble_60 : decode cX12_isStrongDouble 60 = .ok (.if_icmp .eq 20, 3) := by decide +kernel
theorem dX12_isStrongDouble_63 : decode cX12_isStrongDouble 63 = .ok (.aload_n 0, 1) := by decide +kernel
theorem dX12_isStrongDouble_64 : decode cX12_isStrongDouble 64 = .ok (.getfield 47, 3) := by decide +kernel
theorem dX12_isStrongDouble_67 : decode cX12_isStrongDouble 67 = .ok (.iload_n 2, 1) := by decide +kernel
theorem dX12_isStrongDouble_68 : decode cX12_isStrongDouble 68 = .ok (.iaload, 1) := by decide +kernel
theorem dX12_isStrongDouble_69 : decode cX12_isStrongDouble 69 = .ok (.aload_n 0, 1) := by decide +kernel
theorem dX12_isStrongDouble_70 : decode cX12_isStrongDouble 70 = .ok (.getfield 47, 3) := by decide +kernel
theorem dX12_isStrongDouble_73 : decode cX12_isStrongDouble 73 = .ok (.iload_n 1, 1) := by decide +kernel
theorem dX12_isStrongDouble_74 : decode cX12_isStrongDouble 74 = .ok (.iaload, 1) := by decide +kernel
theorem dX12_isStrongDouble_75 : decode cX12_isStrongDouble 75 = .ok (.if_icmp .ne 5, 3) := by decide +kernel
theorem dX12_isStrongDouble_78 : decode cX12_isStrongDouble 78 = .ok (.iconst 1, 1) := by decide +kernel
theorem dX12_isStrongDouble_79 : decode cX12_isStrongDouble 79 = .ok (.ireturn, 1) := by decide +kernel
theorem dX12_isStrongDouble_80 : decode cX12_isStrongDouble 80 = .ok (.iinc 2 1, 3) := by decide +kernel
theorem dX12_isStrongDouble_83 : decode cX12_isStrongDouble 83 = .ok (.goto (-60), 3) := by decide +kernel
theorem dX12_isStrongDouble_86 : decode cX12_isStrongDouble 86 = .ok (.iconst 0, 1) := by decide +kernel
theorem dX12_isStrongDouble_87 : decode cX12_isStrongDouble 87 = .ok (.ireturn, 1) := by decide +kernel
theorem dX12_isMissing_0 : decode cX12_isMissing 0 = .ok (.aload_n 0, 1) := by decide +kernel
theorem dX12_isMissing_1 : decode cX12_isMissing 1 = .ok (.getfield 56, 3) := by decide +kernel
theorem dX12_isMissing_4 : decode cX12_isMissing 4 = .ok (.iload_n 1, 1) := by decide +kernel
theorem dX12_isMissing_5 : decode cX12_isMissing 5 = .ok (.iaload, 1) := by decide +kernel
theorem dX12_isMissing_6 : decode cX12_isMissing 6 = .ok (.iconst (-1), 1) := by decide +kernel
theorem dX12_isMissing_7 : decode cX12_isMissing 7 = .ok (.if_icmp .ne 34, 3) := by decide +kernel
theorem dX12_isMissing_10 : decode cX12_isMissing 10 = .ok (.aload_n 0, 1) := by decide +kernel
theorem dX12_isMissing_11 : decode cX12_isMissing 11 = .ok (.getfield 53, 3) := by decide +kernel
theorem dX12_isMissing_14 : decode cX12_isMissing 14 = .ok (.iload_n 1, 1) := by decide +kernel
theorem dX12_isMissing_15 : decode cX12_isMissing 15 = .ok (.iaload, 1) := by decide +kernel
theorem dX12_isMissing_16 : decode cX12_isMissing 16 = .ok (.iconst 2, 1) := by decide +kernel
theorem dX12_isMissing_17 : decode cX12_isMissing 17 = .ok (.if_icmp .eq 20, 3) := by decide +kernel
theorem dX12_isMissing_20 : decode cX12_isMissing 20 = .ok (.aload_n 0, 1) := by decide +kernel
theorem dX12_isMissing_21 : decode cX12_isMissing 21 = .ok (.getfield 53, 3) := by decide +kernel
theorem dX12_isMissing_24 : decode cX12_isMissing 24 = .ok (.iload_n 1, 1) := by decide +kernel
theorem dX12_isMissing_25 : decode cX12_isMissing 25 = .ok (.iaload, 1) := by decide +kernel
theorem dX12_isMissing_26 : decode cX12_isMissing 26 = .ok (.ifCond .ne 15, 3) := by decide +kernel
theorem dX12_isMissing_29 : decode cX12_isMissing 29 = .ok (.aload_n 0, 1) := by decide +kernel
theorem dX12_isMissing_30 : decode cX12_isMissing 30 = .ok (.iload_n 1, 1) := by decide +kernel
theorem dX12_isMissing_31 : decode cX12_isMissing 31 = .ok (.invokevirtual 145, 3) := by decide +kernel
theorem dX12_isMissing_34 : decode cX12_isMissing 34 = .ok (.ifCond .ge 7, 3) := by decide +kernel
theorem dX12_isMissing_37 : decode cX12_isMissing 37 = .ok (.iconst 1, 1) := by decide +kernel
theorem dX12_isMissing_38 : decode cX12_isMissing 38 = .ok (.goto 4, 3) := by decide +kernel
theorem dX12_isMissing_41 : decode cX12_isMissing 41 = .ok (.iconst 0, 1) := by decide +kernel
theorem dX12_isMissing_42 : decode cX12_isMissing 42 = .ok (.ireturn, 1) := by decide +kernel
theorem dX12_isOtherKind_0 : decode cX12_isOtherKind 0 = .ok (.iconst 0, 1) := by decide +kernel
theorem dX12_isOtherKind_1 : decode cX12_isOtherKind 1 = .ok (.istore_n 2, 1) := by decide +kernel
theorem dX12_isOtherKind_2 : decode cX12_isOtherKind 2 = .ok (.iload_n 2, 1) := by decide +kernel
theorem dX12_isOtherKind_3 : decode cX12_isOtherKind 3 = .ok (.iload_n 1, 1) := by decide +kernel
theorem dX12_isOtherKind_4 : decode cX12_isOtherKind 4 = .ok (.if_icmp .ge 81, 3) := by decide +kernel
theorem dX12_isOtherKind_7 : decode cX12_isOtherKind 7 = .ok (.aload_n 0, 1) := by decide +kernel
theorem dX12_isOtherKind_8 : decode cX12_isOtherKind 8 = .ok (.getfield 53, 3) := by decide +kernel
theorem dX12_isOtherKind_11 : decode cX12_isOtherKind 11 = .ok (.iload_n 1, 1) := by decide +kernel
theorem dX12_isOtherKind_12 : decode cX12_isOtherKind 12 = .ok (.iaload, 1) := by decide +kernel
theorem dX12_isOtherKind_13 : decode cX12_isOtherKind 13 = .ok (.iconst 2, 1) := by decide +kernel
theorem dX12_isOtherKind_14 : decode cX12_isOtherKind 14 = .ok (.if_icmp .eq 71, 3) := by decide +kernel
theorem dX12_isOtherKind_17 : decode cX12_isOtherKind 17 = .ok (.iload_n 2, 1) := by decide +kernel
theorem dX12_isOtherKind_18 : decode cX12_isOtherKind 18 = .ok (.bipush 16, 2) := by decide +kernel
theorem dX12_isOtherKind_20 : decode cX12_isOtherKind 20 = .ok (.irem, 1) := by decide +kernel
theorem dX12_isOtherKind_21 : decode cX12_isOtherKind 21 = .ok (.aload_n 0, 1) := by decide +kernel
theorem dX12_isOtherKind_22 : decode cX12_isOtherKind 22 = .ok (.getfield 16, 3) := by decide +kernel
theorem dX12_isOtherKind_25 : decode cX12_isOtherKind 25 = .ok (.iload_n 2, 1) := by decide +kernel
theorem dX12_isOtherKind_26 : decode cX12_isOtherKind 26 = .ok (.bipush 16, 2) := by decide +kernel
theorem dX12_isOtherKind_28 : decode cX12_isOtherKind 28 = .ok (.idiv, 1) := by decide +kernel
theorem dX12_isOtherKind_29 : decode cX12_isOtherKind 29 = .ok (.iaload, 1) := by decide +kernel
theorem dX12_isOtherKind_30 : decode cX12_isOtherKind 30 = .ok (.if_icmp .ge 49, 3) := by decide +kernel
theorem dX12_isOtherKind_33 : decode cX12_isOtherKind 33 = .ok (.aload_n 0, 1) := by decide +kernel
theorem dX12_isOtherKind_34 : decode cX12_isOtherKind 34 = .ok (.getfield 53, 3) := by decide +kernel
theorem dX12_isOtherKind_37 : decode cX12_isOtherKind 37 = .ok (.iload_n 2, 1) := by decide +kernel
theorem dX12_isOtherKind_38 : decode cX12_isOtherKind 38 = .ok (.iaload, 1) := by decide +kernel
theorem dX12_isOtherKind_39 : decode cX12_isOtherKind 39 = .ok (.iconst 2, 1) := by decide +kernel
theorem dX12_isOtherKind_40 : decode cX12_isOtherKind 40 = .ok (.if_icmp .eq 39, 3) := by decide +kernel
theorem dX12_isOtherKind_43 : decode cX12_isOtherKind 43 = .ok (.aload_n 0, 1) := by decide +kernel
theorem dX12_isOtherKind_44 : decode cX12_isOtherKind 44 = .ok (.getfield 47, 3) := by decide +kernel
theorem dX12_isOtherKind_47 : decode cX12_isOtherKind 47 = .ok (.iload_n 2, 1) := by decide +kernel
theorem dX12_isOtherKind_48 : decode cX12_isOtherKind 48 = .ok (.iaload, 1) := by decide +kernel
theorem dX12_isOtherKind_49 : decode cX12_isOtherKind 49 = .ok (.aload_n 0, 1) := by decide +kernel
theorem dX12_isOtherKind_50 : decode cX12_isOtherKind 50 = .ok (.getfield 47, 3) := by decide +kernel
theorem dX12_isOtherKind_53 : decode cX12_isOtherKind 53 = .ok (.iload_n 1, 1) := by decide +kernel
theorem dX12_isOtherKind_54 : decode cX12_isOtherKind 54 = .ok (.iaload, 1) := by decide +kernel
theorem dX12_isOtherKind_55 : decode cX12_isOtherKind 55 = .ok (.if_icmp .ne 24, 3) := by decide +kernel
theorem dX12_isOtherKind_58 : decode cX12_isOtherKind 58 = .ok (.aload_n 0, 1) := by decide +kernel
theorem dX12_isOtherKind_59 : decode cX12_isOtherKind 59 = .ok (.getfield 50, 3) := by decide +kernel
theorem dX12_isOtherKind_62 : decode cX12_isOtherKind 62 = .ok (.iload_n 2, 1) := by decide +kernel
theorem dX12_isOtherKind_63 : decode cX12_isOtherKind 63 = .ok (.iaload, 1) := by decide +kernel
theorem dX12_isOtherKind_64 : decode cX12_isOtherKind 64 = .ok (.aload_n 0, 1) := by decide +kernel
theorem dX12_isOtherKind_65 : decode cX12_isOtherKind 65 = .ok (.getfield 50, 3) := by decide +kernel
theorem dX12_isOtherKind_68 : decode cX12_isOtherKind 68 = .ok (.iload_n 1, 1) := by decide +kernel
theorem dX12_isOtherKind_69 : decode cX12_isOtherKind 69 = .ok (.iaload, 1) := by decide +kernel
theorem dX12_isOtherKind_70 : decode cX12_isOtherKind 70 = .ok (.if_icmp .eq 7, 3) := by decide +kernel
theorem dX12_isOtherKind_73 : decode cX12_isOtherKind 73 = .ok (.iconst 1, 1) := by decide +kernel
theorem dX12_isOtherKind_74 : decode cX12_isOtherKind 74 = .ok (.goto 4, 3) := by decide +kernel
theorem dX12_isOtherKind_77 : decode cX12_isOtherKind 77 = .ok (.iconst 0, 1) := by decide +kernel
theorem dX12_isOtherKind_78 : decode cX12_isOtherKind 78 = .ok (.ireturn, 1) := by decide +kernel
theorem dX12_isOtherKind_79 : decode cX12_isOtherKind 79 = .ok (.iinc 2 1, 3) := by decide +kernel
theorem dX12_isOtherKind_82 : decode cX12_isOtherKind 82 = .ok (.goto (-80), 3) := by decide +kernel
theorem dX12_isOtherKind_85 : decode cX12_isOtherKind 85 = .ok (.iconst 0, 1) := by decide +kernel
theorem dX12_isOtherKind_86 : decode cX12_isOtherKind 86 = .ok (.ireturn, 1) := by decide +kernel
theorem dX12_isWrongCall_0 : decode cX12_isWrongCall 0 = .ok (.iload_n 2, 1) := by decide +kernel
theorem dX12_isWrongCall_1 : decode cX12_isWrongCall 1 = .ok (.bipush 31, 2) := by decide +kernel
theorem dX12_isWrongCall_3 : decode cX12_isWrongCall 3 = .ok (.if_icmp .eq 5, 3) := by decide +kernel
theorem dX12_isWrongCall_6 : decode cX12_isWrongCall 6 = .ok (.iconst 0, 1) := by decide +kernel
theorem dX12_isWrongCall_7 : decode cX12_isWrongCall 7 = .ok (.ireturn, 1) := by decide +kernel
theorem dX12_isWrongCall_8 : decode cX12_isWrongCall 8 = .ok (.bipush 16, 2) := by decide +kernel
theorem dX12_isWrongCall_10 : decode cX12_isWrongCall 10 = .ok (.iload_n 1, 1) := by decide +kernel
theorem dX12_isWrongCall_11 : decode cX12_isWrongCall 11 = .ok (.bipush 8, 2) := by decide +kernel
theorem dX12_isWrongCall_13 : decode cX12_isWrongCall 13 = .ok (.idiv, 1) := by decide +kernel
theorem dX12_isWrongCall_14 : decode cX12_isWrongCall 14 = .ok (.imul, 1) := by decide +kernel
theorem dX12_isWrongCall_15 : decode cX12_isWrongCall 15 = .ok (.iload_n 3, 1) := by decide +kernel
theorem dX12_isWrongCall_16 : decode cX12_isWrongCall 16 = .ok (.iadd, 1) := by decide +kernel
theorem dX12_isWrongCall_17 : decode cX12_isWrongCall 17 = .ok (.istore 4, 2) := by decide +kernel
theorem dX12_isWrongCall_19 : decode cX12_isWrongCall 19 = .ok (.aload_n 0, 1) := by decide +kernel
theorem dX12_isWrongCall_20 : decode cX12_isWrongCall 20 = .ok (.iload 4, 2) := by decide +kernel
theorem dX12_isWrongCall_22 : decode cX12_isWrongCall 22 = .ok (.invokevirtual 189, 3) := by decide +kernel
theorem dX12_isWrongCall_25 : decode cX12_isWrongCall 25 = .ok (.istore 5, 2) := by decide +kernel
theorem dX12_isWrongCall_27 : decode cX12_isWrongCall 27 = .ok (.iload 5, 2) := by decide +kernel
theorem dX12_isWrongCall_29 : decode cX12_isWrongCall 29 = .ok (.ifCond .lt 22, 3) := by decide +kernel
theorem dX12_isWrongCall_32 : decode cX12_isWrongCall 32 = .ok (.aload_n 0, 1) := by decide +kernel
theorem dX12_isWrongCall_33 : decode cX12_isWrongCall 33 = .ok (.iload 5, 2) := by decide +kernel
theorem dX12_isWrongCall_35 : decode cX12_isWrongCall 35 = .ok (.invokevirtual 156, 3) := by decide +kernel
theorem dX12_isWrongCall_38 : decode cX12_isWrongCall 38 = .ok (.aload_n 0, 1) := by decide +kernel
theorem dX12_isWrongCall_39 : decode cX12_isWrongCall 39 = .ok (.iload 4, 2) := by decide +kernel
theorem dX12_isWrongCall_41 : decode cX12_isWrongCall 41 = .ok (.invokevirtual 168, 3) := by decide +kernel
theorem dX12_isWrongCall_44 : decode cX12_isWrongCall 44 = .ok (.if_icmp .eq 7, 3) := by decide +kernel
theorem dX12_isWrongCall_47 : decode cX12_isWrongCall 47 = .ok (.iconst 1, 1) := by decide +kernel
theorem dX12_isWrongCall_48 : decode cX12_isWrongCall 48 = .ok (.goto 4, 3) := by decide +kernel
theorem dX12_isWrongCall_51 : decode cX12_isWrongCall 51 = .ok (.iconst 0, 1) := by decide +kernel
theorem dX12_isWrongCall_52 : decode cX12_isWrongCall 52 = .ok (.ireturn, 1) := by decide +kernel
theorem dX12_fails_0 : decode cX12_fails 0 = .ok (.aload_n 0, 1) := by decide +kernel
theorem dX12_fails_1 : decode cX12_fails 1 = .ok (.iload_n 1, 1) := by decide +kernel
theorem dX12_fails_2 : decode cX12_fails 2 = .ok (.putfield 192, 3) := by decide +kernel
theorem dX12_fails_5 : decode cX12_fails 5 = .ok (.aload_n 0, 1) := by decide +kernel
theorem dX12_fails_6 : decode cX12_fails 6 = .ok (.iload_n 2, 1) := by decide +kernel
theorem dX12_fails_7 : decode cX12_fails 7 = .ok (.putfield 62, 3) := by decide +kernel
theorem dX12_fails_10 : decode cX12_fails 10 = .ok (.iconst 1, 1) := by decide +kernel
theorem dX12_fails_11 : decode cX12_fails 11 = .ok (.ireturn, 1) := by decide +kernel
theorem dX12_failsInWords_0 : decode cX12_failsInWords 0 = .ok (.iconst 0, 1) := by decide +kernel
theorem dX12_failsInWords_1 : decode cX12_failsInWords 1 = .ok (.istore_n 2, 1) := by decide +kernel
theorem dX12_failsInWords_2 : decode cX12_failsInWords 2 = .ok (.iload_n 2, 1) := by decide +kernel
theorem dX12_failsInWords_3 : decode cX12_failsInWords 3 = .ok (.bipush 48, 2) := by decide +kernel
theorem dX12_failsInWords_5 : decode cX12_failsInWords 5 = .ok (.if_icmp .ge 154, 3) := by decide +kernel
theorem dX12_failsInWords_8 : decode cX12_failsInWords 8 = .ok (.aload_n 0, 1) := by decide +kernel
theorem dX12_failsInWords_9 : decode cX12_failsInWords 9 = .ok (.iload_n 2, 1) := by decide +kernel
theorem dX12_failsInWords_10 : decode cX12_failsInWords 10 = .ok (.invokevirtual 195, 3) := by decide +kernel
theorem dX12_failsInWords_13 : decode cX12_failsInWords 13 = .ok (.ifCond .ne 6, 3) := by decide +kernel
theorem dX12_failsInWords_16 : decode cX12_failsInWords 16 = .ok (.goto 137, 3) := by decide +kernel
theorem dX12_failsInWords_19 : decode cX12_failsInWords 19 = .ok (.sipush 1000, 3) := by decide +kernel
theorem dX12_failsInWords_22 : decode cX12_failsInWords 22 = .ok (.iload_n 2, 1) := by decide +kernel
theorem dX12_failsInWords_23 : decode cX12_failsInWords 23 = .ok (.bipush 8, 2) := by decide +kernel
theorem dX12_failsInWords_25 : decode cX12_failsInWords 25 = .ok (.idiv, 1) := by decide +kernel
theorem dX12_failsInWords_26 : decode cX12_failsInWords 26 = .ok (.imul, 1) := by decide +kernel
theorem dX12_failsInWords_27 : decode cX12_failsInWords 27 = .ok (.bipush 100, 2) := by decide +kernel
theorem dX12_failsInWords_29 : decode cX12_failsInWords 29 = .ok (.iload_n 2, 1) := by decide +kernel
theorem dX12_failsInWords_30 : decode cX12_failsInWords 30 = .ok (.bipush 8, 2) := by decide +kernel
theorem dX12_failsInWords_32 : decode cX12_failsInWords 32 = .ok (.irem, 1) := by decide +kernel
theorem dX12_failsInWords_33 : decode cX12_failsInWords 33 = .ok (.imul, 1) := by decide +kernel
theorem dX12_failsInWords_34 : decode cX12_failsInWords 34 = .ok (.iadd, 1) := by decide +kernel
theorem dX12_failsInWords_35 : decode cX12_failsInWords 35 = .ok (.istore_n 3, 1) := by decide +kernel
theorem dX12_failsInWords_36 : decode cX12_failsInWords 36 = .ok (.iload_n 1, 1) := by decide +kernel
theorem dX12_failsInWords_37 : decode cX12_failsInWords 37 = .ok (.iconst 2, 1) := by decide +kernel
theorem dX12_failsInWords_38 : decode cX12_failsInWords 38 = .ok (.if_icmp .ne 25, 3) := by decide +kernel
theorem dX12_failsInWords_41 : decode cX12_failsInWords 41 = .ok (.aload_n 0, 1) := by decide +kernel
theorem dX12_failsInWords_42 : decode cX12_failsInWords 42 = .ok (.iload_n 2, 1) := by decide +kernel
theorem dX12_failsInWords_43 : decode cX12_failsInWords 43 = .ok (.invokevirtual 198, 3) := by decide +kernel
theorem dX12_failsInWords_46 : decode cX12_failsInWords 46 = .ok (.istore 4, 2) := by decide +kernel
theorem dX12_failsInWords_48 : decode cX12_failsInWords 48 = .ok (.iload 4, 2) := by decide +kernel
theorem dX12_failsInWords_50 : decode cX12_failsInWords 50 = .ok (.ifCond .lt 103, 3) := by decide +kernel
theorem dX12_failsInWords_53 : decode cX12_failsInWords 53 = .ok (.aload_n 0, 1) := by decide +kernel
theorem dX12_failsInWords_54 : decode cX12_failsInWords 54 = .ok (.iconst 2, 1) := by decide +kernel
theorem dX12_failsInWords_55 : decode cX12_failsInWords 55 = .ok (.iload_n 3, 1) := by decide +kernel
theorem dX12_failsInWords_56 : decode cX12_failsInWords 56 = .ok (.iload 4, 2) := by decide +kernel
theorem dX12_failsInWords_58 : decode cX12_failsInWords 58 = .ok (.iadd, 1) := by decide +kernel
theorem dX12_failsInWords_59 : decode cX12_failsInWords 59 = .ok (.invokevirtual 201, 3) := by decide +kernel
theorem dX12_failsInWords_62 : decode cX12_failsInWords 62 = .ok (.ireturn, 1) := by decide +kernel
theorem dX12_failsInWords_63 : decode cX12_failsInWords 63 = .ok (.iconst 0, 1) := by decide +kernel
theorem dX12_failsInWords_64 : decode cX12_failsInWords 64 = .ok (.istore 4, 2) := by decide +kernel
theorem dX12_failsInWords_66 : decode cX12_failsInWords 66 = .ok (.iload 4, 2) := by decide +kernel
theorem dX12_failsInWords_68 : decode cX12_failsInWords 68 = .ok (.aload_n 0, 1) := by decide +kernel
theorem dX12_failsInWords_69 : decode cX12_failsInWords 69 = .ok (.getfield 28, 3) := by decide +kernel
theorem dX12_failsInWords_72 : decode cX12_failsInWords 72 = .ok (.iload_n 2, 1) := by decide +kernel
theorem dX12_failsInWords_73 : decode cX12_failsInWords 73 = .ok (.iaload, 1) := by decide +kernel
theorem dX12_failsInWords_74 : decode cX12_failsInWords 74 = .ok (.if_icmp .ge 79, 3) := by decide +kernel
theorem dX12_failsInWords_77 : decode cX12_failsInWords 77 = .ok (.aload_n 0, 1) := by decide +kernel
theorem dX12_failsInWords_78 : decode cX12_failsInWords 78 = .ok (.getfield 31, 3) := by decide +kernel
theorem dX12_failsInWords_81 : decode cX12_failsInWords 81 = .ok (.bipush 60, 2) := by decide +kernel
theorem dX12_failsInWords_83 : decode cX12_failsInWords 83 = .ok (.iload_n 2, 1) := by decide +kernel
theorem dX12_failsInWords_84 : decode cX12_failsInWords 84 = .ok (.imul, 1) := by decide +kernel
theorem dX12_failsInWords_85 : decode cX12_failsInWords 85 = .ok (.iload 4, 2) := by decide +kernel
theorem dX12_failsInWords_87 : decode cX12_failsInWords 87 = .ok (.iadd, 1) := by decide +kernel
theorem dX12_failsInWords_88 : decode cX12_failsInWords 88 = .ok (.iaload, 1) := by decide +kernel
theorem dX12_failsInWords_89 : decode cX12_failsInWords 89 = .ok (.istore 5, 2) := by decide +kernel
theorem dX12_failsInWords_91 : decode cX12_failsInWords 91 = .ok (.aload_n 0, 1) := by decide +kernel
theorem dX12_failsInWords_92 : decode cX12_failsInWords 92 = .ok (.getfield 34, 3) := by decide +kernel
theorem dX12_failsInWords_95 : decode cX12_failsInWords 95 = .ok (.bipush 60, 2) := by decide +kernel
theorem dX12_failsInWords_97 : decode cX12_failsInWords 97 = .ok (.iload_n 2, 1) := by decide +kernel
theorem dX12_failsInWords_98 : decode cX12_failsInWords 98 = .ok (.imul, 1) := by decide +kernel
theorem dX12_failsInWords_99 : decode cX12_failsInWords 99 = .ok (.iload 4, 2) := by decide +kernel
theorem dX12_failsInWords_101 : decode cX12_failsInWords 101 = .ok (.iadd, 1) := by decide +kernel
theorem dX12_failsInWords_102 : decode cX12_failsInWords 102 = .ok (.iaload, 1) := by decide +kernel
theorem dX12_failsInWords_103 : decode cX12_failsInWords 103 = .ok (.istore 6, 2) := by decide +kernel
theorem dX12_failsInWords_105 : decode cX12_failsInWords 105 = .ok (.iload_n 1, 1) := by decide +kernel
theorem dX12_failsInWords_106 : decode cX12_failsInWords 106 = .ok (.iconst 1, 1) := by decide +kernel
theorem dX12_failsInWords_107 : decode cX12_failsInWords 107 = .ok (.if_icmp .ne 18, 3) := by decide +kernel
theorem dX12_failsInWords_110 : decode cX12_failsInWords 110 = .ok (.aload_n 0, 1) := by decide +kernel
theorem dX12_failsInWords_111 : decode cX12_failsInWords 111 = .ok (.iload_n 2, 1) := by decide +kernel
theorem dX12_failsInWords_112 : decode cX12_failsInWords 112 = .ok (.iload 5, 2) := by decide +kernel
theorem dX12_failsInWords_114 : decode cX12_failsInWords 114 = .ok (.iload 6, 2) := by decide +kernel
theorem dX12_failsInWords_116 : decode cX12_failsInWords 116 = .ok (.invokevirtual 204, 3) := by decide +kernel
theorem dX12_failsInWords_119 : decode cX12_failsInWords 119 = .ok (.ifCond .ne 28, 3) := by decide +kernel
theorem dX12_failsInWords_122 : decode cX12_failsInWords 122 = .ok (.goto 15, 3) := by decide +kernel
theorem dX12_failsInWords_125 : decode cX12_failsInWords 125 = .ok (.aload_n 0, 1) := by decide +kernel
theorem dX12_failsInWords_126 : decode cX12_failsInWords 126 = .ok (.iload_n 2, 1) := by decide +kernel
theorem dX12_failsInWords_127 : decode cX12_failsInWords 127 = .ok (.iload 5, 2) := by decide +kernel
theorem dX12_failsInWords_129 : decode cX12_failsInWords 129 = .ok (.iload 6, 2) := by decide +kernel
theorem dX12_failsInWords_131 : decode cX12_failsInWords 131 = .ok (.invokevirtual 207, 3) := by decide +kernel
theorem dX12_failsInWords_134 : decode cX12_failsInWords 134 = .ok (.ifCond .eq 13, 3) := by decide +kernel
theorem dX12_failsInWords_137 : decode cX12_failsInWords 137 = .ok (.aload_n 0, 1) := by decide +kernel
theorem dX12_failsInWords_138 : decode cX12_failsInWords 138 = .ok (.iload_n 1, 1) := by decide +kernel
theorem dX12_failsInWords_139 : decode cX12_failsInWords 139 = .ok (.iload_n 3, 1) := by decide +kernel
theorem dX12_failsInWords_140 : decode cX12_failsInWords 140 = .ok (.iload 4, 2) := by decide +kernel
theorem dX12_failsInWords_142 : decode cX12_failsInWords 142 = .ok (.iadd, 1) := by decide +kernel
theorem dX12_failsInWords_143 : decode cX12_failsInWords 143 = .ok (.invokevirtual 201, 3) := by decide +kernel
theorem dX12_failsInWords_146 : decode cX12_failsInWords 146 = .ok (.ireturn, 1) := by decide +kernel
theorem dX12_failsInWords_147 : decode cX12_failsInWords 147 = .ok (.iinc 4 1, 3) := by decide +kernel
theorem dX12_failsInWords_150 : decode cX12_failsInWords 150 = .ok (.goto (-84), 3) := by decide +kernel
theorem dX12_failsInWords_153 : decode cX12_failsInWords 153 = .ok (.iinc 2 1, 3) := by decide +kernel
theorem dX12_failsInWords_156 : decode cX12_failsInWords 156 = .ok (.goto (-154), 3) := by decide +kernel
theorem dX12_failsInWords_159 : decode cX12_failsInWords 159 = .ok (.iconst 0, 1) := by decide +kernel
theorem dX12_failsInWords_160 : decode cX12_failsInWords 160 = .ok (.ireturn, 1) := by decide +kernel
theorem dX12_failsInSymbols_0 : decode cX12_failsInSymbols 0 = .ok (.iconst 0, 1) := by decide +kernel
theorem dX12_failsInSymbols_1 : decode cX12_failsInSymbols 1 = .ok (.istore_n 2, 1) := by decide +kernel
theorem dX12_failsInSymbols_2 : decode cX12_failsInSymbols 2 = .ok (.iload_n 2, 1) := by decide +kernel
theorem dX12_failsInSymbols_3 : decode cX12_failsInSymbols 3 = .ok (.bipush 96, 2) := by decide +kernel
theorem dX12_failsInSymbols_5 : decode cX12_failsInSymbols 5 = .ok (.if_icmp .ge 82, 3) := by decide +kernel
theorem dX12_failsInSymbols_8 : decode cX12_failsInSymbols 8 = .ok (.iload_n 2, 1) := by decide +kernel
theorem dX12_failsInSymbols_9 : decode cX12_failsInSymbols 9 = .ok (.bipush 16, 2) := by decide +kernel
theorem dX12_failsInSymbols_11 : decode cX12_failsInSymbols 11 = .ok (.irem, 1) := by decide +kernel
theorem dX12_failsInSymbols_12 : decode cX12_failsInSymbols 12 = .ok (.aload_n 0, 1) := by decide +kernel
theorem dX12_failsInSymbols_13 : decode cX12_failsInSymbols 13 = .ok (.getfield 16, 3) := by decide +kernel
theorem dX12_failsInSymbols_16 : decode cX12_failsInSymbols 16 = .ok (.iload_n 2, 1) := by decide +kernel
theorem dX12_failsInSymbols_17 : decode cX12_failsInSymbols 17 = .ok (.bipush 16, 2) := by decide +kernel
theorem dX12_failsInSymbols_19 : decode cX12_failsInSymbols 19 = .ok (.idiv, 1) := by decide +kernel
theorem dX12_failsInSymbols_20 : decode cX12_failsInSymbols 20 = .ok (.iaload, 1) := by decide +kernel
theorem dX12_failsInSymbols_21 : decode cX12_failsInSymbols 21 = .ok (.if_icmp .lt 6, 3) := by decide +kernel
theorem dX12_failsInSymbols_24 : decode cX12_failsInSymbols 24 = .ok (.goto 57, 3) := by decide +kernel
theorem dX12_failsInSymbols_27 : decode cX12_failsInSymbols 27 = .ok (.iload_n 1, 1) := by decide +kernel
theorem dX12_failsInSymbols_28 : decode cX12_failsInSymbols 28 = .ok (.iconst 3, 1) := by decide +kernel
theorem dX12_failsInSymbols_29 : decode cX12_failsInSymbols 29 = .ok (.if_icmp .ne 11, 3) := by decide +kernel
theorem dX12_failsInSymbols_32 : decode cX12_failsInSymbols 32 = .ok (.aload_n 0, 1) := by decide +kernel
theorem dX12_failsInSymbols_33 : decode cX12_failsInSymbols 33 = .ok (.iload_n 2, 1) := by decide +kernel
theorem dX12_failsInSymbols_34 : decode cX12_failsInSymbols 34 = .ok (.invokevirtual 210, 3) := by decide +kernel
theorem dX12_failsInSymbols_37 : decode cX12_failsInSymbols 37 = .ok (.goto 21, 3) := by decide +kernel
theorem dX12_failsInSymbols_40 : decode cX12_failsInSymbols 40 = .ok (.iload_n 1, 1) := by decide +kernel
theorem dX12_failsInSymbols_41 : decode cX12_failsInSymbols 41 = .ok (.iconst 4, 1) := by decide +kernel
theorem dX12_failsInSymbols_42 : decode cX12_failsInSymbols 42 = .ok (.if_icmp .ne 11, 3) := by decide +kernel
theorem dX12_failsInSymbols_45 : decode cX12_failsInSymbols 45 = .ok (.aload_n 0, 1) := by decide +kernel
theorem dX12_failsInSymbols_46 : decode cX12_failsInSymbols 46 = .ok (.iload_n 2, 1) := by decide +kernel
theorem dX12_failsInSymbols_47 : decode cX12_failsInSymbols 47 = .ok (.invokevirtual 213, 3) := by decide +kernel
theorem dX12_failsInSymbols_50 : decode cX12_failsInSymbols 50 = .ok (.goto 8, 3) := by decide +kernel
theorem dX12_failsInSymbols_53 : decode cX12_failsInSymbols 53 = .ok (.aload_n 0, 1) := by decide +kernel
theorem dX12_failsInSymbols_54 : decode cX12_failsInSymbols 54 = .ok (.iload_n 2, 1) := by decide +kernel
theorem dX12_failsInSymbols_55 : decode cX12_failsInSymbols 55 = .ok (.invokevirtual 216, 3) := by decide +kernel
theorem dX12_failsInSymbols_58 : decode cX12_failsInSymbols 58 = .ok (.istore_n 3, 1) := by decide +kernel
theorem dX12_failsInSymbols_59 : decode cX12_failsInSymbols 59 = .ok (.iload_n 3, 1) := by decide +kernel
theorem dX12_failsInSymbols_60 : decode cX12_failsInSymbols 60 = .ok (.ifCond .eq 21, 3) := by decide +kernel
theorem dX12_failsInSymbols_63 : decode cX12_failsInSymbols 63 = .ok (.aload_n 0, 1) := by decide +kernel
theorem dX12_failsInSymbols_64 : decode cX12_failsInSymbols 64 = .ok (.iload_n 1, 1) := by decide +kernel
theorem dX12_failsInSymbols_65 : decode cX12_failsInSymbols 65 = .ok (.bipush 100, 2) := by decide +kernel
theorem dX12_failsInSymbols_67 : decode cX12_failsInSymbols 67 = .ok (.iload_n 2, 1) := by decide +kernel
theorem dX12_failsInSymbols_68 : decode cX12_failsInSymbols 68 = .ok (.bipush 16, 2) := by decide +kernel
theorem dX12_failsInSymbols_70 : decode cX12_failsInSymbols 70 = .ok (.idiv, 1) := by decide +kernel
theorem dX12_failsInSymbols_71 : decode cX12_failsInSymbols 71 = .ok (.imul, 1) := by decide +kernel
theorem dX12_failsInSymbols_72 : decode cX12_failsInSymbols 72 = .ok (.iload_n 2, 1) := by decide +kernel
theorem dX12_failsInSymbols_73 : decode cX12_failsInSymbols 73 = .ok (.bipush 16, 2) := by decide +kernel
theorem dX12_failsInSymbols_75 : decode cX12_failsInSymbols 75 = .ok (.irem, 1) := by decide +kernel
theorem dX12_failsInSymbols_76 : decode cX12_failsInSymbols 76 = .ok (.iadd, 1) := by decide +kernel
theorem dX12_failsInSymbols_77 : decode cX12_failsInSymbols 77 = .ok (.invokevirtual 201, 3) := by decide +kernel
theorem dX12_failsInSymbols_80 : decode cX12_failsInSymbols 80 = .ok (.ireturn, 1) := by decide +kernel
theorem dX12_failsInSymbols_81 : decode cX12_failsInSymbols 81 = .ok (.iinc 2 1, 3) := by decide +kernel
theorem dX12_failsInSymbols_84 : decode cX12_failsInSymbols 84 = .ok (.goto (-82), 3) := by decide +kernel
theorem dX12_failsInSymbols_87 : decode cX12_failsInSymbols 87 = .ok (.iconst 0, 1) := by decide +kernel
theorem dX12_failsInSymbols_88 : decode cX12_failsInSymbols 88 = .ok (.ireturn, 1) := by decide +kernel
theorem dX12_link_0 : decode cX12_link 0 = .ok (.aload_n 0, 1) := by decide +kernel
theorem dX12_link_1 : decode cX12_link 1 = .ok (.aload_n 0, 1) := by decide +kernel
theorem dX12_link_2 : decode cX12_link 2 = .ok (.getfield 123, 3) := by decide +kernel
theorem dX12_link_5 : decode cX12_link 5 = .ok (.ifCond .ne 7, 3) := by decide +kernel
theorem dX12_link_8 : decode cX12_link 8 = .ok (.iconst 1, 1) := by decide +kernel
theorem dX12_link_9 : decode cX12_link 9 = .ok (.goto 4, 3) := by decide +kernel
theorem dX12_link_12 : decode cX12_link 12 = .ok (.iconst 0, 1) := by decide +kernel
theorem dX12_link_13 : decode cX12_link 13 = .ok (.putfield 120, 3) := by decide +kernel
theorem dX12_link_16 : decode cX12_link 16 = .ok (.aload_n 0, 1) := by decide +kernel
theorem dX12_link_17 : decode cX12_link 17 = .ok (.getfield 120, 3) := by decide +kernel
theorem dX12_link_20 : decode cX12_link 20 = .ok (.ifCond .le 5, 3) := by decide +kernel
theorem dX12_link_23 : decode cX12_link 23 = .ok (.iconst 0, 1) := by decide +kernel
theorem dX12_link_24 : decode cX12_link 24 = .ok (.ireturn, 1) := by decide +kernel
theorem dX12_link_25 : decode cX12_link 25 = .ok (.aload_n 0, 1) := by decide +kernel
theorem dX12_link_26 : decode cX12_link 26 = .ok (.iconst 0, 1) := by decide +kernel
theorem dX12_link_27 : decode cX12_link 27 = .ok (.putfield 192, 3) := by decide +kernel
theorem dX12_link_30 : decode cX12_link 30 = .ok (.aload_n 0, 1) := by decide +kernel
theorem dX12_link_31 : decode cX12_link 31 = .ok (.iconst (-1), 1) := by decide +kernel
theorem dX12_link_32 : decode cX12_link 32 = .ok (.putfield 62, 3) := by decide +kernel
theorem dX12_link_35 : decode cX12_link 35 = .ok (.aload_n 0, 1) := by decide +kernel
theorem dX12_link_36 : decode cX12_link 36 = .ok (.iconst 1, 1) := by decide +kernel
theorem dX12_link_37 : decode cX12_link 37 = .ok (.invokevirtual 219, 3) := by decide +kernel
theorem dX12_link_40 : decode cX12_link 40 = .ok (.ifCond .ne 11, 3) := by decide +kernel
theorem dX12_link_43 : decode cX12_link 43 = .ok (.aload_n 0, 1) := by decide +kernel
theorem dX12_link_44 : decode cX12_link 44 = .ok (.iconst 2, 1) := by decide +kernel
theorem dX12_link_45 : decode cX12_link 45 = .ok (.invokevirtual 219, 3) := by decide +kernel
theorem dX12_link_48 : decode cX12_link 48 = .ok (.ifCond .eq 7, 3) := by decide +kernel
theorem dX12_link_51 : decode cX12_link 51 = .ok (.iconst 1, 1) := by decide +kernel
theorem dX12_link_52 : decode cX12_link 52 = .ok (.goto 4, 3) := by decide +kernel
theorem dX12_link_55 : decode cX12_link 55 = .ok (.iconst 0, 1) := by decide +kernel
theorem dX12_link_56 : decode cX12_link 56 = .ok (.istore_n 1, 1) := by decide +kernel
theorem dX12_link_57 : decode cX12_link 57 = .ok (.iload_n 1, 1) := by decide +kernel
theorem dX12_link_58 : decode cX12_link 58 = .ok (.ifCond .ne 27, 3) := by decide +kernel
theorem dX12_link_61 : decode cX12_link 61 = .ok (.aload_n 0, 1) := by decide +kernel
theorem dX12_link_62 : decode cX12_link 62 = .ok (.iconst 3, 1) := by decide +kernel
theorem dX12_link_63 : decode cX12_link 63 = .ok (.invokevirtual 222, 3) := by decide +kernel
theorem dX12_link_66 : decode cX12_link 66 = .ok (.ifCond .ne 19, 3) := by decide +kernel
theorem dX12_link_69 : decode cX12_link 69 = .ok (.aload_n 0, 1) := by decide +kernel
theorem dX12_link_70 : decode cX12_link 70 = .ok (.iconst 4, 1) := by decide +kernel
theorem dX12_link_71 : decode cX12_link 71 = .ok (.invokevirtual 222, 3) := by decide +kernel
theorem dX12_link_74 : decode cX12_link 74 = .ok (.ifCond .ne 11, 3) := by decide +kernel
theorem dX12_link_77 : decode cX12_link 77 = .ok (.aload_n 0, 1) := by decide +kernel
theorem dX12_link_78 : decode cX12_link 78 = .ok (.iconst 5, 1) := by decide +kernel
theorem dX12_link_79 : decode cX12_link 79 = .ok (.invokevirtual 222, 3) := by decide +kernel
theorem dX12_link_82 : decode cX12_link 82 = .ok (.ifCond .eq 7, 3) := by decide +kernel
theorem dX12_link_85 : decode cX12_link 85 = .ok (.iconst 1, 1) := by decide +kernel
theorem dX12_link_86 : decode cX12_link 86 = .ok (.goto 4, 3) := by decide +kernel
theorem dX12_link_89 : decode cX12_link 89 = .ok (.iconst 0, 1) := by decide +kernel
theorem dX12_link_90 : decode cX12_link 90 = .ok (.istore_n 1, 1) := by decide +kernel
theorem dX12_link_91 : decode cX12_link 91 = .ok (.iload_n 1, 1) := by decide +kernel
theorem dX12_link_92 : decode cX12_link 92 = .ok (.ifCond .ne 12, 3) := by decide +kernel
theorem dX12_link_95 : decode cX12_link 95 = .ok (.aload_n 0, 1) := by decide +kernel
theorem dX12_link_96 : decode cX12_link 96 = .ok (.bipush 6, 2) := by decide +kernel
theorem dX12_link_98 : decode cX12_link 98 = .ok (.invokevirtual 219, 3) := by decide +kernel
theorem dX12_link_101 : decode cX12_link 101 = .ok (.ifCond .eq 7, 3) := by decide +kernel
theorem dX12_link_104 : decode cX12_link 104 = .ok (.iconst 1, 1) := by decide +kernel
theorem dX12_link_105 : decode cX12_link 105 = .ok (.goto 4, 3) := by decide +kernel
theorem dX12_link_108 : decode cX12_link 108 = .ok (.iconst 0, 1) := by decide +kernel
theorem dX12_link_109 : decode cX12_link 109 = .ok (.istore_n 1, 1) := by decide +kernel
theorem dX12_link_110 : decode cX12_link 110 = .ok (.iload_n 1, 1) := by decide +kernel
theorem dX12_link_111 : decode cX12_link 111 = .ok (.ifCond .ne 21, 3) := by decide +kernel
theorem dX12_link_114 : decode cX12_link 114 = .ok (.aload_n 0, 1) := by decide +kernel
theorem dX12_link_115 : decode cX12_link 115 = .ok (.invokevirtual 225, 3) := by decide +kernel
theorem dX12_link_118 : decode cX12_link 118 = .ok (.sipush 1024, 3) := by decide +kernel
theorem dX12_link_121 : decode cX12_link 121 = .ok (.if_icmp .le 11, 3) := by decide +kernel
theorem dX12_link_124 : decode cX12_link 124 = .ok (.aload_n 0, 1) := by decide +kernel
theorem dX12_link_125 : decode cX12_link 125 = .ok (.bipush 7, 2) := by decide +kernel
theorem dX12_link_127 : decode cX12_link 127 = .ok (.iconst 0, 1) := by decide +kernel
theorem dX12_link_128 : decode cX12_link 128 = .ok (.invokevirtual 201, 3) := by decide +kernel
theorem dX12_link_131 : decode cX12_link 131 = .ok (.istore_n 1, 1) := by decide +kernel
theorem dX12_link_132 : decode cX12_link 132 = .ok (.aload_n 0, 1) := by decide +kernel
theorem dX12_link_133 : decode cX12_link 133 = .ok (.iload_n 1, 1) := by decide +kernel
theorem dX12_link_134 : decode cX12_link 134 = .ok (.ifCond .ne 7, 3) := by decide +kernel
theorem dX12_link_137 : decode cX12_link 137 = .ok (.iconst 1, 1) := by decide +kernel
theorem dX12_link_138 : decode cX12_link 138 = .ok (.goto 4, 3) := by decide +kernel
theorem dX12_link_141 : decode cX12_link 141 = .ok (.iconst 0, 1) := by decide +kernel
theorem dX12_link_142 : decode cX12_link 142 = .ok (.putfield 134, 3) := by decide +kernel
theorem dX12_link_145 : decode cX12_link 145 = .ok (.aload_n 0, 1) := by decide +kernel
theorem dX12_link_146 : decode cX12_link 146 = .ok (.getfield 134, 3) := by decide +kernel
theorem dX12_link_149 : decode cX12_link 149 = .ok (.ifCond .eq 7, 3) := by decide +kernel
theorem dX12_link_152 : decode cX12_link 152 = .ok (.aload_n 0, 1) := by decide +kernel
theorem dX12_link_153 : decode cX12_link 153 = .ok (.invokevirtual 229, 3) := by decide +kernel
theorem dX12_link_156 : decode cX12_link 156 = .ok (.aload_n 0, 1) := by decide +kernel
theorem dX12_link_157 : decode cX12_link 157 = .ok (.getfield 192, 3) := by decide +kernel
theorem dX12_link_160 : decode cX12_link 160 = .ok (.ireturn, 1) := by decide +kernel
theorem dX12_place_0 : decode cX12_place 0 = .ok (.aload_n 0, 1) := by decide +kernel
theorem dX12_place_1 : decode cX12_place 1 = .ok (.iconst 0, 1) := by decide +kernel
theorem dX12_place_2 : decode cX12_place 2 = .ok (.putfield 120, 3) := by decide +kernel
theorem dX12_place_5 : decode cX12_place 5 = .ok (.aload_n 0, 1) := by decide +kernel
theorem dX12_place_6 : decode cX12_place 6 = .ok (.getfield 62, 3) := by decide +kernel
theorem dX12_place_9 : decode cX12_place 9 = .ok (.ireturn, 1) := by decide +kernel
theorem dX12_put_0 : decode cX12_put 0 = .ok (.aload_n 0, 1) := by decide +kernel
theorem dX12_put_1 : decode cX12_put 1 = .ok (.getfield 67, 3) := by decide +kernel
theorem dX12_put_4 : decode cX12_put 4 = .ok (.aload_n 0, 1) := by decide +kernel
theorem dX12_put_5 : decode cX12_put 5 = .ok (.dup, 1) := by decide +kernel
theorem dX12_put_6 : decode cX12_put 6 = .ok (.getfield 232, 3) := by decide +kernel
theorem dX12_put_9 : decode cX12_put 9 = .ok (.dup_x1, 1) := by decide +kernel
theorem dX12_put_10 : decode cX12_put 10 = .ok (.iconst 1, 1) := by decide +kernel
theorem dX12_put_11 : decode cX12_put 11 = .ok (.iadd, 1) := by decide +kernel
theorem dX12_put_12 : decode cX12_put 12 = .ok (.putfield 232, 3) := by decide +kernel
theorem dX12_put_15 : decode cX12_put 15 = .ok (.iload_n 1, 1) := by decide +kernel
theorem dX12_put_16 : decode cX12_put 16 = .ok (.i2b, 1) := by decide +kernel
theorem dX12_put_17 : decode cX12_put 17 = .ok (.bastore, 1) := by decide +kernel
theorem dX12_put_18 : decode cX12_put 18 = .ok (.return_, 1) := by decide +kernel
theorem dX12_unsigned_0 : decode cX12_unsigned 0 = .ok (.iload_n 1, 1) := by decide +kernel
theorem dX12_unsigned_1 : decode cX12_unsigned 1 = .ok (.istore_n 2, 1) := by decide +kernel
theorem dX12_unsigned_2 : decode cX12_unsigned 2 = .ok (.iload_n 2, 1) := by decide +kernel
theorem dX12_unsigned_3 : decode cX12_unsigned 3 = .ok (.bipush 127, 2) := by decide +kernel
theorem dX12_unsigned_5 : decode cX12_unsigned 5 = .ok (.if_icmp .le 25, 3) := by decide +kernel
theorem dX12_unsigned_8 : decode cX12_unsigned 8 = .ok (.aload_n 0, 1) := by decide +kernel
theorem dX12_unsigned_9 : decode cX12_unsigned 9 = .ok (.iload_n 2, 1) := by decide +kernel
theorem dX12_unsigned_10 : decode cX12_unsigned 10 = .ok (.sipush 128, 3) := by decide +kernel
theorem dX12_unsigned_13 : decode cX12_unsigned 13 = .ok (.irem, 1) := by decide +kernel
theorem dX12_unsigned_14 : decode cX12_unsigned 14 = .ok (.sipush 128, 3) := by decide +kernel
theorem dX12_unsigned_17 : decode cX12_unsigned 17 = .ok (.iadd, 1) := by decide +kernel
theorem dX12_unsigned_18 : decode cX12_unsigned 18 = .ok (.invokevirtual 235, 3) := by decide +kernel
theorem dX12_unsigned_21 : decode cX12_unsigned 21 = .ok (.iload_n 2, 1) := by decide +kernel
theorem dX12_unsigned_22 : decode cX12_unsigned 22 = .ok (.sipush 128, 3) := by decide +kernel
theorem dX12_unsigned_25 : decode cX12_unsigned 25 = .ok (.idiv, 1) := by decide +kernel
theorem dX12_unsigned_26 : decode cX12_unsigned 26 = .ok (.istore_n 2, 1) := by decide +kernel
theorem dX12_unsigned_27 : decode cX12_unsigned 27 = .ok (.goto (-25), 3) := by decide +kernel
theorem dX12_unsigned_30 : decode cX12_unsigned 30 = .ok (.aload_n 0, 1) := by decide +kernel
theorem dX12_unsigned_31 : decode cX12_unsigned 31 = .ok (.iload_n 2, 1) := by decide +kernel
theorem dX12_unsigned_32 : decode cX12_unsigned 32 = .ok (.invokevirtual 235, 3) := by decide +kernel
theorem dX12_unsigned_35 : decode cX12_unsigned 35 = .ok (.return_, 1) := by decide +kernel
theorem dX12_signed_0 : decode cX12_signed 0 = .ok (.iload_n 1, 1) := by decide +kernel
theorem dX12_signed_1 : decode cX12_signed 1 = .ok (.i2l, 1) := by decide +kernel
theorem dX12_signed_2 : decode cX12_signed 2 = .ok (.lstore_n 2, 1) := by decide +kernel
theorem dX12_signed_3 : decode cX12_signed 3 = .ok (.lload_n 2, 1) := by decide +kernel
theorem dX12_signed_4 : decode cX12_signed 4 = .ok (.ldc2_w 239, 3) := by decide +kernel
theorem dX12_signed_7 : decode cX12_signed 7 = .ok (.lcmp, 1) := by decide +kernel
theorem dX12_signed_8 : decode cX12_signed 8 = .ok (.ifCond .lt 11, 3) := by decide +kernel
theorem dX12_signed_11 : decode cX12_signed 11 = .ok (.lload_n 2, 1) := by decide +kernel
theorem dX12_signed_12 : decode cX12_signed 12 = .ok (.ldc2_w 241, 3) := by decide +kernel
theorem dX12_signed_15 : decode cX12_signed 15 = .ok (.lcmp, 1) := by decide +kernel
theorem dX12_signed_16 : decode cX12_signed 16 = .ok (.ifCond .le 25, 3) := by decide +kernel
theorem dX12_signed_19 : decode cX12_signed 19 = .ok (.aload_n 0, 1) := by decide +kernel
theorem dX12_signed_20 : decode cX12_signed 20 = .ok (.lload_n 2, 1) := by decide +kernel
theorem dX12_signed_21 : decode cX12_signed 21 = .ok (.ldc2_w 243, 3) := by decide +kernel
theorem dX12_signed_24 : decode cX12_signed 24 = .ok (.land, 1) := by decide +kernel
theorem dX12_signed_25 : decode cX12_signed 25 = .ok (.l2i, 1) := by decide +kernel
theorem dX12_signed_26 : decode cX12_signed 26 = .ok (.sipush 128, 3) := by decide +kernel
theorem dX12_signed_29 : decode cX12_signed 29 = .ok (.iadd, 1) := by decide +kernel
theorem dX12_signed_30 : decode cX12_signed 30 = .ok (.invokevirtual 235, 3) := by decide +kernel
theorem dX12_signed_33 : decode cX12_signed 33 = .ok (.lload_n 2, 1) := by decide +kernel
theorem dX12_signed_34 : decode cX12_signed 34 = .ok (.bipush 7, 2) := by decide +kernel
theorem dX12_signed_36 : decode cX12_signed 36 = .ok (.lshr, 1) := by decide +kernel
theorem dX12_signed_37 : decode cX12_signed 37 = .ok (.lstore_n 2, 1) := by decide +kernel
theorem dX12_signed_38 : decode cX12_signed 38 = .ok (.goto (-35), 3) := by decide +kernel
theorem dX12_signed_41 : decode cX12_signed 41 = .ok (.aload_n 0, 1) := by decide +kernel
theorem dX12_signed_42 : decode cX12_signed 42 = .ok (.lload_n 2, 1) := by decide +kernel
theorem dX12_signed_43 : decode cX12_signed 43 = .ok (.ldc2_w 243, 3) := by decide +kernel
theorem dX12_signed_46 : decode cX12_signed 46 = .ok (.land, 1) := by decide +kernel
theorem dX12_signed_47 : decode cX12_signed 47 = .ok (.l2i, 1) := by decide +kernel
theorem dX12_signed_48 : decode cX12_signed 48 = .ok (.invokevirtual 235, 3) := by decide +kernel
theorem dX12_signed_51 : decode cX12_signed 51 = .ok (.return_, 1) := by decide +kernel
theorem dX12_wide_0 : decode cX12_wide 0 = .ok (.iconst 0, 1) := by decide +kernel
theorem dX12_wide_1 : decode cX12_wide 1 = .ok (.istore_n 2, 1) := by decide +kernel
theorem dX12_wide_2 : decode cX12_wide 2 = .ok (.iload_n 2, 1) := by decide +kernel
theorem dX12_wide_3 : decode cX12_wide 3 = .ok (.iconst 4, 1) := by decide +kernel
theorem dX12_wide_4 : decode cX12_wide 4 = .ok (.if_icmp .ge 27, 3) := by decide +kernel
theorem dX12_wide_7 : decode cX12_wide 7 = .ok (.aload_n 0, 1) := by decide +kernel
theorem dX12_wide_8 : decode cX12_wide 8 = .ok (.iload_n 1, 1) := by decide +kernel
theorem dX12_wide_9 : decode cX12_wide 9 = .ok (.bipush 7, 2) := by decide +kernel
theorem dX12_wide_11 : decode cX12_wide 11 = .ok (.iload_n 2, 1) := by decide +kernel
theorem dX12_wide_12 : decode cX12_wide 12 = .ok (.imul, 1) := by decide +kernel
theorem dX12_wide_13 : decode cX12_wide 13 = .ok (.ishr, 1) := by decide +kernel
theorem dX12_wide_14 : decode cX12_wide 14 = .ok (.sipush 128, 3) := by decide +kernel
theorem dX12_wide_17 : decode cX12_wide 17 = .ok (.irem, 1) := by decide +kernel
theorem dX12_wide_18 : decode cX12_wide 18 = .ok (.sipush 128, 3) := by decide +kernel
theorem dX12_wide_21 : decode cX12_wide 21 = .ok (.iadd, 1) := by decide +kernel
theorem dX12_wide_22 : decode cX12_wide 22 = .ok (.invokevirtual 235, 3) := by decide +kernel
theorem dX12_wide_25 : decode cX12_wide 25 = .ok (.iinc 2 1, 3) := by decide +kernel
theorem dX12_wide_28 : decode cX12_wide 28 = .ok (.goto (-26), 3) := by decide +kernel
theorem dX12_wide_31 : decode cX12_wide 31 = .ok (.aload_n 0, 1) := by decide +kernel
theorem dX12_wide_32 : decode cX12_wide 32 = .ok (.iload_n 1, 1) := by decide +kernel
theorem dX12_wide_33 : decode cX12_wide 33 = .ok (.bipush 28, 2) := by decide +kernel
theorem dX12_wide_35 : decode cX12_wide 35 = .ok (.ishr, 1) := by decide +kernel
theorem dX12_wide_36 : decode cX12_wide 36 = .ok (.invokevirtual 235, 3) := by decide +kernel
theorem dX12_wide_39 : decode cX12_wide 39 = .ok (.return_, 1) := by decide +kernel
theorem dX12_sized_0 : decode cX12_sized 0 = .ok (.aload_n 0, 1) := by decide +kernel
theorem dX12_sized_1 : decode cX12_sized 1 = .ok (.getfield 232, 3) := by decide +kernel
theorem dX12_sized_4 : decode cX12_sized 4 = .ok (.iload_n 1, 1) := by decide +kernel
theorem dX12_sized_5 : decode cX12_sized 5 = .ok (.isub, 1) := by decide +kernel
theorem dX12_sized_6 : decode cX12_sized 6 = .ok (.istore_n 2, 1) := by decide +kernel
theorem dX12_sized_7 : decode cX12_sized 7 = .ok (.iconst 1, 1) := by decide +kernel
theorem dX12_sized_8 : decode cX12_sized 8 = .ok (.istore_n 3, 1) := by decide +kernel
theorem dX12_sized_9 : decode cX12_sized 9 = .ok (.iload_n 2, 1) := by decide +kernel
theorem dX12_sized_10 : decode cX12_sized 10 = .ok (.istore 4, 2) := by decide +kernel
theorem dX12_sized_12 : decode cX12_sized 12 = .ok (.iload 4, 2) := by decide +kernel
theorem dX12_sized_14 : decode cX12_sized 14 = .ok (.bipush 127, 2) := by decide +kernel
theorem dX12_sized_16 : decode cX12_sized 16 = .ok (.if_icmp .le 17, 3) := by decide +kernel
theorem dX12_sized_19 : decode cX12_sized 19 = .ok (.iinc 3 1, 3) := by decide +kernel
theorem dX12_sized_22 : decode cX12_sized 22 = .ok (.iload 4, 2) := by decide +kernel
theorem dX12_sized_24 : decode cX12_sized 24 = .ok (.sipush 128, 3) := by decide +kernel
theorem dX12_sized_27 : decode cX12_sized 27 = .ok (.idiv, 1) := by decide +kernel
theorem dX12_sized_28 : decode cX12_sized 28 = .ok (.istore 4, 2) := by decide +kernel
theorem dX12_sized_30 : decode cX12_sized 30 = .ok (.goto (-18), 3) := by decide +kernel
theorem dX12_sized_33 : decode cX12_sized 33 = .ok (.aload_n 0, 1) := by decide +kernel
theorem dX12_sized_34 : decode cX12_sized 34 = .ok (.getfield 232, 3) := by decide +kernel
theorem dX12_sized_37 : decode cX12_sized 37 = .ok (.iconst 1, 1) := by decide +kernel
theorem dX12_sized_38 : decode cX12_sized 38 = .ok (.isub, 1) := by decide +kernel
theorem dX12_sized_39 : decode cX12_sized 39 = .ok (.istore 4, 2) := by decide +kernel
theorem dX12_sized_41 : decode cX12_sized 41 = .ok (.iload 4, 2) := by decide +kernel
theorem dX12_sized_43 : decode cX12_sized 43 = .ok (.iload_n 1, 1) := by decide +kernel
theorem dX12_sized_44 : decode cX12_sized 44 = .ok (.if_icmp .lt 25, 3) := by decide +kernel
theorem dX12_sized_47 : decode cX12_sized 47 = .ok (.aload_n 0, 1) := by decide +kernel
theorem dX12_sized_48 : decode cX12_sized 48 = .ok (.getfield 67, 3) := by decide +kernel
theorem dX12_sized_51 : decode cX12_sized 51 = .ok (.iload 4, 2) := by decide +kernel
theorem dX12_sized_53 : decode cX12_sized 53 = .ok (.iload_n 3, 1) := by decide +kernel
theorem dX12_sized_54 : decode cX12_sized 54 = .ok (.iadd, 1) := by decide +kernel
theorem dX12_sized_55 : decode cX12_sized 55 = .ok (.aload_n 0, 1) := by decide +kernel
theorem dX12_sized_56 : decode cX12_sized 56 = .ok (.getfield 67, 3) := by decide +kernel
theorem dX12_sized_59 : decode cX12_sized 59 = .ok (.iload 4, 2) := by decide +kernel
theorem dX12_sized_61 : decode cX12_sized 61 = .ok (.baload, 1) := by decide +kernel
theorem dX12_sized_62 : decode cX12_sized 62 = .ok (.bastore, 1) := by decide +kernel
theorem dX12_sized_63 : decode cX12_sized 63 = .ok (.iinc 4 (-1), 3) := by decide +kernel
theorem dX12_sized_66 : decode cX12_sized 66 = .ok (.goto (-25), 3) := by decide +kernel
theorem dX12_sized_69 : decode cX12_sized 69 = .ok (.aload_n 0, 1) := by decide +kernel
theorem dX12_sized_70 : decode cX12_sized 70 = .ok (.iload_n 1, 1) := by decide +kernel
theorem dX12_sized_71 : decode cX12_sized 71 = .ok (.putfield 232, 3) := by decide +kernel
theorem dX12_sized_74 : decode cX12_sized 74 = .ok (.aload_n 0, 1) := by decide +kernel
theorem dX12_sized_75 : decode cX12_sized 75 = .ok (.iload_n 2, 1) := by decide +kernel
theorem dX12_sized_76 : decode cX12_sized 76 = .ok (.invokevirtual 245, 3) := by decide +kernel
theorem dX12_sized_79 : decode cX12_sized 79 = .ok (.aload_n 0, 1) := by decide +kernel
theorem dX12_sized_80 : decode cX12_sized 80 = .ok (.iload_n 1, 1) := by decide +kernel
theorem dX12_sized_81 : decode cX12_sized 81 = .ok (.iload_n 3, 1) := by decide +kernel
theorem dX12_sized_82 : decode cX12_sized 82 = .ok (.iadd, 1) := by decide +kernel
theorem dX12_sized_83 : decode cX12_sized 83 = .ok (.iload_n 2, 1) := by decide +kernel
theorem dX12_sized_84 : decode cX12_sized 84 = .ok (.iadd, 1) := by decide +kernel
theorem dX12_sized_85 : decode cX12_sized 85 = .ok (.putfield 232, 3) := by decide +kernel
theorem dX12_sized_88 : decode cX12_sized 88 = .ok (.return_, 1) := by decide +kernel
theorem dX12_begin_0 : decode cX12_begin 0 = .ok (.aload_n 0, 1) := by decide +kernel
theorem dX12_begin_1 : decode cX12_begin 1 = .ok (.iload_n 1, 1) := by decide +kernel
theorem dX12_begin_2 : decode cX12_begin 2 = .ok (.invokevirtual 235, 3) := by decide +kernel
theorem dX12_begin_5 : decode cX12_begin 5 = .ok (.aload_n 0, 1) := by decide +kernel
theorem dX12_begin_6 : decode cX12_begin 6 = .ok (.getfield 232, 3) := by decide +kernel
theorem dX12_begin_9 : decode cX12_begin 9 = .ok (.ireturn, 1) := by decide +kernel
theorem dX12_typeOf_0 : decode cX12_typeOf 0 = .ok (.iconst 0, 1) := by decide +kernel
theorem dX12_typeOf_1 : decode cX12_typeOf 1 = .ok (.istore_n 2, 1) := by decide +kernel
theorem dX12_typeOf_2 : decode cX12_typeOf 2 = .ok (.iload_n 2, 1) := by decide +kernel
theorem dX12_typeOf_3 : decode cX12_typeOf 3 = .ok (.aload_n 0, 1) := by decide +kernel
theorem dX12_typeOf_4 : decode cX12_typeOf 4 = .ok (.getfield 248, 3) := by decide +kernel
theorem dX12_typeOf_7 : decode cX12_typeOf 7 = .ok (.if_icmp .ge 21, 3) := by decide +kernel
theorem dX12_typeOf_10 : decode cX12_typeOf 10 = .ok (.aload_n 0, 1) := by decide +kernel
theorem dX12_typeOf_11 : decode cX12_typeOf 11 = .ok (.getfield 73, 3) := by decide +kernel
theorem dX12_typeOf_14 : decode cX12_typeOf 14 = .ok (.iload_n 2, 1) := by decide +kernel
theorem dX12_typeOf_15 : decode cX12_typeOf 15 = .ok (.iaload, 1) := by decide +kernel
theorem dX12_typeOf_16 : decode cX12_typeOf 16 = .ok (.iload_n 1, 1) := by decide +kernel
theorem dX12_typeOf_17 : decode cX12_typeOf 17 = .ok (.if_icmp .ne 5, 3) := by decide +kernel
theorem dX12_typeOf_20 : decode cX12_typeOf 20 = .ok (.iload_n 2, 1) := by decide +kernel
theorem dX12_typeOf_21 : decode cX12_typeOf 21 = .ok (.ireturn, 1) := by decide +kernel
theorem dX12_typeOf_22 : decode cX12_typeOf 22 = .ok (.iinc 2 1, 3) := by decide +kernel
theorem dX12_typeOf_25 : decode cX12_typeOf 25 = .ok (.goto (-23), 3) := by decide +kernel
theorem dX12_typeOf_28 : decode cX12_typeOf 28 = .ok (.aload_n 0, 1) := by decide +kernel
theorem dX12_typeOf_29 : decode cX12_typeOf 29 = .ok (.getfield 73, 3) := by decide +kernel
theorem dX12_typeOf_32 : decode cX12_typeOf 32 = .ok (.aload_n 0, 1) := by decide +kernel
theorem dX12_typeOf_33 : decode cX12_typeOf 33 = .ok (.getfield 248, 3) := by decide +kernel
theorem dX12_typeOf_36 : decode cX12_typeOf 36 = .ok (.iload_n 1, 1) := by decide +kernel
theorem dX12_typeOf_37 : decode cX12_typeOf 37 = .ok (.iastore, 1) := by decide +kernel
theorem dX12_typeOf_38 : decode cX12_typeOf 38 = .ok (.aload_n 0, 1) := by decide +kernel
theorem dX12_typeOf_39 : decode cX12_typeOf 39 = .ok (.dup, 1) := by decide +kernel
theorem dX12_typeOf_40 : decode cX12_typeOf 40 = .ok (.getfield 248, 3) := by decide +kernel
theorem dX12_typeOf_43 : decode cX12_typeOf 43 = .ok (.iconst 1, 1) := by decide +kernel
theorem dX12_typeOf_44 : decode cX12_typeOf 44 = .ok (.iadd, 1) := by decide +kernel
theorem dX12_typeOf_45 : decode cX12_typeOf 45 = .ok (.putfield 248, 3) := by decide +kernel
theorem dX12_typeOf_48 : decode cX12_typeOf 48 = .ok (.aload_n 0, 1) := by decide +kernel
theorem dX12_typeOf_49 : decode cX12_typeOf 49 = .ok (.getfield 248, 3) := by decide +kernel
theorem dX12_typeOf_52 : decode cX12_typeOf 52 = .ok (.iconst 1, 1) := by decide +kernel
theorem dX12_typeOf_53 : decode cX12_typeOf 53 = .ok (.isub, 1) := by decide +kernel
theorem dX12_typeOf_54 : decode cX12_typeOf 54 = .ok (.ireturn, 1) := by decide +kernel
theorem dX12_slotOf_0 : decode cX12_slotOf 0 = .ok (.iconst 0, 1) := by decide +kernel
theorem dX12_slotOf_1 : decode cX12_slotOf 1 = .ok (.istore_n 2, 1) := by decide +kernel
theorem dX12_slotOf_2 : decode cX12_slotOf 2 = .ok (.iload_n 2, 1) := by decide +kernel
theorem dX12_slotOf_3 : decode cX12_slotOf 3 = .ok (.aload_n 0, 1) := by decide +kernel
theorem dX12_slotOf_4 : decode cX12_slotOf 4 = .ok (.getfield 251, 3) := by decide +kernel
theorem dX12_slotOf_7 : decode cX12_slotOf 7 = .ok (.if_icmp .ge 23, 3) := by decide +kernel
theorem dX12_slotOf_10 : decode cX12_slotOf 10 = .ok (.aload_n 0, 1) := by decide +kernel
theorem dX12_slotOf_11 : decode cX12_slotOf 11 = .ok (.getfield 70, 3) := by decide +kernel
theorem dX12_slotOf_14 : decode cX12_slotOf 14 = .ok (.iload_n 2, 1) := by decide +kernel
theorem dX12_slotOf_15 : decode cX12_slotOf 15 = .ok (.iaload, 1) := by decide +kernel
theorem dX12_slotOf_16 : decode cX12_slotOf 16 = .ok (.iload_n 1, 1) := by decide +kernel
theorem dX12_slotOf_17 : decode cX12_slotOf 17 = .ok (.if_icmp .ne 7, 3) := by decide +kernel
theorem dX12_slotOf_20 : decode cX12_slotOf 20 = .ok (.iload_n 2, 1) := by decide +kernel
theorem dX12_slotOf_21 : decode cX12_slotOf 21 = .ok (.iconst 1, 1) := by decide +kernel
theorem dX12_slotOf_22 : decode cX12_slotOf 22 = .ok (.iadd, 1) := by decide +kernel
theorem dX12_slotOf_23 : decode cX12_slotOf 23 = .ok (.ireturn, 1) := by decide +kernel
theorem dX12_slotOf_24 : decode cX12_slotOf 24 = .ok (.iinc 2 1, 3) := by decide +kernel
theorem dX12_slotOf_27 : decode cX12_slotOf 27 = .ok (.goto (-25), 3) := by decide +kernel
theorem dX12_slotOf_30 : decode cX12_slotOf 30 = .ok (.iconst 0, 1) := by decide +kernel
theorem dX12_slotOf_31 : decode cX12_slotOf 31 = .ok (.ireturn, 1) := by decide +kernel
theorem dX12_findSlotsAndTypes_0 : decode cX12_findSlotsAndTypes 0 = .ok (.aload_n 0, 1) := by decide +kernel
theorem dX12_findSlotsAndTypes_1 : decode cX12_findSlotsAndTypes 1 = .ok (.iconst 0, 1) := by decide +kernel
theorem dX12_findSlotsAndTypes_2 : decode cX12_findSlotsAndTypes 2 = .ok (.putfield 251, 3) := by decide +kernel
theorem dX12_findSlotsAndTypes_5 : decode cX12_findSlotsAndTypes 5 = .ok (.aload_n 0, 1) := by decide +kernel
theorem dX12_findSlotsAndTypes_6 : decode cX12_findSlotsAndTypes 6 = .ok (.iconst 0, 1) := by decide +kernel
theorem dX12_findSlotsAndTypes_7 : decode cX12_findSlotsAndTypes 7 = .ok (.putfield 248, 3) := by decide +kernel
theorem dX12_findSlotsAndTypes_10 : decode cX12_findSlotsAndTypes 10 = .ok (.iconst 0, 1) := by decide +kernel
theorem dX12_findSlotsAndTypes_11 : decode cX12_findSlotsAndTypes 11 = .ok (.istore_n 1, 1) := by decide +kernel
theorem dX12_findSlotsAndTypes_12 : decode cX12_findSlotsAndTypes 12 = .ok (.iconst 0, 1) := by decide +kernel
theorem dX12_findSlotsAndTypes_13 : decode cX12_findSlotsAndTypes 13 = .ok (.istore_n 2, 1) := by decide +kernel
theorem dX12_findSlotsAndTypes_14 : decode cX12_findSlotsAndTypes 14 = .ok (.iload_n 2, 1) := by decide +kernel
theorem dX12_findSlotsAndTypes_15 : decode cX12_findSlotsAndTypes 15 = .ok (.bipush 48, 2) := by decide +kernel
theorem dX12_findSlotsAndTypes_17 : decode cX12_findSlotsAndTypes 17 = .ok (.if_icmp .ge 27, 3) := by decide +kernel
theorem dX12_findSlotsAndTypes_20 : decode cX12_findSlotsAndTypes 20 = .ok (.aload_n 0, 1) := by decide +kernel
theorem dX12_findSlotsAndTypes_21 : decode cX12_findSlotsAndTypes 21 = .ok (.iload_n 2, 1) := by decide +kernel
theorem dX12_findSlotsAndTypes_22 : decode cX12_findSlotsAndTypes 22 = .ok (.invokevirtual 195, 3) := by decide +kernel
theorem dX12_findSlotsAndTypes_25 : decode cX12_findSlotsAndTypes 25 = .ok (.ifCond .eq 13, 3) := by decide +kernel
theorem dX12_findSlotsAndTypes_28 : decode cX12_findSlotsAndTypes 28 = .ok (.aload_n 0, 1) := by decide +kernel
theorem dX12_findSlotsAndTypes_29 : decode cX12_findSlotsAndTypes 29 = .ok (.aload_n 0, 1) := by decide +kernel
theorem dX12_findSlotsAndTypes_30 : decode cX12_findSlotsAndTypes 30 = .ok (.iload_n 2, 1) := by decide +kernel
theorem dX12_findSlotsAndTypes_31 : decode cX12_findSlotsAndTypes 31 = .ok (.invokevirtual 156, 3) := by decide +kernel
theorem dX12_findSlotsAndTypes_34 : decode cX12_findSlotsAndTypes 34 = .ok (.invokevirtual 254, 3) := by decide +kernel
theorem dX12_findSlotsAndTypes_37 : decode cX12_findSlotsAndTypes 37 = .ok (.istore_n 1, 1) := by decide +kernel
theorem dX12_findSlotsAndTypes_38 : decode cX12_findSlotsAndTypes 38 = .ok (.iinc 2 1, 3) := by decide +kernel
theorem dX12_findSlotsAndTypes_41 : decode cX12_findSlotsAndTypes 41 = .ok (.goto (-27), 3) := by decide +kernel
theorem dX12_findSlotsAndTypes_44 : decode cX12_findSlotsAndTypes 44 = .ok (.iconst 0, 1) := by decide +kernel
theorem dX12_findSlotsAndTypes_45 : decode cX12_findSlotsAndTypes 45 = .ok (.istore_n 2, 1) := by decide +kernel
theorem dX12_findSlotsAndTypes_46 : decode cX12_findSlotsAndTypes 46 = .ok (.iload_n 2, 1) := by decide +kernel
theorem dX12_findSlotsAndTypes_47 : decode cX12_findSlotsAndTypes 47 = .ok (.bipush 48, 2) := by decide +kernel
theorem dX12_findSlotsAndTypes_49 : decode cX12_findSlotsAndTypes 49 = .ok (.if_icmp .ge 140, 3) := by decide +kernel
theorem dX12_findSlotsAndTypes_52 : decode cX12_findSlotsAndTypes 52 = .ok (.iconst 0, 1) := by decide +kernel
theorem dX12_findSlotsAndTypes_53 : decode cX12_findSlotsAndTypes 53 = .ok (.istore_n 3, 1) := by decide +kernel
theorem dX12_findSlotsAndTypes_54 : decode cX12_findSlotsAndTypes 54 = .ok (.iload_n 3, 1) := by decide +kernel
theorem dX12_findSlotsAndTypes_55 : decode cX12_findSlotsAndTypes 55 = .ok (.aload_n 0, 1) := by decide +kernel
theorem dX12_findSlotsAndTypes_56 : decode cX12_findSlotsAndTypes 56 = .ok (.getfield 28, 3) := by decide +kernel
theorem dX12_findSlotsAndTypes_59 : decode cX12_findSlotsAndTypes 59 = .ok (.iload_n 2, 1) := by decide +kernel
theorem dX12_findSlotsAndTypes_60 : decode cX12_findSlotsAndTypes 60 = .ok (.iaload, 1) := by decide +kernel
theorem dX12_findSlotsAndTypes_61 : decode cX12_findSlotsAndTypes 61 = .ok (.if_icmp .ge 122, 3) := by decide +kernel
theorem dX12_findSlotsAndTypes_64 : decode cX12_findSlotsAndTypes 64 = .ok (.aload_n 0, 1) := by decide +kernel
theorem dX12_findSlotsAndTypes_65 : decode cX12_findSlotsAndTypes 65 = .ok (.iload_n 2, 1) := by decide +kernel
theorem dX12_findSlotsAndTypes_66 : decode cX12_findSlotsAndTypes 66 = .ok (.invokevirtual 195, 3) := by decide +kernel
theorem dX12_findSlotsAndTypes_69 : decode cX12_findSlotsAndTypes 69 = .ok (.ifCond .eq 114, 3) := by decide +kernel
theorem dX12_findSlotsAndTypes_72 : decode cX12_findSlotsAndTypes 72 = .ok (.aload_n 0, 1) := by decide +kernel
theorem dX12_findSlotsAndTypes_73 : decode cX12_findSlotsAndTypes 73 = .ok (.getfield 31, 3) := by decide +kernel
theorem dX12_findSlotsAndTypes_76 : decode cX12_findSlotsAndTypes 76 = .ok (.bipush 60, 2) := by decide +kernel
theorem dX12_findSlotsAndTypes_78 : decode cX12_findSlotsAndTypes 78 = .ok (.iload_n 2, 1) := by decide +kernel
theorem dX12_findSlotsAndTypes_79 : decode cX12_findSlotsAndTypes 79 = .ok (.imul, 1) := by decide +kernel
theorem dX12_findSlotsAndTypes_80 : decode cX12_findSlotsAndTypes 80 = .ok (.iload_n 3, 1) := by decide +kernel
theorem dX12_findSlotsAndTypes_81 : decode cX12_findSlotsAndTypes 81 = .ok (.iadd, 1) := by decide +kernel
theorem dX12_findSlotsAndTypes_82 : decode cX12_findSlotsAndTypes 82 = .ok (.iaload, 1) := by decide +kernel
theorem dX12_findSlotsAndTypes_83 : decode cX12_findSlotsAndTypes 83 = .ok (.istore 4, 2) := by decide +kernel
theorem dX12_findSlotsAndTypes_85 : decode cX12_findSlotsAndTypes 85 = .ok (.aload_n 0, 1) := by decide +kernel
theorem dX12_findSlotsAndTypes_86 : decode cX12_findSlotsAndTypes 86 = .ok (.getfield 34, 3) := by decide +kernel
theorem dX12_findSlotsAndTypes_89 : decode cX12_findSlotsAndTypes 89 = .ok (.bipush 60, 2) := by decide +kernel
theorem dX12_findSlotsAndTypes_91 : decode cX12_findSlotsAndTypes 91 = .ok (.iload_n 2, 1) := by decide +kernel
theorem dX12_findSlotsAndTypes_92 : decode cX12_findSlotsAndTypes 92 = .ok (.imul, 1) := by decide +kernel
theorem dX12_findSlotsAndTypes_93 : decode cX12_findSlotsAndTypes 93 = .ok (.iload_n 3, 1) := by decide +kernel
theorem dX12_findSlotsAndTypes_94 : decode cX12_findSlotsAndTypes 94 = .ok (.iadd, 1) := by decide +kernel
theorem dX12_findSlotsAndTypes_95 : decode cX12_findSlotsAndTypes 95 = .ok (.iaload, 1) := by decide +kernel
theorem dX12_findSlotsAndTypes_96 : decode cX12_findSlotsAndTypes 96 = .ok (.istore 5, 2) := by decide +kernel
theorem dX12_findSlotsAndTypes_98 : decode cX12_findSlotsAndTypes 98 = .ok (.iload 4, 2) := by decide +kernel
theorem dX12_findSlotsAndTypes_100 : decode cX12_findSlotsAndTypes 100 = .ok (.bipush 32, 2) := by decide +kernel
theorem dX12_findSlotsAndTypes_102 : decode cX12_findSlotsAndTypes 102 = .ok (.if_icmp .ne 10, 3) := by decide +kernel
theorem dX12_findSlotsAndTypes_105 : decode cX12_findSlotsAndTypes 105 = .ok (.aload_n 0, 1) := by decide +kernel
theorem dX12_findSlotsAndTypes_106 : decode cX12_findSlotsAndTypes 106 = .ok (.iload 5, 2) := by decide +kernel
theorem dX12_findSlotsAndTypes_108 : decode cX12_findSlotsAndTypes 108 = .ok (.invokevirtual 254, 3) := by decide +kernel
theorem dX12_findSlotsAndTypes_111 : decode cX12_findSlotsAndTypes 111 = .ok (.istore_n 1, 1) := by decide +kernel
theorem dX12_findSlotsAndTypes_112 : decode cX12_findSlotsAndTypes 112 = .ok (.iload 4, 2) := by decide +kernel
theorem dX12_findSlotsAndTypes_114 : decode cX12_findSlotsAndTypes 114 = .ok (.bipush 34, 2) := by decide +kernel
theorem dX12_findSlotsAndTypes_116 : decode cX12_findSlotsAndTypes 116 = .ok (.if_icmp .ne 20, 3) := by decide +kernel
theorem dX12_findSlotsAndTypes_119 : decode cX12_findSlotsAndTypes 119 = .ok (.aload_n 0, 1) := by decide +kernel
theorem dX12_findSlotsAndTypes_120 : decode cX12_findSlotsAndTypes 120 = .ok (.bipush 16, 2) := by decide +kernel
theorem dX12_findSlotsAndTypes_122 : decode cX12_findSlotsAndTypes 122 = .ok (.iload_n 2, 1) := by decide +kernel
theorem dX12_findSlotsAndTypes_123 : decode cX12_findSlotsAndTypes 123 = .ok (.bipush 8, 2) := by decide +kernel
theorem dX12_findSlotsAndTypes_125 : decode cX12_findSlotsAndTypes 125 = .ok (.idiv, 1) := by decide +kernel
theorem dX12_findSlotsAndTypes_126 : decode cX12_findSlotsAndTypes 126 = .ok (.imul, 1) := by decide +kernel
theorem dX12_findSlotsAndTypes_127 : decode cX12_findSlotsAndTypes 127 = .ok (.iload 5, 2) := by decide +kernel
theorem dX12_findSlotsAndTypes_129 : decode cX12_findSlotsAndTypes 129 = .ok (.iadd, 1) := by decide +kernel
theorem dX12_findSlotsAndTypes_130 : decode cX12_findSlotsAndTypes 130 = .ok (.invokevirtual 189, 3) := by decide +kernel
theorem dX12_findSlotsAndTypes_133 : decode cX12_findSlotsAndTypes 133 = .ok (.goto 4, 3) := by decide +kernel
theorem dX12_findSlotsAndTypes_136 : decode cX12_findSlotsAndTypes 136 = .ok (.iconst (-1), 1) := by decide +kernel
theorem dX12_findSlotsAndTypes_137 : decode cX12_findSlotsAndTypes 137 = .ok (.istore 6, 2) := by decide +kernel
theorem dX12_findSlotsAndTypes_139 : decode cX12_findSlotsAndTypes 139 = .ok (.iload 6, 2) := by decide +kernel
theorem dX12_findSlotsAndTypes_141 : decode cX12_findSlotsAndTypes 141 = .ok (.ifCond .lt 36, 3) := by decide +kernel
theorem dX12_findSlotsAndTypes_144 : decode cX12_findSlotsAndTypes 144 = .ok (.aload_n 0, 1) := by decide +kernel
theorem dX12_findSlotsAndTypes_145 : decode cX12_findSlotsAndTypes 145 = .ok (.iload 6, 2) := by decide +kernel
theorem dX12_findSlotsAndTypes_147 : decode cX12_findSlotsAndTypes 147 = .ok (.invokevirtual 257, 3) := by decide +kernel
theorem dX12_findSlotsAndTypes_150 : decode cX12_findSlotsAndTypes 150 = .ok (.ifCond .le 6, 3) := by decide +kernel
theorem dX12_findSlotsAndTypes_153 : decode cX12_findSlotsAndTypes 153 = .ok (.goto 24, 3) := by decide +kernel
theorem dX12_findSlotsAndTypes_156 : decode cX12_findSlotsAndTypes 156 = .ok (.aload_n 0, 1) := by decide +kernel
theorem dX12_findSlotsAndTypes_157 : decode cX12_findSlotsAndTypes 157 = .ok (.getfield 70, 3) := by decide +kernel
theorem dX12_findSlotsAndTypes_160 : decode cX12_findSlotsAndTypes 160 = .ok (.aload_n 0, 1) := by decide +kernel
theorem dX12_findSlotsAndTypes_161 : decode cX12_findSlotsAndTypes 161 = .ok (.getfield 251, 3) := by decide +kernel
theorem dX12_findSlotsAndTypes_164 : decode cX12_findSlotsAndTypes 164 = .ok (.iload 6, 2) := by decide +kernel
theorem dX12_findSlotsAndTypes_166 : decode cX12_findSlotsAndTypes 166 = .ok (.iastore, 1) := by decide +kernel
theorem dX12_findSlotsAndTypes_167 : decode cX12_findSlotsAndTypes 167 = .ok (.aload_n 0, 1) := by decide +kernel
theorem dX12_findSlotsAndTypes_168 : decode cX12_findSlotsAndTypes 168 = .ok (.dup, 1) := by decide +kernel
theorem dX12_findSlotsAndTypes_169 : decode cX12_findSlotsAndTypes 169 = .ok (.getfield 251, 3) := by decide +kernel
theorem dX12_findSlotsAndTypes_172 : decode cX12_findSlotsAndTypes 172 = .ok (.iconst 1, 1) := by decide +kernel
theorem dX12_findSlotsAndTypes_173 : decode cX12_findSlotsAndTypes 173 = .ok (.iadd, 1) := by decide +kernel
theorem dX12_findSlotsAndTypes_174 : decode cX12_findSlotsAndTypes 174 = .ok (.putfield 251, 3) := by decide +kernel
theorem dX12_findSlotsAndTypes_177 : decode cX12_findSlotsAndTypes 177 = .ok (.iinc 3 1, 3) := by decide +kernel
theorem dX12_findSlotsAndTypes_180 : decode cX12_findSlotsAndTypes 180 = .ok (.goto (-126), 3) := by decide +kernel
theorem dX12_findSlotsAndTypes_183 : decode cX12_findSlotsAndTypes 183 = .ok (.iinc 2 1, 3) := by decide +kernel
theorem dX12_findSlotsAndTypes_186 : decode cX12_findSlotsAndTypes 186 = .ok (.goto (-140), 3) := by decide +kernel
theorem dX12_findSlotsAndTypes_189 : decode cX12_findSlotsAndTypes 189 = .ok (.return_, 1) := by decide +kernel
theorem dX12_functionCount_0 : decode cX12_functionCount 0 = .ok (.iconst 0, 1) := by decide +kernel
theorem dX12_functionCount_1 : decode cX12_functionCount 1 = .ok (.istore_n 1, 1) := by decide +kernel
theorem dX12_functionCount_2 : decode cX12_functionCount 2 = .ok (.iconst 0, 1) := by decide +kernel
theorem dX12_functionCount_3 : decode cX12_functionCount 3 = .ok (.istore_n 2, 1) := by decide +kernel
theorem dX12_functionCount_4 : decode cX12_functionCount 4 = .ok (.iload_n 2, 1) := by decide +kernel
theorem dX12_functionCount_5 : decode cX12_functionCount 5 = .ok (.aload_n 0, 1) := by decide +kernel
theorem dX12_functionCount_6 : decode cX12_functionCount 6 = .ok (.getfield 123, 3) := by decide +kernel
theorem dX12_functionCount_9 : decode cX12_functionCount 9 = .ok (.if_icmp .ge 18, 3) := by decide +kernel
theorem dX12_functionCount_12 : decode cX12_functionCount 12 = .ok (.iload_n 1, 1) := by decide +kernel
theorem dX12_functionCount_13 : decode cX12_functionCount 13 = .ok (.aload_n 0, 1) := by decide +kernel
theorem dX12_functionCount_14 : decode cX12_functionCount 14 = .ok (.getfield 7, 3) := by decide +kernel
theorem dX12_functionCount_17 : decode cX12_functionCount 17 = .ok (.iload_n 2, 1) := by decide +kernel
theorem dX12_functionCount_18 : decode cX12_functionCount 18 = .ok (.iaload, 1) := by decide +kernel
theorem dX12_functionCount_19 : decode cX12_functionCount 19 = .ok (.iadd, 1) := by decide +kernel
theorem dX12_functionCount_20 : decode cX12_functionCount 20 = .ok (.istore_n 1, 1) := by decide +kernel
theorem dX12_functionCount_21 : decode cX12_functionCount 21 = .ok (.iinc 2 1, 3) := by decide +kernel
theorem dX12_functionCount_24 : decode cX12_functionCount 24 = .ok (.goto (-20), 3) := by decide +kernel
theorem dX12_functionCount_27 : decode cX12_functionCount 27 = .ok (.iload_n 1, 1) := by decide +kernel
theorem dX12_functionCount_28 : decode cX12_functionCount 28 = .ok (.ireturn, 1) := by decide +kernel
theorem dX12_segmentCount_0 : decode cX12_segmentCount 0 = .ok (.iconst 0, 1) := by decide +kernel
theorem dX12_segmentCount_1 : decode cX12_segmentCount 1 = .ok (.istore_n 1, 1) := by decide +kernel
theorem dX12_segmentCount_2 : decode cX12_segmentCount 2 = .ok (.iconst 0, 1) := by decide +kernel
theorem dX12_segmentCount_3 : decode cX12_segmentCount 3 = .ok (.istore_n 2, 1) := by decide +kernel
theorem dX12_segmentCount_4 : decode cX12_segmentCount 4 = .ok (.iload_n 2, 1) := by decide +kernel
theorem dX12_segmentCount_5 : decode cX12_segmentCount 5 = .ok (.aload_n 0, 1) := by decide +kernel
theorem dX12_segmentCount_6 : decode cX12_segmentCount 6 = .ok (.getfield 123, 3) := by decide +kernel
theorem dX12_segmentCount_9 : decode cX12_segmentCount 9 = .ok (.if_icmp .ge 18, 3) := by decide +kernel
theorem dX12_segmentCount_12 : decode cX12_segmentCount 12 = .ok (.iload_n 1, 1) := by decide +kernel
theorem dX12_segmentCount_13 : decode cX12_segmentCount 13 = .ok (.aload_n 0, 1) := by decide +kernel
theorem dX12_segmentCount_14 : decode cX12_segmentCount 14 = .ok (.getfield 13, 3) := by decide +kernel
theorem dX12_segmentCount_17 : decode cX12_segmentCount 17 = .ok (.iload_n 2, 1) := by decide +kernel
theorem dX12_segmentCount_18 : decode cX12_segmentCount 18 = .ok (.iaload, 1) := by decide +kernel
theorem dX12_segmentCount_19 : decode cX12_segmentCount 19 = .ok (.iadd, 1) := by decide +kernel
theorem dX12_segmentCount_20 : decode cX12_segmentCount 20 = .ok (.istore_n 1, 1) := by decide +kernel
theorem dX12_segmentCount_21 : decode cX12_segmentCount 21 = .ok (.iinc 2 1, 3) := by decide +kernel
theorem dX12_segmentCount_24 : decode cX12_segmentCount 24 = .ok (.goto (-20), 3) := by decide +kernel
theorem dX12_segmentCount_27 : decode cX12_segmentCount 27 = .ok (.iload_n 1, 1) := by decide +kernel
theorem dX12_segmentCount_28 : decode cX12_segmentCount 28 = .ok (.ireturn, 1) := by decide +kernel
