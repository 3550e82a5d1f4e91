theorem pd0_0 : parseFieldDescriptor (TJx4a65c 0).2.2.1 = some .int := by decide +kernel
theorem pd0_1 : parseFieldDescriptor (TJx4a65c 1).2.2.1 = some (.array (.object "java/lang/Object")) := by decide +kernel
theorem pd0_2 : parseFieldDescriptor (TJx4a65c 2).2.2.1 = some .int := by decide +kernel
theorem pd1_0 : parseFieldDescriptor (TX0 0).2.2.1 = some (.array .byte) := by decide +kernel
theorem pd1_1 : parseFieldDescriptor (TX0 1).2.2.1 = some .int := by decide +kernel
theorem pd2_0 : parseFieldDescriptor (TX1 0).2.2.1 = some (.array .int) := by decide +kernel
theorem pd2_1 : parseFieldDescriptor (TX1 1).2.2.1 = some (.array .int) := by decide +kernel
theorem pd2_2 : parseFieldDescriptor (TX1 2).2.2.1 = some (.array .int) := by decide +kernel
theorem pd2_3 : parseFieldDescriptor (TX1 3).2.2.1 = some (.array .int) := by decide +kernel
theorem pd2_4 : parseFieldDescriptor (TX1 4).2.2.1 = some (.array .boolean) := by decide +kernel
theorem pd2_5 : parseFieldDescriptor (TX1 5).2.2.1 = some .int := by decide +kernel
theorem pd2_6 : parseFieldDescriptor (TX1 6).2.2.1 = some .int := by decide +kernel
theorem pd3_0 : parseFieldDescriptor (TX2 0).2.2.1 = some (.object "java/util/List") := by decide +kernel
theorem pd3_1 : parseFieldDescriptor (TX2 1).2.2.1 = some (.object "java/util/List") := by decide +kernel
theorem pd3_2 : parseFieldDescriptor (TX2 2).2.2.1 = some (.object "java/util/List") := by decide +kernel
theorem pd3_3 : parseFieldDescriptor (TX2 3).2.2.1 = some (.object "java/util/List") := by decide +kernel
theorem pd3_4 : parseFieldDescriptor (TX2 4).2.2.1 = some (.array .int) := by decide +kernel
theorem pd3_5 : parseFieldDescriptor (TX2 5).2.2.1 = some (.array .int) := by decide +kernel
theorem pd3_6 : parseFieldDescriptor (TX2 6).2.2.1 = some .int := by decide +kernel
theorem pd3_7 : parseFieldDescriptor (TX2 7).2.2.1 = some .int := by decide +kernel
theorem pd4_0 : parseFieldDescriptor (TX3 0).2.2.1 = some (.array .long) := by decide +kernel
theorem pd4_1 : parseFieldDescriptor (TX3 1).2.2.1 = some (.array (.object "ObjectLinker$Routine")) := by decide +kernel
theorem pd4_2 : parseFieldDescriptor (TX3 2).2.2.1 = some (.array .int) := by decide +kernel
theorem pd4_3 : parseFieldDescriptor (TX3 3).2.2.1 = some (.array .int) := by decide +kernel
theorem pd4_4 : parseFieldDescriptor (TX3 4).2.2.1 = some (.array .byte) := by decide +kernel
theorem pd4_5 : parseFieldDescriptor (TX3 5).2.2.1 = some (.object "java/util/List") := by decide +kernel
theorem pd4_6 : parseFieldDescriptor (TX3 6).2.2.1 = some .int := by decide +kernel
theorem pd4_7 : parseFieldDescriptor (TX3 7).2.2.1 = some .int := by decide +kernel
theorem pd4_8 : parseFieldDescriptor (TX3 8).2.2.1 = some .int := by decide +kernel
theorem pd4_9 : parseFieldDescriptor (TX3 9).2.2.1 = some .long := by decide +kernel
theorem pd4_10 : parseFieldDescriptor (TX3 10).2.2.1 = some .int := by decide +kernel
theorem pd4_11 : parseFieldDescriptor (TX3 11).2.2.1 = some .int := by decide +kernel
theorem pd5_0 : parseFieldDescriptor (TX4 0).2.2.1 = some (.object "ObjectLinker$Bytes") := by decide +kernel
theorem pd5_1 : parseFieldDescriptor (TX4 1).2.2.1 = some (.object "ObjectLinker$Bytes") := by decide +kernel
theorem pd5_2 : parseFieldDescriptor (TX4 2).2.2.1 = some (.object "ObjectLinker$Bytes") := by decide +kernel
theorem pd6_0 : parseFieldDescriptor (TX5 0).2.2.1 = some (.array (.object "ObjectLinker$Symbol")) := by decide +kernel
theorem pd6_1 : parseFieldDescriptor (TX5 1).2.2.1 = some (.array (.object "ObjectLinker$Symbol")) := by decide +kernel
theorem pd6_2 : parseFieldDescriptor (TX5 2).2.2.1 = some (.array (.object "ObjectLinker$Symbol")) := by decide +kernel
theorem pd7_0 : parseFieldDescriptor (TX6 0).2.2.1 = some (.object "ObjectLinker$Unit") := by decide +kernel
theorem pd7_1 : parseFieldDescriptor (TX6 1).2.2.1 = some .int := by decide +kernel
theorem pd7_2 : parseFieldDescriptor (TX6 2).2.2.1 = some .int := by decide +kernel
theorem pd7_3 : parseFieldDescriptor (TX6 3).2.2.1 = some .int := by decide +kernel
theorem pd7_4 : parseFieldDescriptor (TX6 4).2.2.1 = some .int := by decide +kernel
theorem pd7_5 : parseFieldDescriptor (TX6 5).2.2.1 = some (.array .int) := by decide +kernel
theorem pd7_6 : parseFieldDescriptor (TX6 6).2.2.1 = some (.array .int) := by decide +kernel
theorem pd7_7 : parseFieldDescriptor (TX6 7).2.2.1 = some (.array .int) := by decide +kernel
theorem pd7_8 : parseFieldDescriptor (TX6 8).2.2.1 = some (.array .int) := by decide +kernel
theorem pd7_9 : parseFieldDescriptor (TX6 9).2.2.1 = some (.array .int) := by decide +kernel
theorem pd7_10 : parseFieldDescriptor (TX6 10).2.2.1 = some .int := by decide +kernel
theorem pd7_11 : parseFieldDescriptor (TX6 11).2.2.1 = some .int := by decide +kernel
theorem pd7_12 : parseFieldDescriptor (TX6 12).2.2.1 = some .int := by decide +kernel
theorem pd8_0 : parseFieldDescriptor (TX7 0).2.2.1 = some (.array .byte) := by decide +kernel
theorem pd8_1 : parseFieldDescriptor (TX7 1).2.2.1 = some .int := by decide +kernel
theorem pd8_2 : parseFieldDescriptor (TX7 2).2.2.1 = some .int := by decide +kernel
theorem pd9_0 : parseFieldDescriptor (TX8 0).2.2.1 = some .int := by decide +kernel
theorem pd9_1 : parseFieldDescriptor (TX8 1).2.2.1 = some .int := by decide +kernel
theorem pd9_2 : parseFieldDescriptor (TX8 2).2.2.1 = some .int := by decide +kernel
theorem pd9_3 : parseFieldDescriptor (TX8 3).2.2.1 = some .int := by decide +kernel
theorem pd9_4 : parseFieldDescriptor (TX8 4).2.2.1 = some (.object "ObjectLinker$Routine") := by decide +kernel
theorem pd9_5 : parseFieldDescriptor (TX8 5).2.2.1 = some (.object "ObjectLinker$Segment") := by decide +kernel
theorem pd9_6 : parseFieldDescriptor (TX8 6).2.2.1 = some .int := by decide +kernel
theorem pd9_7 : parseFieldDescriptor (TX8 7).2.2.1 = some (.object "ObjectLinker$Symbol") := by decide +kernel
theorem pd10_0 : parseFieldDescriptor (TX9 0).2.2.1 = some (.object "java/util/List") := by decide +kernel
theorem pd10_1 : parseFieldDescriptor (TX9 1).2.2.1 = some (.object "java/util/List") := by decide +kernel
theorem pd10_2 : parseFieldDescriptor (TX9 2).2.2.1 = some (.object "java/util/List") := by decide +kernel
theorem pd11_0 : parseFieldDescriptor (TX11 0).2.2.1 = some (.object "java/util/List") := by decide +kernel
theorem pd11_1 : parseFieldDescriptor (TX11 1).2.2.1 = some (.object "ObjectLinker$Names") := by decide +kernel
theorem pd11_2 : parseFieldDescriptor (TX11 2).2.2.1 = some (.object "ObjectLinker$CodeCheck") := by decide +kernel
theorem pd11_3 : parseFieldDescriptor (TX11 3).2.2.1 = some (.object "ObjectLinker$Image") := by decide +kernel
theorem pd11_4 : parseFieldDescriptor (TX11 4).2.2.1 = some (.object "ObjectLinker$ModuleWriter") := by decide +kernel
theorem pd11_5 : parseFieldDescriptor (TX11 5).2.2.1 = some (.object "ObjectLinker$Machine") := by decide +kernel
theorem pd11_6 : parseFieldDescriptor (TX11 6).2.2.1 = some .boolean := by decide +kernel
theorem pd11_7 : parseFieldDescriptor (TX11 7).2.2.1 = some .int := by decide +kernel
theorem pd12_0 : parseFieldDescriptor (TX12 0).2.2.1 = some .int := by decide +kernel
theorem pd12_1 : parseFieldDescriptor (TX12 1).2.2.1 = some .int := by decide +kernel
theorem pd12_2 : parseFieldDescriptor (TX12 2).2.2.1 = some (.array .int) := by decide +kernel
theorem pd12_3 : parseFieldDescriptor (TX12 3).2.2.1 = some (.array .int) := by decide +kernel
theorem pd12_4 : parseFieldDescriptor (TX12 4).2.2.1 = some (.array .int) := by decide +kernel
theorem pd12_5 : parseFieldDescriptor (TX12 5).2.2.1 = some (.array .int) := by decide +kernel
theorem pd12_6 : parseFieldDescriptor (TX12 6).2.2.1 = some (.array .int) := by decide +kernel
theorem pd12_7 : parseFieldDescriptor (TX12 7).2.2.1 = some (.array .int) := by decide +kernel
theorem pd12_8 : parseFieldDescriptor (TX12 8).2.2.1 = some (.array .int) := by decide +kernel
theorem pd12_9 : parseFieldDescriptor (TX12 9).2.2.1 = some (.array .int) := by decide +kernel
theorem pd12_10 : parseFieldDescriptor (TX12 10).2.2.1 = some (.array .int) := by decide +kernel
theorem pd12_11 : parseFieldDescriptor (TX12 11).2.2.1 = some (.array .int) := by decide +kernel
theorem pd12_12 : parseFieldDescriptor (TX12 12).2.2.1 = some (.array .int) := by decide +kernel
theorem pd12_13 : parseFieldDescriptor (TX12 13).2.2.1 = some (.array .byte) := by decide +kernel
theorem pd12_14 : parseFieldDescriptor (TX12 14).2.2.1 = some (.array .int) := by decide +kernel
theorem pd12_15 : parseFieldDescriptor (TX12 15).2.2.1 = some (.array .int) := by decide +kernel
theorem pd12_16 : parseFieldDescriptor (TX12 16).2.2.1 = some (.array .int) := by decide +kernel
theorem pd12_17 : parseFieldDescriptor (TX12 17).2.2.1 = some (.array .int) := by decide +kernel
theorem pd12_18 : parseFieldDescriptor (TX12 18).2.2.1 = some (.array .int) := by decide +kernel
theorem pd12_19 : parseFieldDescriptor (TX12 19).2.2.1 = some .boolean := by decide +kernel
theorem pd12_20 : parseFieldDescriptor (TX12 20).2.2.1 = some .int := by decide +kernel
theorem pd12_21 : parseFieldDescriptor (TX12 21).2.2.1 = some .int := by decide +kernel
theorem pd12_22 : parseFieldDescriptor (TX12 22).2.2.1 = some (.array .byte) := by decide +kernel
theorem pd12_23 : parseFieldDescriptor (TX12 23).2.2.1 = some .int := by decide +kernel
theorem pd12_24 : parseFieldDescriptor (TX12 24).2.2.1 = some (.array .int) := by decide +kernel
theorem pd12_25 : parseFieldDescriptor (TX12 25).2.2.1 = some .int := by decide +kernel
theorem pd12_26 : parseFieldDescriptor (TX12 26).2.2.1 = some (.array .int) := by decide +kernel
theorem pd12_27 : parseFieldDescriptor (TX12 27).2.2.1 = some .int := by decide +kernel
theorem pd12_28 : parseFieldDescriptor (TX12 28).2.2.1 = some (.array .byte) := by decide +kernel
theorem pd12_29 : parseFieldDescriptor (TX12 29).2.2.1 = some .long := by decide +kernel
theorem pd12_30 : parseFieldDescriptor (TX12 30).2.2.1 = some .int := by decide +kernel
theorem pd12_31 : parseFieldDescriptor (TX12 31).2.2.1 = some .int := by decide +kernel
theorem pd12_32 : parseFieldDescriptor (TX12 32).2.2.1 = some .int := by decide +kernel
theorem pd12_33 : parseFieldDescriptor (TX12 33).2.2.1 = some (.array .int) := by decide +kernel
theorem pd12_34 : parseFieldDescriptor (TX12 34).2.2.1 = some (.array .int) := by decide +kernel
theorem pd12_35 : parseFieldDescriptor (TX12 35).2.2.1 = some (.array .int) := by decide +kernel
theorem pd12_36 : parseFieldDescriptor (TX12 36).2.2.1 = some (.array .boolean) := by decide +kernel
theorem pd12_37 : parseFieldDescriptor (TX12 37).2.2.1 = some (.array .boolean) := by decide +kernel
theorem pd12_38 : parseFieldDescriptor (TX12 38).2.2.1 = some .int := by decide +kernel
theorem pd12_39 : parseFieldDescriptor (TX12 39).2.2.1 = some .int := by decide +kernel
theorem pd12_40 : parseFieldDescriptor (TX12 40).2.2.1 = some (.array .int) := by decide +kernel
theorem pd12_41 : parseFieldDescriptor (TX12 41).2.2.1 = some (.array .int) := by decide +kernel
theorem pd12_42 : parseFieldDescriptor (TX12 42).2.2.1 = some (.array .int) := by decide +kernel
theorem pd12_43 : parseFieldDescriptor (TX12 43).2.2.1 = some (.array .int) := by decide +kernel
theorem pd12_44 : parseFieldDescriptor (TX12 44).2.2.1 = some (.array .long) := by decide +kernel
theorem pd12_45 : parseFieldDescriptor (TX12 45).2.2.1 = some (.array .long) := by decide +kernel
theorem pd12_46 : parseFieldDescriptor (TX12 46).2.2.1 = some .int := by decide +kernel
theorem pd12_47 : parseFieldDescriptor (TX12 47).2.2.1 = some (.array .int) := by decide +kernel
theorem pd12_48 : parseFieldDescriptor (TX12 48).2.2.1 = some (.array .int) := by decide +kernel
theorem pd12_49 : parseFieldDescriptor (TX12 49).2.2.1 = some .int := by decide +kernel
theorem hd_yX0_init : yX0_init.cls ≠ "java/lang/invoke/MethodHandle" ∧ yX0_init.cls ≠ "java/lang/invoke/VarHandle" ∧ (parseMethodDescriptor yX0_init.desc).map (fun d => d.parameters.length) = some 0 := by decide +kernel
theorem hd_yJ7_copyOf_9075b : yJ7_copyOf_9075b.cls ≠ "java/lang/invoke/MethodHandle" ∧ yJ7_copyOf_9075b.cls ≠ "java/lang/invoke/VarHandle" ∧ (parseMethodDescriptor yJ7_copyOf_9075b.desc).map (fun d => d.parameters.length) = some 2 := by decide +kernel
theorem hd_yX0_put : yX0_put.cls ≠ "java/lang/invoke/MethodHandle" ∧ yX0_put.cls ≠ "java/lang/invoke/VarHandle" ∧ (parseMethodDescriptor yX0_put.desc).map (fun d => d.parameters.length) = some 1 := by decide +kernel
theorem hd_yX0_putAll : yX0_putAll.cls ≠ "java/lang/invoke/MethodHandle" ∧ yX0_putAll.cls ≠ "java/lang/invoke/VarHandle" ∧ (parseMethodDescriptor yX0_putAll.desc).map (fun d => d.parameters.length) = some 2 := by decide +kernel
theorem hd_yX0_number : yX0_number.cls ≠ "java/lang/invoke/MethodHandle" ∧ yX0_number.cls ≠ "java/lang/invoke/VarHandle" ∧ (parseMethodDescriptor yX0_number.desc).map (fun d => d.parameters.length) = some 1 := by decide +kernel
theorem hd_yX0_signed : yX0_signed.cls ≠ "java/lang/invoke/MethodHandle" ∧ yX0_signed.cls ≠ "java/lang/invoke/VarHandle" ∧ (parseMethodDescriptor yX0_signed.desc).map (fun d => d.parameters.length) = some 1 := by decide +kernel
theorem hd_yX0_wide : yX0_wide.cls ≠ "java/lang/invoke/MethodHandle" ∧ yX0_wide.cls ≠ "java/lang/invoke/VarHandle" ∧ (parseMethodDescriptor yX0_wide.desc).map (fun d => d.parameters.length) = some 1 := by decide +kernel
theorem hd_yX1_init : yX1_init.cls ≠ "java/lang/invoke/MethodHandle" ∧ yX1_init.cls ≠ "java/lang/invoke/VarHandle" ∧ (parseMethodDescriptor yX1_init.desc).map (fun d => d.parameters.length) = some 0 := by decide +kernel
theorem hd_yJx4a65c_size_8abf5 : yJx4a65c_size_8abf5.cls ≠ "java/lang/invoke/MethodHandle" ∧ yJx4a65c_size_8abf5.cls ≠ "java/lang/invoke/VarHandle" ∧ (parseMethodDescriptor yJx4a65c_size_8abf5.desc).map (fun d => d.parameters.length) = some 0 := by decide +kernel
theorem hd_yJ3_checkIndex_8e157 : yJ3_checkIndex_8e157.cls ≠ "java/lang/invoke/MethodHandle" ∧ yJ3_checkIndex_8e157.cls ≠ "java/lang/invoke/VarHandle" ∧ (parseMethodDescriptor yJ3_checkIndex_8e157.desc).map (fun d => d.parameters.length) = some 3 := by decide +kernel
theorem hd_yJ15_checkIndex_7cf53 : yJ15_checkIndex_7cf53.cls ≠ "java/lang/invoke/MethodHandle" ∧ yJ15_checkIndex_7cf53.cls ≠ "java/lang/invoke/VarHandle" ∧ (parseMethodDescriptor yJ15_checkIndex_7cf53.desc).map (fun d => d.parameters.length) = some 2 := by decide +kernel
theorem hd_yJx4a65c_elementData_915e3 : yJx4a65c_elementData_915e3.cls ≠ "java/lang/invoke/MethodHandle" ∧ yJx4a65c_elementData_915e3.cls ≠ "java/lang/invoke/VarHandle" ∧ (parseMethodDescriptor yJx4a65c_elementData_915e3.desc).map (fun d => d.parameters.length) = some 1 := by decide +kernel
theorem hd_yJx4a65c_get_915e3 : yJx4a65c_get_915e3.cls ≠ "java/lang/invoke/MethodHandle" ∧ yJx4a65c_get_915e3.cls ≠ "java/lang/invoke/VarHandle" ∧ (parseMethodDescriptor yJx4a65c_get_915e3.desc).map (fun d => d.parameters.length) = some 1 := by decide +kernel
theorem hd_yX1_begin : yX1_begin.cls ≠ "java/lang/invoke/MethodHandle" ∧ yX1_begin.cls ≠ "java/lang/invoke/VarHandle" ∧ (parseMethodDescriptor yX1_begin.desc).map (fun d => d.parameters.length) = some 2 := by decide +kernel
theorem hd_yX1_pop : yX1_pop.cls ≠ "java/lang/invoke/MethodHandle" ∧ yX1_pop.cls ≠ "java/lang/invoke/VarHandle" ∧ (parseMethodDescriptor yX1_pop.desc).map (fun d => d.parameters.length) = some 1 := by decide +kernel
theorem hd_yX1_closes : yX1_closes.cls ≠ "java/lang/invoke/MethodHandle" ∧ yX1_closes.cls ≠ "java/lang/invoke/VarHandle" ∧ (parseMethodDescriptor yX1_closes.desc).map (fun d => d.parameters.length) = some 0 := by decide +kernel
theorem hd_yX1_turn : yX1_turn.cls ≠ "java/lang/invoke/MethodHandle" ∧ yX1_turn.cls ≠ "java/lang/invoke/VarHandle" ∧ (parseMethodDescriptor yX1_turn.desc).map (fun d => d.parameters.length) = some 2 := by decide +kernel
theorem hd_yX1_lacksElse : yX1_lacksElse.cls ≠ "java/lang/invoke/MethodHandle" ∧ yX1_lacksElse.cls ≠ "java/lang/invoke/VarHandle" ∧ (parseMethodDescriptor yX1_lacksElse.desc).map (fun d => d.parameters.length) = some 1 := by decide +kernel
theorem hd_yX1_finish : yX1_finish.cls ≠ "java/lang/invoke/MethodHandle" ∧ yX1_finish.cls ≠ "java/lang/invoke/VarHandle" ∧ (parseMethodDescriptor yX1_finish.desc).map (fun d => d.parameters.length) = some 2 := by decide +kernel
theorem hd_yX1_abandon : yX1_abandon.cls ≠ "java/lang/invoke/MethodHandle" ∧ yX1_abandon.cls ≠ "java/lang/invoke/VarHandle" ∧ (parseMethodDescriptor yX1_abandon.desc).map (fun d => d.parameters.length) = some 0 := by decide +kernel
theorem hd_yX1_jump : yX1_jump.cls ≠ "java/lang/invoke/MethodHandle" ∧ yX1_jump.cls ≠ "java/lang/invoke/VarHandle" ∧ (parseMethodDescriptor yX1_jump.desc).map (fun d => d.parameters.length) = some 2 := by decide +kernel
theorem hd_yX9_symbolAt : yX9_symbolAt.cls ≠ "java/lang/invoke/MethodHandle" ∧ yX9_symbolAt.cls ≠ "java/lang/invoke/VarHandle" ∧ (parseMethodDescriptor yX9_symbolAt.desc).map (fun d => d.parameters.length) = some 1 := by decide +kernel
theorem hd_yX6_signature : yX6_signature.cls ≠ "java/lang/invoke/MethodHandle" ∧ yX6_signature.cls ≠ "java/lang/invoke/VarHandle" ∧ (parseMethodDescriptor yX6_signature.desc).map (fun d => d.parameters.length) = some 0 := by decide +kernel
theorem hd_yX8_signature : yX8_signature.cls ≠ "java/lang/invoke/MethodHandle" ∧ yX8_signature.cls ≠ "java/lang/invoke/VarHandle" ∧ (parseMethodDescriptor yX8_signature.desc).map (fun d => d.parameters.length) = some 0 := by decide +kernel
theorem hd_yX1_passThrough : yX1_passThrough.cls ≠ "java/lang/invoke/MethodHandle" ∧ yX1_passThrough.cls ≠ "java/lang/invoke/VarHandle" ∧ (parseMethodDescriptor yX1_passThrough.desc).map (fun d => d.parameters.length) = some 1 := by decide +kernel
theorem hd_yX1_wordFits : yX1_wordFits.cls ≠ "java/lang/invoke/MethodHandle" ∧ yX1_wordFits.cls ≠ "java/lang/invoke/VarHandle" ∧ (parseMethodDescriptor yX1_wordFits.desc).map (fun d => d.parameters.length) = some 2 := by decide +kernel
theorem hd_yX1_firstWrong : yX1_firstWrong.cls ≠ "java/lang/invoke/MethodHandle" ∧ yX1_firstWrong.cls ≠ "java/lang/invoke/VarHandle" ∧ (parseMethodDescriptor yX1_firstWrong.desc).map (fun d => d.parameters.length) = some 1 := by decide +kernel
theorem hd_yX1_wrongCode : yX1_wrongCode.cls ≠ "java/lang/invoke/MethodHandle" ∧ yX1_wrongCode.cls ≠ "java/lang/invoke/VarHandle" ∧ (parseMethodDescriptor yX1_wrongCode.desc).map (fun d => d.parameters.length) = some 1 := by decide +kernel
theorem hd_yJxa1e45_init_da8c8 : yJxa1e45_init_da8c8.cls ≠ "java/lang/invoke/MethodHandle" ∧ yJxa1e45_init_da8c8.cls ≠ "java/lang/invoke/VarHandle" ∧ (parseMethodDescriptor yJxa1e45_init_da8c8.desc).map (fun d => d.parameters.length) = some 0 := by decide +kernel
theorem hd_yJxc12de_init_da8c8 : yJxc12de_init_da8c8.cls ≠ "java/lang/invoke/MethodHandle" ∧ yJxc12de_init_da8c8.cls ≠ "java/lang/invoke/VarHandle" ∧ (parseMethodDescriptor yJxc12de_init_da8c8.desc).map (fun d => d.parameters.length) = some 0 := by decide +kernel
theorem hd_yJx4a65c_init_da8c8 : yJx4a65c_init_da8c8.cls ≠ "java/lang/invoke/MethodHandle" ∧ yJx4a65c_init_da8c8.cls ≠ "java/lang/invoke/VarHandle" ∧ (parseMethodDescriptor yJx4a65c_init_da8c8.desc).map (fun d => d.parameters.length) = some 0 := by decide +kernel
theorem hd_yX2_init : yX2_init.cls ≠ "java/lang/invoke/MethodHandle" ∧ yX2_init.cls ≠ "java/lang/invoke/VarHandle" ∧ (parseMethodDescriptor yX2_init.desc).map (fun d => d.parameters.length) = some 0 := by decide +kernel
theorem hd_yJx4a65c_clear_da8c8 : yJx4a65c_clear_da8c8.cls ≠ "java/lang/invoke/MethodHandle" ∧ yJx4a65c_clear_da8c8.cls ≠ "java/lang/invoke/VarHandle" ∧ (parseMethodDescriptor yJx4a65c_clear_da8c8.desc).map (fun d => d.parameters.length) = some 0 := by decide +kernel
theorem hd_yJ8_hugeLength_7cf53 : yJ8_hugeLength_7cf53.cls ≠ "java/lang/invoke/MethodHandle" ∧ yJ8_hugeLength_7cf53.cls ≠ "java/lang/invoke/VarHandle" ∧ (parseMethodDescriptor yJ8_hugeLength_7cf53.desc).map (fun d => d.parameters.length) = some 2 := by decide +kernel
theorem hd_yJ8_newLength_cabcc : yJ8_newLength_cabcc.cls ≠ "java/lang/invoke/MethodHandle" ∧ yJ8_newLength_cabcc.cls ≠ "java/lang/invoke/VarHandle" ∧ (parseMethodDescriptor yJ8_newLength_cabcc.desc).map (fun d => d.parameters.length) = some 3 := by decide +kernel
theorem hd_yJ7_copyOf_6403c : yJ7_copyOf_6403c.cls ≠ "java/lang/invoke/MethodHandle" ∧ yJ7_copyOf_6403c.cls ≠ "java/lang/invoke/VarHandle" ∧ (parseMethodDescriptor yJ7_copyOf_6403c.desc).map (fun d => d.parameters.length) = some 3 := by decide +kernel
theorem hd_yJ7_copyOf_1904c : yJ7_copyOf_1904c.cls ≠ "java/lang/invoke/MethodHandle" ∧ yJ7_copyOf_1904c.cls ≠ "java/lang/invoke/VarHandle" ∧ (parseMethodDescriptor yJ7_copyOf_1904c.desc).map (fun d => d.parameters.length) = some 2 := by decide +kernel
theorem hd_yJx4a65c_grow_92f84 : yJx4a65c_grow_92f84.cls ≠ "java/lang/invoke/MethodHandle" ∧ yJx4a65c_grow_92f84.cls ≠ "java/lang/invoke/VarHandle" ∧ (parseMethodDescriptor yJx4a65c_grow_92f84.desc).map (fun d => d.parameters.length) = some 1 := by decide +kernel
theorem hd_yJx4a65c_grow_d5877 : yJx4a65c_grow_d5877.cls ≠ "java/lang/invoke/MethodHandle" ∧ yJx4a65c_grow_d5877.cls ≠ "java/lang/invoke/VarHandle" ∧ (parseMethodDescriptor yJx4a65c_grow_d5877.desc).map (fun d => d.parameters.length) = some 0 := by decide +kernel
theorem hd_yJx4a65c_add_72be8 : yJx4a65c_add_72be8.cls ≠ "java/lang/invoke/MethodHandle" ∧ yJx4a65c_add_72be8.cls ≠ "java/lang/invoke/VarHandle" ∧ (parseMethodDescriptor yJx4a65c_add_72be8.desc).map (fun d => d.parameters.length) = some 3 := by decide +kernel
theorem hd_yJx4a65c_add_9ea2d : yJx4a65c_add_9ea2d.cls ≠ "java/lang/invoke/MethodHandle" ∧ yJx4a65c_add_9ea2d.cls ≠ "java/lang/invoke/VarHandle" ∧ (parseMethodDescriptor yJx4a65c_add_9ea2d.desc).map (fun d => d.parameters.length) = some 1 := by decide +kernel
theorem hd_yX2_gather : yX2_gather.cls ≠ "java/lang/invoke/MethodHandle" ∧ yX2_gather.cls ≠ "java/lang/invoke/VarHandle" ∧ (parseMethodDescriptor yX2_gather.desc).map (fun d => d.parameters.length) = some 1 := by decide +kernel
theorem hd_yX6_namesKind : yX6_namesKind.cls ≠ "java/lang/invoke/MethodHandle" ∧ yX6_namesKind.cls ≠ "java/lang/invoke/VarHandle" ∧ (parseMethodDescriptor yX6_namesKind.desc).map (fun d => d.parameters.length) = some 2 := by decide +kernel
theorem hd_yX6_numberFits : yX6_numberFits.cls ≠ "java/lang/invoke/MethodHandle" ∧ yX6_numberFits.cls ≠ "java/lang/invoke/VarHandle" ∧ (parseMethodDescriptor yX6_numberFits.desc).map (fun d => d.parameters.length) = some 1 := by decide +kernel
theorem hd_yX2_wrongNumber : yX2_wrongNumber.cls ≠ "java/lang/invoke/MethodHandle" ∧ yX2_wrongNumber.cls ≠ "java/lang/invoke/VarHandle" ∧ (parseMethodDescriptor yX2_wrongNumber.desc).map (fun d => d.parameters.length) = some 0 := by decide +kernel
theorem hd_yX8_target : yX8_target.cls ≠ "java/lang/invoke/MethodHandle" ∧ yX8_target.cls ≠ "java/lang/invoke/VarHandle" ∧ (parseMethodDescriptor yX8_target.desc).map (fun d => d.parameters.length) = some 0 := by decide +kernel
theorem hd_yX6_targetOf : yX6_targetOf.cls ≠ "java/lang/invoke/MethodHandle" ∧ yX6_targetOf.cls ≠ "java/lang/invoke/VarHandle" ∧ (parseMethodDescriptor yX6_targetOf.desc).map (fun d => d.parameters.length) = some 1 := by decide +kernel
theorem hd_yX6_callFits : yX6_callFits.cls ≠ "java/lang/invoke/MethodHandle" ∧ yX6_callFits.cls ≠ "java/lang/invoke/VarHandle" ∧ (parseMethodDescriptor yX6_callFits.desc).map (fun d => d.parameters.length) = some 1 := by decide +kernel
theorem hd_yX2_otherSignature : yX2_otherSignature.cls ≠ "java/lang/invoke/MethodHandle" ∧ yX2_otherSignature.cls ≠ "java/lang/invoke/VarHandle" ∧ (parseMethodDescriptor yX2_otherSignature.desc).map (fun d => d.parameters.length) = some 0 := by decide +kernel
theorem hd_yX2_layOut : yX2_layOut.cls ≠ "java/lang/invoke/MethodHandle" ∧ yX2_layOut.cls ≠ "java/lang/invoke/VarHandle" ∧ (parseMethodDescriptor yX2_layOut.desc).map (fun d => d.parameters.length) = some 0 := by decide +kernel
theorem hd_yJ7_fill_53178 : yJ7_fill_53178.cls ≠ "java/lang/invoke/MethodHandle" ∧ yJ7_fill_53178.cls ≠ "java/lang/invoke/VarHandle" ∧ (parseMethodDescriptor yJ7_fill_53178.desc).map (fun d => d.parameters.length) = some 2 := by decide +kernel
theorem hd_yX2_noteType : yX2_noteType.cls ≠ "java/lang/invoke/MethodHandle" ∧ yX2_noteType.cls ≠ "java/lang/invoke/VarHandle" ∧ (parseMethodDescriptor yX2_noteType.desc).map (fun d => d.parameters.length) = some 1 := by decide +kernel
theorem hd_yX2_noteSlot : yX2_noteSlot.cls ≠ "java/lang/invoke/MethodHandle" ∧ yX2_noteSlot.cls ≠ "java/lang/invoke/VarHandle" ∧ (parseMethodDescriptor yX2_noteSlot.desc).map (fun d => d.parameters.length) = some 1 := by decide +kernel
theorem hd_yX2_noteWord : yX2_noteWord.cls ≠ "java/lang/invoke/MethodHandle" ∧ yX2_noteWord.cls ≠ "java/lang/invoke/VarHandle" ∧ (parseMethodDescriptor yX2_noteWord.desc).map (fun d => d.parameters.length) = some 2 := by decide +kernel
theorem hd_yX2_number : yX2_number.cls ≠ "java/lang/invoke/MethodHandle" ∧ yX2_number.cls ≠ "java/lang/invoke/VarHandle" ∧ (parseMethodDescriptor yX2_number.desc).map (fun d => d.parameters.length) = some 0 := by decide +kernel
theorem hd_yX3_init : yX3_init.cls ≠ "java/lang/invoke/MethodHandle" ∧ yX3_init.cls ≠ "java/lang/invoke/VarHandle" ∧ (parseMethodDescriptor yX3_init.desc).map (fun d => d.parameters.length) = some 0 := by decide +kernel
theorem hd_yJ7_fill_031fb : yJ7_fill_031fb.cls ≠ "java/lang/invoke/MethodHandle" ∧ yJ7_fill_031fb.cls ≠ "java/lang/invoke/VarHandle" ∧ (parseMethodDescriptor yJ7_fill_031fb.desc).map (fun d => d.parameters.length) = some 2 := by decide +kernel
theorem hd_yX3_prepare : yX3_prepare.cls ≠ "java/lang/invoke/MethodHandle" ∧ yX3_prepare.cls ≠ "java/lang/invoke/VarHandle" ∧ (parseMethodDescriptor yX3_prepare.desc).map (fun d => d.parameters.length) = some 1 := by decide +kernel
theorem hd_yX3_push : yX3_push.cls ≠ "java/lang/invoke/MethodHandle" ∧ yX3_push.cls ≠ "java/lang/invoke/VarHandle" ∧ (parseMethodDescriptor yX3_push.desc).map (fun d => d.parameters.length) = some 1 := by decide +kernel
theorem hd_yX3_enter : yX3_enter.cls ≠ "java/lang/invoke/MethodHandle" ∧ yX3_enter.cls ≠ "java/lang/invoke/VarHandle" ∧ (parseMethodDescriptor yX3_enter.desc).map (fun d => d.parameters.length) = some 1 := by decide +kernel
theorem hd_yX3_pop : yX3_pop.cls ≠ "java/lang/invoke/MethodHandle" ∧ yX3_pop.cls ≠ "java/lang/invoke/VarHandle" ∧ (parseMethodDescriptor yX3_pop.desc).map (fun d => d.parameters.length) = some 0 := by decide +kernel
theorem hd_yX3_keep : yX3_keep.cls ≠ "java/lang/invoke/MethodHandle" ∧ yX3_keep.cls ≠ "java/lang/invoke/VarHandle" ∧ (parseMethodDescriptor yX3_keep.desc).map (fun d => d.parameters.length) = some 2 := by decide +kernel
theorem hd_yX3_leave : yX3_leave.cls ≠ "java/lang/invoke/MethodHandle" ∧ yX3_leave.cls ≠ "java/lang/invoke/VarHandle" ∧ (parseMethodDescriptor yX3_leave.desc).map (fun d => d.parameters.length) = some 0 := by decide +kernel
theorem hd_yX3_leaveEnded : yX3_leaveEnded.cls ≠ "java/lang/invoke/MethodHandle" ∧ yX3_leaveEnded.cls ≠ "java/lang/invoke/VarHandle" ∧ (parseMethodDescriptor yX3_leaveEnded.desc).map (fun d => d.parameters.length) = some 0 := by decide +kernel
theorem hd_yX3_divide : yX3_divide.cls ≠ "java/lang/invoke/MethodHandle" ∧ yX3_divide.cls ≠ "java/lang/invoke/VarHandle" ∧ (parseMethodDescriptor yX3_divide.desc).map (fun d => d.parameters.length) = some 3 := by decide +kernel
theorem hd_yJ13_compare_74951 : yJ13_compare_74951.cls ≠ "java/lang/invoke/MethodHandle" ∧ yJ13_compare_74951.cls ≠ "java/lang/invoke/VarHandle" ∧ (parseMethodDescriptor yJ13_compare_74951.desc).map (fun d => d.parameters.length) = some 2 := by decide +kernel
theorem hd_yJ13_compareUnsigned_74951 : yJ13_compareUnsigned_74951.cls ≠ "java/lang/invoke/MethodHandle" ∧ yJ13_compareUnsigned_74951.cls ≠ "java/lang/invoke/VarHandle" ∧ (parseMethodDescriptor yJ13_compareUnsigned_74951.desc).map (fun d => d.parameters.length) = some 2 := by decide +kernel
theorem hd_yX10_reckon : yX10_reckon.cls ≠ "java/lang/invoke/MethodHandle" ∧ yX10_reckon.cls ≠ "java/lang/invoke/VarHandle" ∧ (parseMethodDescriptor yX10_reckon.desc).map (fun d => d.parameters.length) = some 3 := by decide +kernel
theorem hd_yX3_reckon : yX3_reckon.cls ≠ "java/lang/invoke/MethodHandle" ∧ yX3_reckon.cls ≠ "java/lang/invoke/VarHandle" ∧ (parseMethodDescriptor yX3_reckon.desc).map (fun d => d.parameters.length) = some 1 := by decide +kernel
theorem hd_yX11_putBytes : yX11_putBytes.cls ≠ "java/lang/invoke/MethodHandle" ∧ yX11_putBytes.cls ≠ "java/lang/invoke/VarHandle" ∧ (parseMethodDescriptor yX11_putBytes.desc).map (fun d => d.parameters.length) = some 4 := by decide +kernel
theorem hd_yX3_loaded : yX3_loaded.cls ≠ "java/lang/invoke/MethodHandle" ∧ yX3_loaded.cls ≠ "java/lang/invoke/VarHandle" ∧ (parseMethodDescriptor yX3_loaded.desc).map (fun d => d.parameters.length) = some 2 := by decide +kernel
theorem hd_yX3_access : yX3_access.cls ≠ "java/lang/invoke/MethodHandle" ∧ yX3_access.cls ≠ "java/lang/invoke/VarHandle" ∧ (parseMethodDescriptor yX3_access.desc).map (fun d => d.parameters.length) = some 2 := by decide +kernel
theorem hd_yX3_jump : yX3_jump.cls ≠ "java/lang/invoke/MethodHandle" ∧ yX3_jump.cls ≠ "java/lang/invoke/VarHandle" ∧ (parseMethodDescriptor yX3_jump.desc).map (fun d => d.parameters.length) = some 2 := by decide +kernel
theorem hd_yX3_go : yX3_go.cls ≠ "java/lang/invoke/MethodHandle" ∧ yX3_go.cls ≠ "java/lang/invoke/VarHandle" ∧ (parseMethodDescriptor yX3_go.desc).map (fun d => d.parameters.length) = some 2 := by decide +kernel
theorem hd_yX3_enterMeant : yX3_enterMeant.cls ≠ "java/lang/invoke/MethodHandle" ∧ yX3_enterMeant.cls ≠ "java/lang/invoke/VarHandle" ∧ (parseMethodDescriptor yX3_enterMeant.desc).map (fun d => d.parameters.length) = some 1 := by decide +kernel
theorem hd_yX3_enterSlot : yX3_enterSlot.cls ≠ "java/lang/invoke/MethodHandle" ∧ yX3_enterSlot.cls ≠ "java/lang/invoke/VarHandle" ∧ (parseMethodDescriptor yX3_enterSlot.desc).map (fun d => d.parameters.length) = some 1 := by decide +kernel
theorem hd_yX3_select : yX3_select.cls ≠ "java/lang/invoke/MethodHandle" ∧ yX3_select.cls ≠ "java/lang/invoke/VarHandle" ∧ (parseMethodDescriptor yX3_select.desc).map (fun d => d.parameters.length) = some 0 := by decide +kernel
theorem hd_yX8_address : yX8_address.cls ≠ "java/lang/invoke/MethodHandle" ∧ yX8_address.cls ≠ "java/lang/invoke/VarHandle" ∧ (parseMethodDescriptor yX8_address.desc).map (fun d => d.parameters.length) = some 0 := by decide +kernel
theorem hd_yX6_addressOf : yX6_addressOf.cls ≠ "java/lang/invoke/MethodHandle" ∧ yX6_addressOf.cls ≠ "java/lang/invoke/VarHandle" ∧ (parseMethodDescriptor yX6_addressOf.desc).map (fun d => d.parameters.length) = some 1 := by decide +kernel
theorem hd_yX8_slot : yX8_slot.cls ≠ "java/lang/invoke/MethodHandle" ∧ yX8_slot.cls ≠ "java/lang/invoke/VarHandle" ∧ (parseMethodDescriptor yX8_slot.desc).map (fun d => d.parameters.length) = some 0 := by decide +kernel
theorem hd_yX6_slotOf : yX6_slotOf.cls ≠ "java/lang/invoke/MethodHandle" ∧ yX6_slotOf.cls ≠ "java/lang/invoke/VarHandle" ∧ (parseMethodDescriptor yX6_slotOf.desc).map (fun d => d.parameters.length) = some 1 := by decide +kernel
theorem hd_yX3_move : yX3_move.cls ≠ "java/lang/invoke/MethodHandle" ∧ yX3_move.cls ≠ "java/lang/invoke/VarHandle" ∧ (parseMethodDescriptor yX3_move.desc).map (fun d => d.parameters.length) = some 2 := by decide +kernel
theorem hd_yX3_step : yX3_step.cls ≠ "java/lang/invoke/MethodHandle" ∧ yX3_step.cls ≠ "java/lang/invoke/VarHandle" ∧ (parseMethodDescriptor yX3_step.desc).map (fun d => d.parameters.length) = some 0 := by decide +kernel
theorem hd_yX3_perform : yX3_perform.cls ≠ "java/lang/invoke/MethodHandle" ∧ yX3_perform.cls ≠ "java/lang/invoke/VarHandle" ∧ (parseMethodDescriptor yX3_perform.desc).map (fun d => d.parameters.length) = some 4 := by decide +kernel
theorem hd_yX4_init : yX4_init.cls ≠ "java/lang/invoke/MethodHandle" ∧ yX4_init.cls ≠ "java/lang/invoke/VarHandle" ∧ (parseMethodDescriptor yX4_init.desc).map (fun d => d.parameters.length) = some 0 := by decide +kernel
theorem hd_yX4_writeHeader : yX4_writeHeader.cls ≠ "java/lang/invoke/MethodHandle" ∧ yX4_writeHeader.cls ≠ "java/lang/invoke/VarHandle" ∧ (parseMethodDescriptor yX4_writeHeader.desc).map (fun d => d.parameters.length) = some 0 := by decide +kernel
theorem hd_yX4_writeValues : yX4_writeValues.cls ≠ "java/lang/invoke/MethodHandle" ∧ yX4_writeValues.cls ≠ "java/lang/invoke/VarHandle" ∧ (parseMethodDescriptor yX4_writeValues.desc).map (fun d => d.parameters.length) = some 1 := by decide +kernel
theorem hd_yX4_writeSection : yX4_writeSection.cls ≠ "java/lang/invoke/MethodHandle" ∧ yX4_writeSection.cls ≠ "java/lang/invoke/VarHandle" ∧ (parseMethodDescriptor yX4_writeSection.desc).map (fun d => d.parameters.length) = some 1 := by decide +kernel
theorem hd_yX4_writeTypes : yX4_writeTypes.cls ≠ "java/lang/invoke/MethodHandle" ∧ yX4_writeTypes.cls ≠ "java/lang/invoke/VarHandle" ∧ (parseMethodDescriptor yX4_writeTypes.desc).map (fun d => d.parameters.length) = some 1 := by decide +kernel
theorem hd_yX4_writeFunctions : yX4_writeFunctions.cls ≠ "java/lang/invoke/MethodHandle" ∧ yX4_writeFunctions.cls ≠ "java/lang/invoke/VarHandle" ∧ (parseMethodDescriptor yX4_writeFunctions.desc).map (fun d => d.parameters.length) = some 1 := by decide +kernel
theorem hd_yX4_writeTable : yX4_writeTable.cls ≠ "java/lang/invoke/MethodHandle" ∧ yX4_writeTable.cls ≠ "java/lang/invoke/VarHandle" ∧ (parseMethodDescriptor yX4_writeTable.desc).map (fun d => d.parameters.length) = some 1 := by decide +kernel
theorem hd_yJx4a65c_isEmpty_aae02 : yJx4a65c_isEmpty_aae02.cls ≠ "java/lang/invoke/MethodHandle" ∧ yJx4a65c_isEmpty_aae02.cls ≠ "java/lang/invoke/VarHandle" ∧ (parseMethodDescriptor yJx4a65c_isEmpty_aae02.desc).map (fun d => d.parameters.length) = some 0 := by decide +kernel
theorem hd_yX4_writeSlots : yX4_writeSlots.cls ≠ "java/lang/invoke/MethodHandle" ∧ yX4_writeSlots.cls ≠ "java/lang/invoke/VarHandle" ∧ (parseMethodDescriptor yX4_writeSlots.desc).map (fun d => d.parameters.length) = some 1 := by decide +kernel
theorem hd_yX4_writeFirst : yX4_writeFirst.cls ≠ "java/lang/invoke/MethodHandle" ∧ yX4_writeFirst.cls ≠ "java/lang/invoke/VarHandle" ∧ (parseMethodDescriptor yX4_writeFirst.desc).map (fun d => d.parameters.length) = some 2 := by decide +kernel
theorem hd_yX4_writeRest : yX4_writeRest.cls ≠ "java/lang/invoke/MethodHandle" ∧ yX4_writeRest.cls ≠ "java/lang/invoke/VarHandle" ∧ (parseMethodDescriptor yX4_writeRest.desc).map (fun d => d.parameters.length) = some 3 := by decide +kernel
theorem hd_yX4_writeBody : yX4_writeBody.cls ≠ "java/lang/invoke/MethodHandle" ∧ yX4_writeBody.cls ≠ "java/lang/invoke/VarHandle" ∧ (parseMethodDescriptor yX4_writeBody.desc).map (fun d => d.parameters.length) = some 2 := by decide +kernel
theorem hd_yX4_writeCode : yX4_writeCode.cls ≠ "java/lang/invoke/MethodHandle" ∧ yX4_writeCode.cls ≠ "java/lang/invoke/VarHandle" ∧ (parseMethodDescriptor yX4_writeCode.desc).map (fun d => d.parameters.length) = some 1 := by decide +kernel
theorem hd_yX4_writeData : yX4_writeData.cls ≠ "java/lang/invoke/MethodHandle" ∧ yX4_writeData.cls ≠ "java/lang/invoke/VarHandle" ∧ (parseMethodDescriptor yX4_writeData.desc).map (fun d => d.parameters.length) = some 1 := by decide +kernel
theorem hd_yX4_write : yX4_write.cls ≠ "java/lang/invoke/MethodHandle" ∧ yX4_write.cls ≠ "java/lang/invoke/VarHandle" ∧ (parseMethodDescriptor yX4_write.desc).map (fun d => d.parameters.length) = some 1 := by decide +kernel
theorem hd_yX5_init : yX5_init.cls ≠ "java/lang/invoke/MethodHandle" ∧ yX5_init.cls ≠ "java/lang/invoke/VarHandle" ∧ (parseMethodDescriptor yX5_init.desc).map (fun d => d.parameters.length) = some 0 := by decide +kernel
theorem hd_yX5_noteFirst : yX5_noteFirst.cls ≠ "java/lang/invoke/MethodHandle" ∧ yX5_noteFirst.cls ≠ "java/lang/invoke/VarHandle" ∧ (parseMethodDescriptor yX5_noteFirst.desc).map (fun d => d.parameters.length) = some 2 := by decide +kernel
theorem hd_yX8_defines : yX8_defines.cls ≠ "java/lang/invoke/MethodHandle" ∧ yX8_defines.cls ≠ "java/lang/invoke/VarHandle" ∧ (parseMethodDescriptor yX8_defines.desc).map (fun d => d.parameters.length) = some 0 := by decide +kernel
theorem hd_yX5_note : yX5_note.cls ≠ "java/lang/invoke/MethodHandle" ∧ yX5_note.cls ≠ "java/lang/invoke/VarHandle" ∧ (parseMethodDescriptor yX5_note.desc).map (fun d => d.parameters.length) = some 1 := by decide +kernel
theorem hd_yX5_definer : yX5_definer.cls ≠ "java/lang/invoke/MethodHandle" ∧ yX5_definer.cls ≠ "java/lang/invoke/VarHandle" ∧ (parseMethodDescriptor yX5_definer.desc).map (fun d => d.parameters.length) = some 1 := by decide +kernel
theorem hd_yX5_join : yX5_join.cls ≠ "java/lang/invoke/MethodHandle" ∧ yX5_join.cls ≠ "java/lang/invoke/VarHandle" ∧ (parseMethodDescriptor yX5_join.desc).map (fun d => d.parameters.length) = some 1 := by decide +kernel
theorem hd_yX5_doubled : yX5_doubled.cls ≠ "java/lang/invoke/MethodHandle" ∧ yX5_doubled.cls ≠ "java/lang/invoke/VarHandle" ∧ (parseMethodDescriptor yX5_doubled.desc).map (fun d => d.parameters.length) = some 1 := by decide +kernel
theorem hd_yX5_missing : yX5_missing.cls ≠ "java/lang/invoke/MethodHandle" ∧ yX5_missing.cls ≠ "java/lang/invoke/VarHandle" ∧ (parseMethodDescriptor yX5_missing.desc).map (fun d => d.parameters.length) = some 1 := by decide +kernel
theorem hd_yX5_otherKind : yX5_otherKind.cls ≠ "java/lang/invoke/MethodHandle" ∧ yX5_otherKind.cls ≠ "java/lang/invoke/VarHandle" ∧ (parseMethodDescriptor yX5_otherKind.desc).map (fun d => d.parameters.length) = some 1 := by decide +kernel
theorem hd_yX6_init : yX6_init.cls ≠ "java/lang/invoke/MethodHandle" ∧ yX6_init.cls ≠ "java/lang/invoke/VarHandle" ∧ (parseMethodDescriptor yX6_init.desc).map (fun d => d.parameters.length) = some 5 := by decide +kernel
theorem hd_yX6_append : yX6_append.cls ≠ "java/lang/invoke/MethodHandle" ∧ yX6_append.cls ≠ "java/lang/invoke/VarHandle" ∧ (parseMethodDescriptor yX6_append.desc).map (fun d => d.parameters.length) = some 2 := by decide +kernel
theorem hd_yX7_init : yX7_init.cls ≠ "java/lang/invoke/MethodHandle" ∧ yX7_init.cls ≠ "java/lang/invoke/VarHandle" ∧ (parseMethodDescriptor yX7_init.desc).map (fun d => d.parameters.length) = some 2 := by decide +kernel
theorem hd_yX8_init : yX8_init.cls ≠ "java/lang/invoke/MethodHandle" ∧ yX8_init.cls ≠ "java/lang/invoke/VarHandle" ∧ (parseMethodDescriptor yX8_init.desc).map (fun d => d.parameters.length) = some 7 := by decide +kernel
theorem hd_yX9_init : yX9_init.cls ≠ "java/lang/invoke/MethodHandle" ∧ yX9_init.cls ≠ "java/lang/invoke/VarHandle" ∧ (parseMethodDescriptor yX9_init.desc).map (fun d => d.parameters.length) = some 0 := by decide +kernel
theorem hd_yX9_routineAt : yX9_routineAt.cls ≠ "java/lang/invoke/MethodHandle" ∧ yX9_routineAt.cls ≠ "java/lang/invoke/VarHandle" ∧ (parseMethodDescriptor yX9_routineAt.desc).map (fun d => d.parameters.length) = some 1 := by decide +kernel
theorem hd_yX9_segmentAt : yX9_segmentAt.cls ≠ "java/lang/invoke/MethodHandle" ∧ yX9_segmentAt.cls ≠ "java/lang/invoke/VarHandle" ∧ (parseMethodDescriptor yX9_segmentAt.desc).map (fun d => d.parameters.length) = some 1 := by decide +kernel
theorem hd_yX11_init : yX11_init.cls ≠ "java/lang/invoke/MethodHandle" ∧ yX11_init.cls ≠ "java/lang/invoke/VarHandle" ∧ (parseMethodDescriptor yX11_init.desc).map (fun d => d.parameters.length) = some 0 := by decide +kernel
theorem hd_yX11_requireState : yX11_requireState.cls ≠ "java/lang/invoke/MethodHandle" ∧ yX11_requireState.cls ≠ "java/lang/invoke/VarHandle" ∧ (parseMethodDescriptor yX11_requireState.desc).map (fun d => d.parameters.length) = some 1 := by decide +kernel
theorem hd_yX11_requireRoom : yX11_requireRoom.cls ≠ "java/lang/invoke/MethodHandle" ∧ yX11_requireRoom.cls ≠ "java/lang/invoke/VarHandle" ∧ (parseMethodDescriptor yX11_requireRoom.desc).map (fun d => d.parameters.length) = some 2 := by decide +kernel
theorem hd_yX11_object : yX11_object.cls ≠ "java/lang/invoke/MethodHandle" ∧ yX11_object.cls ≠ "java/lang/invoke/VarHandle" ∧ (parseMethodDescriptor yX11_object.desc).map (fun d => d.parameters.length) = some 0 := by decide +kernel
theorem hd_yX11_require : yX11_require.cls ≠ "java/lang/invoke/MethodHandle" ∧ yX11_require.cls ≠ "java/lang/invoke/VarHandle" ∧ (parseMethodDescriptor yX11_require.desc).map (fun d => d.parameters.length) = some 1 := by decide +kernel
theorem hd_yX11_unitAt : yX11_unitAt.cls ≠ "java/lang/invoke/MethodHandle" ∧ yX11_unitAt.cls ≠ "java/lang/invoke/VarHandle" ∧ (parseMethodDescriptor yX11_unitAt.desc).map (fun d => d.parameters.length) = some 1 := by decide +kernel
theorem hd_yX11_requireWithin : yX11_requireWithin.cls ≠ "java/lang/invoke/MethodHandle" ∧ yX11_requireWithin.cls ≠ "java/lang/invoke/VarHandle" ∧ (parseMethodDescriptor yX11_requireWithin.desc).map (fun d => d.parameters.length) = some 2 := by decide +kernel
theorem hd_yX11_function : yX11_function.cls ≠ "java/lang/invoke/MethodHandle" ∧ yX11_function.cls ≠ "java/lang/invoke/VarHandle" ∧ (parseMethodDescriptor yX11_function.desc).map (fun d => d.parameters.length) = some 4 := by decide +kernel
theorem hd_yX11_routineAt : yX11_routineAt.cls ≠ "java/lang/invoke/MethodHandle" ∧ yX11_routineAt.cls ≠ "java/lang/invoke/VarHandle" ∧ (parseMethodDescriptor yX11_routineAt.desc).map (fun d => d.parameters.length) = some 2 := by decide +kernel
theorem hd_yX11_code : yX11_code.cls ≠ "java/lang/invoke/MethodHandle" ∧ yX11_code.cls ≠ "java/lang/invoke/VarHandle" ∧ (parseMethodDescriptor yX11_code.desc).map (fun d => d.parameters.length) = some 4 := by decide +kernel
theorem hd_yX11_segment : yX11_segment.cls ≠ "java/lang/invoke/MethodHandle" ∧ yX11_segment.cls ≠ "java/lang/invoke/VarHandle" ∧ (parseMethodDescriptor yX11_segment.desc).map (fun d => d.parameters.length) = some 3 := by decide +kernel
theorem hd_yX11_fill : yX11_fill.cls ≠ "java/lang/invoke/MethodHandle" ∧ yX11_fill.cls ≠ "java/lang/invoke/VarHandle" ∧ (parseMethodDescriptor yX11_fill.desc).map (fun d => d.parameters.length) = some 4 := by decide +kernel
theorem hd_yX11_largestOffset : yX11_largestOffset.cls ≠ "java/lang/invoke/MethodHandle" ∧ yX11_largestOffset.cls ≠ "java/lang/invoke/VarHandle" ∧ (parseMethodDescriptor yX11_largestOffset.desc).map (fun d => d.parameters.length) = some 3 := by decide +kernel
theorem hd_yX11_symbol : yX11_symbol.cls ≠ "java/lang/invoke/MethodHandle" ∧ yX11_symbol.cls ≠ "java/lang/invoke/VarHandle" ∧ (parseMethodDescriptor yX11_symbol.desc).map (fun d => d.parameters.length) = some 6 := by decide +kernel
theorem hd_yX11_placeOf : yX11_placeOf.cls ≠ "java/lang/invoke/MethodHandle" ∧ yX11_placeOf.cls ≠ "java/lang/invoke/VarHandle" ∧ (parseMethodDescriptor yX11_placeOf.desc).map (fun d => d.parameters.length) = some 1 := by decide +kernel
theorem hd_yX11_link : yX11_link.cls ≠ "java/lang/invoke/MethodHandle" ∧ yX11_link.cls ≠ "java/lang/invoke/VarHandle" ∧ (parseMethodDescriptor yX11_link.desc).map (fun d => d.parameters.length) = some 0 := by decide +kernel
theorem hd_yX11_place : yX11_place.cls ≠ "java/lang/invoke/MethodHandle" ∧ yX11_place.cls ≠ "java/lang/invoke/VarHandle" ∧ (parseMethodDescriptor yX11_place.desc).map (fun d => d.parameters.length) = some 0 := by decide +kernel
theorem hd_yX11_count : yX11_count.cls ≠ "java/lang/invoke/MethodHandle" ∧ yX11_count.cls ≠ "java/lang/invoke/VarHandle" ∧ (parseMethodDescriptor yX11_count.desc).map (fun d => d.parameters.length) = some 1 := by decide +kernel
theorem hd_yX11_byteAt : yX11_byteAt.cls ≠ "java/lang/invoke/MethodHandle" ∧ yX11_byteAt.cls ≠ "java/lang/invoke/VarHandle" ∧ (parseMethodDescriptor yX11_byteAt.desc).map (fun d => d.parameters.length) = some 1 := by decide +kernel
theorem hd_yX11_meant : yX11_meant.cls ≠ "java/lang/invoke/MethodHandle" ∧ yX11_meant.cls ≠ "java/lang/invoke/VarHandle" ∧ (parseMethodDescriptor yX11_meant.desc).map (fun d => d.parameters.length) = some 3 := by decide +kernel
theorem hd_yX11_run : yX11_run.cls ≠ "java/lang/invoke/MethodHandle" ∧ yX11_run.cls ≠ "java/lang/invoke/VarHandle" ∧ (parseMethodDescriptor yX11_run.desc).map (fun d => d.parameters.length) = some 5 := by decide +kernel
theorem hd_yX11_told : yX11_told.cls ≠ "java/lang/invoke/MethodHandle" ∧ yX11_told.cls ≠ "java/lang/invoke/VarHandle" ∧ (parseMethodDescriptor yX11_told.desc).map (fun d => d.parameters.length) = some 1 := by decide +kernel
theorem hd_yX11_memory : yX11_memory.cls ≠ "java/lang/invoke/MethodHandle" ∧ yX11_memory.cls ≠ "java/lang/invoke/VarHandle" ∧ (parseMethodDescriptor yX11_memory.desc).map (fun d => d.parameters.length) = some 1 := by decide +kernel
theorem hd_yX12_init : yX12_init.cls ≠ "java/lang/invoke/MethodHandle" ∧ yX12_init.cls ≠ "java/lang/invoke/VarHandle" ∧ (parseMethodDescriptor yX12_init.desc).map (fun d => d.parameters.length) = some 0 := by decide +kernel
theorem hd_yX12_thrown : yX12_thrown.cls ≠ "java/lang/invoke/MethodHandle" ∧ yX12_thrown.cls ≠ "java/lang/invoke/VarHandle" ∧ (parseMethodDescriptor yX12_thrown.desc).map (fun d => d.parameters.length) = some 0 := by decide +kernel
theorem hd_yX12_isIn : yX12_isIn.cls ≠ "java/lang/invoke/MethodHandle" ∧ yX12_isIn.cls ≠ "java/lang/invoke/VarHandle" ∧ (parseMethodDescriptor yX12_isIn.desc).map (fun d => d.parameters.length) = some 3 := by decide +kernel
theorem hd_yX12_isObject : yX12_isObject.cls ≠ "java/lang/invoke/MethodHandle" ∧ yX12_isObject.cls ≠ "java/lang/invoke/VarHandle" ∧ (parseMethodDescriptor yX12_isObject.desc).map (fun d => d.parameters.length) = some 1 := by decide +kernel
theorem hd_yX12_isFunction : yX12_isFunction.cls ≠ "java/lang/invoke/MethodHandle" ∧ yX12_isFunction.cls ≠ "java/lang/invoke/VarHandle" ∧ (parseMethodDescriptor yX12_isFunction.desc).map (fun d => d.parameters.length) = some 2 := by decide +kernel
theorem hd_yX12_isSegment : yX12_isSegment.cls ≠ "java/lang/invoke/MethodHandle" ∧ yX12_isSegment.cls ≠ "java/lang/invoke/VarHandle" ∧ (parseMethodDescriptor yX12_isSegment.desc).map (fun d => d.parameters.length) = some 2 := by decide +kernel
theorem hd_yX12_object : yX12_object.cls ≠ "java/lang/invoke/MethodHandle" ∧ yX12_object.cls ≠ "java/lang/invoke/VarHandle" ∧ (parseMethodDescriptor yX12_object.desc).map (fun d => d.parameters.length) = some 0 := by decide +kernel
theorem hd_yX12_function : yX12_function.cls ≠ "java/lang/invoke/MethodHandle" ∧ yX12_function.cls ≠ "java/lang/invoke/VarHandle" ∧ (parseMethodDescriptor yX12_function.desc).map (fun d => d.parameters.length) = some 4 := by decide +kernel
theorem hd_yX12_code : yX12_code.cls ≠ "java/lang/invoke/MethodHandle" ∧ yX12_code.cls ≠ "java/lang/invoke/VarHandle" ∧ (parseMethodDescriptor yX12_code.desc).map (fun d => d.parameters.length) = some 4 := by decide +kernel
theorem hd_yX12_segment : yX12_segment.cls ≠ "java/lang/invoke/MethodHandle" ∧ yX12_segment.cls ≠ "java/lang/invoke/VarHandle" ∧ (parseMethodDescriptor yX12_segment.desc).map (fun d => d.parameters.length) = some 3 := by decide +kernel
theorem hd_yX12_fill : yX12_fill.cls ≠ "java/lang/invoke/MethodHandle" ∧ yX12_fill.cls ≠ "java/lang/invoke/VarHandle" ∧ (parseMethodDescriptor yX12_fill.desc).map (fun d => d.parameters.length) = some 4 := by decide +kernel
theorem hd_yX12_symbol : yX12_symbol.cls ≠ "java/lang/invoke/MethodHandle" ∧ yX12_symbol.cls ≠ "java/lang/invoke/VarHandle" ∧ (parseMethodDescriptor yX12_symbol.desc).map (fun d => d.parameters.length) = some 6 := by decide +kernel
theorem hd_yX12_meaning : yX12_meaning.cls ≠ "java/lang/invoke/MethodHandle" ∧ yX12_meaning.cls ≠ "java/lang/invoke/VarHandle" ∧ (parseMethodDescriptor yX12_meaning.desc).map (fun d => d.parameters.length) = some 1 := by decide +kernel
theorem hd_yX12_functionOf : yX12_functionOf.cls ≠ "java/lang/invoke/MethodHandle" ∧ yX12_functionOf.cls ≠ "java/lang/invoke/VarHandle" ∧ (parseMethodDescriptor yX12_functionOf.desc).map (fun d => d.parameters.length) = some 1 := by decide +kernel
theorem hd_yX12_raised : yX12_raised.cls ≠ "java/lang/invoke/MethodHandle" ∧ yX12_raised.cls ≠ "java/lang/invoke/VarHandle" ∧ (parseMethodDescriptor yX12_raised.desc).map (fun d => d.parameters.length) = some 2 := by decide +kernel
theorem hd_yX12_addressOfSegment : yX12_addressOfSegment.cls ≠ "java/lang/invoke/MethodHandle" ∧ yX12_addressOfSegment.cls ≠ "java/lang/invoke/VarHandle" ∧ (parseMethodDescriptor yX12_addressOfSegment.desc).map (fun d => d.parameters.length) = some 1 := by decide +kernel
theorem hd_yX12_addressOf : yX12_addressOf.cls ≠ "java/lang/invoke/MethodHandle" ∧ yX12_addressOf.cls ≠ "java/lang/invoke/VarHandle" ∧ (parseMethodDescriptor yX12_addressOf.desc).map (fun d => d.parameters.length) = some 1 := by decide +kernel
theorem hd_yX12_end : yX12_end.cls ≠ "java/lang/invoke/MethodHandle" ∧ yX12_end.cls ≠ "java/lang/invoke/VarHandle" ∧ (parseMethodDescriptor yX12_end.desc).map (fun d => d.parameters.length) = some 0 := by decide +kernel
theorem hd_yX12_shape : yX12_shape.cls ≠ "java/lang/invoke/MethodHandle" ∧ yX12_shape.cls ≠ "java/lang/invoke/VarHandle" ∧ (parseMethodDescriptor yX12_shape.desc).map (fun d => d.parameters.length) = some 1 := by decide +kernel
theorem hd_yX12_signature : yX12_signature.cls ≠ "java/lang/invoke/MethodHandle" ∧ yX12_signature.cls ≠ "java/lang/invoke/VarHandle" ∧ (parseMethodDescriptor yX12_signature.desc).map (fun d => d.parameters.length) = some 1 := by decide +kernel
theorem hd_yX12_numberOf : yX12_numberOf.cls ≠ "java/lang/invoke/MethodHandle" ∧ yX12_numberOf.cls ≠ "java/lang/invoke/VarHandle" ∧ (parseMethodDescriptor yX12_numberOf.desc).map (fun d => d.parameters.length) = some 1 := by decide +kernel
theorem hd_yX12_isThere : yX12_isThere.cls ≠ "java/lang/invoke/MethodHandle" ∧ yX12_isThere.cls ≠ "java/lang/invoke/VarHandle" ∧ (parseMethodDescriptor yX12_isThere.desc).map (fun d => d.parameters.length) = some 1 := by decide +kernel
theorem hd_yX12_isWordGood : yX12_isWordGood.cls ≠ "java/lang/invoke/MethodHandle" ∧ yX12_isWordGood.cls ≠ "java/lang/invoke/VarHandle" ∧ (parseMethodDescriptor yX12_isWordGood.desc).map (fun d => d.parameters.length) = some 3 := by decide +kernel
theorem hd_yX12_open : yX12_open.cls ≠ "java/lang/invoke/MethodHandle" ∧ yX12_open.cls ≠ "java/lang/invoke/VarHandle" ∧ (parseMethodDescriptor yX12_open.desc).map (fun d => d.parameters.length) = some 2 := by decide +kernel
theorem hd_yX12_pops : yX12_pops.cls ≠ "java/lang/invoke/MethodHandle" ∧ yX12_pops.cls ≠ "java/lang/invoke/VarHandle" ∧ (parseMethodDescriptor yX12_pops.desc).map (fun d => d.parameters.length) = some 1 := by decide +kernel
theorem hd_yX12_closes : yX12_closes.cls ≠ "java/lang/invoke/MethodHandle" ∧ yX12_closes.cls ≠ "java/lang/invoke/VarHandle" ∧ (parseMethodDescriptor yX12_closes.desc).map (fun d => d.parameters.length) = some 0 := by decide +kernel
theorem hd_yX12_dies : yX12_dies.cls ≠ "java/lang/invoke/MethodHandle" ∧ yX12_dies.cls ≠ "java/lang/invoke/VarHandle" ∧ (parseMethodDescriptor yX12_dies.desc).map (fun d => d.parameters.length) = some 0 := by decide +kernel
theorem hd_yX12_popped : yX12_popped.cls ≠ "java/lang/invoke/MethodHandle" ∧ yX12_popped.cls ≠ "java/lang/invoke/VarHandle" ∧ (parseMethodDescriptor yX12_popped.desc).map (fun d => d.parameters.length) = some 3 := by decide +kernel
theorem hd_yX12_pushed : yX12_pushed.cls ≠ "java/lang/invoke/MethodHandle" ∧ yX12_pushed.cls ≠ "java/lang/invoke/VarHandle" ∧ (parseMethodDescriptor yX12_pushed.desc).map (fun d => d.parameters.length) = some 3 := by decide +kernel
theorem hd_yX12_wrongPlace : yX12_wrongPlace.cls ≠ "java/lang/invoke/MethodHandle" ∧ yX12_wrongPlace.cls ≠ "java/lang/invoke/VarHandle" ∧ (parseMethodDescriptor yX12_wrongPlace.desc).map (fun d => d.parameters.length) = some 1 := by decide +kernel
theorem hd_yX12_isStrongDouble : yX12_isStrongDouble.cls ≠ "java/lang/invoke/MethodHandle" ∧ yX12_isStrongDouble.cls ≠ "java/lang/invoke/VarHandle" ∧ (parseMethodDescriptor yX12_isStrongDouble.desc).map (fun d => d.parameters.length) = some 1 := by decide +kernel
theorem hd_yX12_isMissing : yX12_isMissing.cls ≠ "java/lang/invoke/MethodHandle" ∧ yX12_isMissing.cls ≠ "java/lang/invoke/VarHandle" ∧ (parseMethodDescriptor yX12_isMissing.desc).map (fun d => d.parameters.length) = some 1 := by decide +kernel
theorem hd_yX12_isOtherKind : yX12_isOtherKind.cls ≠ "java/lang/invoke/MethodHandle" ∧ yX12_isOtherKind.cls ≠ "java/lang/invoke/VarHandle" ∧ (parseMethodDescriptor yX12_isOtherKind.desc).map (fun d => d.parameters.length) = some 1 := by decide +kernel
theorem hd_yX12_isWrongCall : yX12_isWrongCall.cls ≠ "java/lang/invoke/MethodHandle" ∧ yX12_isWrongCall.cls ≠ "java/lang/invoke/VarHandle" ∧ (parseMethodDescriptor yX12_isWrongCall.desc).map (fun d => d.parameters.length) = some 3 := by decide +kernel
theorem hd_yX12_fails : yX12_fails.cls ≠ "java/lang/invoke/MethodHandle" ∧ yX12_fails.cls ≠ "java/lang/invoke/VarHandle" ∧ (parseMethodDescriptor yX12_fails.desc).map (fun d => d.parameters.length) = some 2 := by decide +kernel
theorem hd_yX12_failsInWords : yX12_failsInWords.cls ≠ "java/lang/invoke/MethodHandle" ∧ yX12_failsInWords.cls ≠ "java/lang/invoke/VarHandle" ∧ (parseMethodDescriptor yX12_failsInWords.desc).map (fun d => d.parameters.length) = some 1 := by decide +kernel
theorem hd_yX12_failsInSymbols : yX12_failsInSymbols.cls ≠ "java/lang/invoke/MethodHandle" ∧ yX12_failsInSymbols.cls ≠ "java/lang/invoke/VarHandle" ∧ (parseMethodDescriptor yX12_failsInSymbols.desc).map (fun d => d.parameters.length) = some 1 := by decide +kernel
theorem hd_yX12_typeOf : yX12_typeOf.cls ≠ "java/lang/invoke/MethodHandle" ∧ yX12_typeOf.cls ≠ "java/lang/invoke/VarHandle" ∧ (parseMethodDescriptor yX12_typeOf.desc).map (fun d => d.parameters.length) = some 1 := by decide +kernel
theorem hd_yX12_slotOf : yX12_slotOf.cls ≠ "java/lang/invoke/MethodHandle" ∧ yX12_slotOf.cls ≠ "java/lang/invoke/VarHandle" ∧ (parseMethodDescriptor yX12_slotOf.desc).map (fun d => d.parameters.length) = some 1 := by decide +kernel
theorem hd_yX12_findSlotsAndTypes : yX12_findSlotsAndTypes.cls ≠ "java/lang/invoke/MethodHandle" ∧ yX12_findSlotsAndTypes.cls ≠ "java/lang/invoke/VarHandle" ∧ (parseMethodDescriptor yX12_findSlotsAndTypes.desc).map (fun d => d.parameters.length) = some 0 := by decide +kernel
theorem hd_yX12_put : yX12_put.cls ≠ "java/lang/invoke/MethodHandle" ∧ yX12_put.cls ≠ "java/lang/invoke/VarHandle" ∧ (parseMethodDescriptor yX12_put.desc).map (fun d => d.parameters.length) = some 1 := by decide +kernel
theorem hd_yX12_begin : yX12_begin.cls ≠ "java/lang/invoke/MethodHandle" ∧ yX12_begin.cls ≠ "java/lang/invoke/VarHandle" ∧ (parseMethodDescriptor yX12_begin.desc).map (fun d => d.parameters.length) = some 1 := by decide +kernel
theorem hd_yX12_unsigned : yX12_unsigned.cls ≠ "java/lang/invoke/MethodHandle" ∧ yX12_unsigned.cls ≠ "java/lang/invoke/VarHandle" ∧ (parseMethodDescriptor yX12_unsigned.desc).map (fun d => d.parameters.length) = some 1 := by decide +kernel
theorem hd_yX12_sized : yX12_sized.cls ≠ "java/lang/invoke/MethodHandle" ∧ yX12_sized.cls ≠ "java/lang/invoke/VarHandle" ∧ (parseMethodDescriptor yX12_sized.desc).map (fun d => d.parameters.length) = some 1 := by decide +kernel
theorem hd_yX12_functionCount : yX12_functionCount.cls ≠ "java/lang/invoke/MethodHandle" ∧ yX12_functionCount.cls ≠ "java/lang/invoke/VarHandle" ∧ (parseMethodDescriptor yX12_functionCount.desc).map (fun d => d.parameters.length) = some 0 := by decide +kernel
theorem hd_yX12_signed : yX12_signed.cls ≠ "java/lang/invoke/MethodHandle" ∧ yX12_signed.cls ≠ "java/lang/invoke/VarHandle" ∧ (parseMethodDescriptor yX12_signed.desc).map (fun d => d.parameters.length) = some 1 := by decide +kernel
theorem hd_yX12_two : yX12_two.cls ≠ "java/lang/invoke/MethodHandle" ∧ yX12_two.cls ≠ "java/lang/invoke/VarHandle" ∧ (parseMethodDescriptor yX12_two.desc).map (fun d => d.parameters.length) = some 2 := by decide +kernel
theorem hd_yX12_wide : yX12_wide.cls ≠ "java/lang/invoke/MethodHandle" ∧ yX12_wide.cls ≠ "java/lang/invoke/VarHandle" ∧ (parseMethodDescriptor yX12_wide.desc).map (fun d => d.parameters.length) = some 1 := by decide +kernel
theorem hd_yX12_writeWord : yX12_writeWord.cls ≠ "java/lang/invoke/MethodHandle" ∧ yX12_writeWord.cls ≠ "java/lang/invoke/VarHandle" ∧ (parseMethodDescriptor yX12_writeWord.desc).map (fun d => d.parameters.length) = some 3 := by decide +kernel
theorem hd_yX12_writeFunction : yX12_writeFunction.cls ≠ "java/lang/invoke/MethodHandle" ∧ yX12_writeFunction.cls ≠ "java/lang/invoke/VarHandle" ∧ (parseMethodDescriptor yX12_writeFunction.desc).map (fun d => d.parameters.length) = some 1 := by decide +kernel
theorem hd_yX12_segmentCount : yX12_segmentCount.cls ≠ "java/lang/invoke/MethodHandle" ∧ yX12_segmentCount.cls ≠ "java/lang/invoke/VarHandle" ∧ (parseMethodDescriptor yX12_segmentCount.desc).map (fun d => d.parameters.length) = some 0 := by decide +kernel
theorem hd_yX12_writeSegment : yX12_writeSegment.cls ≠ "java/lang/invoke/MethodHandle" ∧ yX12_writeSegment.cls ≠ "java/lang/invoke/VarHandle" ∧ (parseMethodDescriptor yX12_writeSegment.desc).map (fun d => d.parameters.length) = some 1 := by decide +kernel
theorem hd_yX12_write : yX12_write.cls ≠ "java/lang/invoke/MethodHandle" ∧ yX12_write.cls ≠ "java/lang/invoke/VarHandle" ∧ (parseMethodDescriptor yX12_write.desc).map (fun d => d.parameters.length) = some 0 := by decide +kernel
theorem hd_yX12_link : yX12_link.cls ≠ "java/lang/invoke/MethodHandle" ∧ yX12_link.cls ≠ "java/lang/invoke/VarHandle" ∧ (parseMethodDescriptor yX12_link.desc).map (fun d => d.parameters.length) = some 0 := by decide +kernel
theorem hd_yX12_place : yX12_place.cls ≠ "java/lang/invoke/MethodHandle" ∧ yX12_place.cls ≠ "java/lang/invoke/VarHandle" ∧ (parseMethodDescriptor yX12_place.desc).map (fun d => d.parameters.length) = some 0 := by decide +kernel
theorem hd_yX12_count : yX12_count.cls ≠ "java/lang/invoke/MethodHandle" ∧ yX12_count.cls ≠ "java/lang/invoke/VarHandle" ∧ (parseMethodDescriptor yX12_count.desc).map (fun d => d.parameters.length) = some 1 := by decide +kernel
theorem hd_yX12_byteAt : yX12_byteAt.cls ≠ "java/lang/invoke/MethodHandle" ∧ yX12_byteAt.cls ≠ "java/lang/invoke/VarHandle" ∧ (parseMethodDescriptor yX12_byteAt.desc).map (fun d => d.parameters.length) = some 1 := by decide +kernel
theorem hd_yX12_meant : yX12_meant.cls ≠ "java/lang/invoke/MethodHandle" ∧ yX12_meant.cls ≠ "java/lang/invoke/VarHandle" ∧ (parseMethodDescriptor yX12_meant.desc).map (fun d => d.parameters.length) = some 3 := by decide +kernel
theorem hd_yX12_behind : yX12_behind.cls ≠ "java/lang/invoke/MethodHandle" ∧ yX12_behind.cls ≠ "java/lang/invoke/VarHandle" ∧ (parseMethodDescriptor yX12_behind.desc).map (fun d => d.parameters.length) = some 3 := by decide +kernel
theorem hd_yX12_pop : yX12_pop.cls ≠ "java/lang/invoke/MethodHandle" ∧ yX12_pop.cls ≠ "java/lang/invoke/VarHandle" ∧ (parseMethodDescriptor yX12_pop.desc).map (fun d => d.parameters.length) = some 0 := by decide +kernel
theorem hd_yX12_push : yX12_push.cls ≠ "java/lang/invoke/MethodHandle" ∧ yX12_push.cls ≠ "java/lang/invoke/VarHandle" ∧ (parseMethodDescriptor yX12_push.desc).map (fun d => d.parameters.length) = some 1 := by decide +kernel
theorem hd_yX12_openBlock : yX12_openBlock.cls ≠ "java/lang/invoke/MethodHandle" ∧ yX12_openBlock.cls ≠ "java/lang/invoke/VarHandle" ∧ (parseMethodDescriptor yX12_openBlock.desc).map (fun d => d.parameters.length) = some 1 := by decide +kernel
theorem hd_yX12_keep : yX12_keep.cls ≠ "java/lang/invoke/MethodHandle" ∧ yX12_keep.cls ≠ "java/lang/invoke/VarHandle" ∧ (parseMethodDescriptor yX12_keep.desc).map (fun d => d.parameters.length) = some 2 := by decide +kernel
theorem hd_yX12_enter : yX12_enter.cls ≠ "java/lang/invoke/MethodHandle" ∧ yX12_enter.cls ≠ "java/lang/invoke/VarHandle" ∧ (parseMethodDescriptor yX12_enter.desc).map (fun d => d.parameters.length) = some 1 := by decide +kernel
theorem hd_yX12_leave : yX12_leave.cls ≠ "java/lang/invoke/MethodHandle" ∧ yX12_leave.cls ≠ "java/lang/invoke/VarHandle" ∧ (parseMethodDescriptor yX12_leave.desc).map (fun d => d.parameters.length) = some 0 := by decide +kernel
theorem hd_yX12_called : yX12_called.cls ≠ "java/lang/invoke/MethodHandle" ∧ yX12_called.cls ≠ "java/lang/invoke/VarHandle" ∧ (parseMethodDescriptor yX12_called.desc).map (fun d => d.parameters.length) = some 1 := by decide +kernel
theorem hd_yX12_isOut : yX12_isOut.cls ≠ "java/lang/invoke/MethodHandle" ∧ yX12_isOut.cls ≠ "java/lang/invoke/VarHandle" ∧ (parseMethodDescriptor yX12_isOut.desc).map (fun d => d.parameters.length) = some 3 := by decide +kernel
theorem hd_yX12_load : yX12_load.cls ≠ "java/lang/invoke/MethodHandle" ∧ yX12_load.cls ≠ "java/lang/invoke/VarHandle" ∧ (parseMethodDescriptor yX12_load.desc).map (fun d => d.parameters.length) = some 2 := by decide +kernel
theorem hd_yX12_branch : yX12_branch.cls ≠ "java/lang/invoke/MethodHandle" ∧ yX12_branch.cls ≠ "java/lang/invoke/VarHandle" ∧ (parseMethodDescriptor yX12_branch.desc).map (fun d => d.parameters.length) = some 2 := by decide +kernel
theorem hd_yX12_worked : yX12_worked.cls ≠ "java/lang/invoke/MethodHandle" ∧ yX12_worked.cls ≠ "java/lang/invoke/VarHandle" ∧ (parseMethodDescriptor yX12_worked.desc).map (fun d => d.parameters.length) = some 3 := by decide +kernel
theorem hd_yX12_isBadQuotient : yX12_isBadQuotient.cls ≠ "java/lang/invoke/MethodHandle" ∧ yX12_isBadQuotient.cls ≠ "java/lang/invoke/VarHandle" ∧ (parseMethodDescriptor yX12_isBadQuotient.desc).map (fun d => d.parameters.length) = some 3 := by decide +kernel
theorem hd_yX12_step : yX12_step.cls ≠ "java/lang/invoke/MethodHandle" ∧ yX12_step.cls ≠ "java/lang/invoke/VarHandle" ∧ (parseMethodDescriptor yX12_step.desc).map (fun d => d.parameters.length) = some 1 := by decide +kernel
theorem hd_yX12_run : yX12_run.cls ≠ "java/lang/invoke/MethodHandle" ∧ yX12_run.cls ≠ "java/lang/invoke/VarHandle" ∧ (parseMethodDescriptor yX12_run.desc).map (fun d => d.parameters.length) = some 5 := by decide +kernel
theorem hd_yX12_told : yX12_told.cls ≠ "java/lang/invoke/MethodHandle" ∧ yX12_told.cls ≠ "java/lang/invoke/VarHandle" ∧ (parseMethodDescriptor yX12_told.desc).map (fun d => d.parameters.length) = some 1 := by decide +kernel
theorem hd_yX12_memory : yX12_memory.cls ≠ "java/lang/invoke/MethodHandle" ∧ yX12_memory.cls ≠ "java/lang/invoke/VarHandle" ∧ (parseMethodDescriptor yX12_memory.desc).map (fun d => d.parameters.length) = some 1 := by decide +kernel
theorem hd_yJ9_max_7cf53 : yJ9_max_7cf53.cls ≠ "java/lang/invoke/MethodHandle" ∧ yJ9_max_7cf53.cls ≠ "java/lang/invoke/VarHandle" ∧ (parseMethodDescriptor yJ9_max_7cf53.desc).map (fun d => d.parameters.length) = some 2 := by decide +kernel
theorem hd_yJ9_min_7cf53 : yJ9_min_7cf53.cls ≠ "java/lang/invoke/MethodHandle" ∧ yJ9_min_7cf53.cls ≠ "java/lang/invoke/VarHandle" ∧ (parseMethodDescriptor yJ9_min_7cf53.desc).map (fun d => d.parameters.length) = some 2 := by decide +kernel
theorem hdF_size : (⟨"java/util/List", "size", "()I"⟩ : MethodName).cls ≠ "java/lang/invoke/MethodHandle" ∧ (⟨"java/util/List", "size", "()I"⟩ : MethodName).cls ≠ "java/lang/invoke/VarHandle" ∧ (parseMethodDescriptor (⟨"java/util/List", "size", "()I"⟩ : MethodName).desc).map (fun d => d.parameters.length) = some 0 := by decide +kernel
theorem hdF_isEmpty : (⟨"java/util/List", "isEmpty", "()Z"⟩ : MethodName).cls ≠ "java/lang/invoke/MethodHandle" ∧ (⟨"java/util/List", "isEmpty", "()Z"⟩ : MethodName).cls ≠ "java/lang/invoke/VarHandle" ∧ (parseMethodDescriptor (⟨"java/util/List", "isEmpty", "()Z"⟩ : MethodName).desc).map (fun d => d.parameters.length) = some 0 := by decide +kernel
theorem hdF_get : (⟨"java/util/List", "get", "(I)Ljava/lang/Object;"⟩ : MethodName).cls ≠ "java/lang/invoke/MethodHandle" ∧ (⟨"java/util/List", "get", "(I)Ljava/lang/Object;"⟩ : MethodName).cls ≠ "java/lang/invoke/VarHandle" ∧ (parseMethodDescriptor (⟨"java/util/List", "get", "(I)Ljava/lang/Object;"⟩ : MethodName).desc).map (fun d => d.parameters.length) = some 1 := by decide +kernel
theorem hdF_add : (⟨"java/util/List", "add", "(Ljava/lang/Object;)Z"⟩ : MethodName).cls ≠ "java/lang/invoke/MethodHandle" ∧ (⟨"java/util/List", "add", "(Ljava/lang/Object;)Z"⟩ : MethodName).cls ≠ "java/lang/invoke/VarHandle" ∧ (parseMethodDescriptor (⟨"java/util/List", "add", "(Ljava/lang/Object;)Z"⟩ : MethodName).desc).map (fun d => d.parameters.length) = some 1 := by decide +kernel
theorem hdF_clear : (⟨"java/util/List", "clear", "()V"⟩ : MethodName).cls ≠ "java/lang/invoke/MethodHandle" ∧ (⟨"java/util/List", "clear", "()V"⟩ : MethodName).cls ≠ "java/lang/invoke/VarHandle" ∧ (parseMethodDescriptor (⟨"java/util/List", "clear", "()V"⟩ : MethodName).desc).map (fun d => d.parameters.length) = some 0 := by decide +kernel
set_option maxRecDepth 10000 in
theorem dvG0 : ∀ j, j < 3 → defaultValue (tyJx4a65c j) = vp_V ((zfl 0).map (fun r => if r.1 = 0 then Value.int 0 else if r.1 = 1 then Value.null else Value.long 0)) j := fun j hj => by
  rcases (show j = 0 ∨ j = 1 ∨ j = 2 by omega) with rfl | rfl | rfl <;> rfl
set_option maxRecDepth 10000 in
theorem dvG1 : ∀ j, j < 2 → defaultValue (tyX0 j) = vp_V ((zfl 1).map (fun r => if r.1 = 0 then Value.int 0 else if r.1 = 1 then Value.null else Value.long 0)) j := fun j hj => by
  rcases (show j = 0 ∨ j = 1 by omega) with rfl | rfl <;> rfl
set_option maxRecDepth 10000 in
theorem dvG2 : ∀ j, j < 7 → defaultValue (tyX1 j) = vp_V ((zfl 2).map (fun r => if r.1 = 0 then Value.int 0 else if r.1 = 1 then Value.null else Value.long 0)) j := fun j hj => by
  rcases (show j = 0 ∨ j = 1 ∨ j = 2 ∨ j = 3 ∨ j = 4 ∨ j = 5 ∨ j = 6 by omega) with rfl | rfl | rfl | rfl | rfl | rfl | rfl <;> rfl
set_option maxRecDepth 10000 in
theorem dvG3 : ∀ j, j < 8 → defaultValue (tyX2 j) = vp_V ((zfl 3).map (fun r => if r.1 = 0 then Value.int 0 else if r.1 = 1 then Value.null else Value.long 0)) j := fun j hj => by
  rcases (show j = 0 ∨ j = 1 ∨ j = 2 ∨ j = 3 ∨ j = 4 ∨ j = 5 ∨ j = 6 ∨ j = 7 by omega) with rfl | rfl | rfl | rfl | rfl | rfl | rfl | rfl <;> rfl
set_option maxRecDepth 10000 in
theorem dvG4 : ∀ j, j < 12 → defaultValue (tyX3 j) = vp_V ((zfl 4).map (fun r => if r.1 = 0 then Value.int 0 else if r.1 = 1 then Value.null else Value.long 0)) j := fun j hj => by
  rcases (show j = 0 ∨ j = 1 ∨ j = 2 ∨ j = 3 ∨ j = 4 ∨ j = 5 ∨ j = 6 ∨ j = 7 ∨ j = 8 ∨ j = 9 ∨ j = 10 ∨ j = 11 by omega) with rfl | rfl | rfl | rfl | rfl | rfl | rfl | rfl | rfl | rfl | rfl | rfl <;> rfl
set_option maxRecDepth 10000 in
theorem dvG5 : ∀ j, j < 3 → defaultValue (tyX4 j) = vp_V ((zfl 5).map (fun r => if r.1 = 0 then Value.int 0 else if r.1 = 1 then Value.null else Value.long 0)) j := fun j hj => by
  rcases (show j = 0 ∨ j = 1 ∨ j = 2 by omega) with rfl | rfl | rfl <;> rfl
set_option maxRecDepth 10000 in
theorem dvG6 : ∀ j, j < 3 → defaultValue (tyX5 j) = vp_V ((zfl 6).map (fun r => if r.1 = 0 then Value.int 0 else if r.1 = 1 then Value.null else Value.long 0)) j := fun j hj => by
  rcases (show j = 0 ∨ j = 1 ∨ j = 2 by omega) with rfl | rfl | rfl <;> rfl
set_option maxRecDepth 10000 in
theorem dvG7 : ∀ j, j < 13 → defaultValue (tyX6 j) = vp_V ((zfl 7).map (fun r => if r.1 = 0 then Value.int 0 else if r.1 = 1 then Value.null else Value.long 0)) j := fun j hj => by
  rcases (show j = 0 ∨ j = 1 ∨ j = 2 ∨ j = 3 ∨ j = 4 ∨ j = 5 ∨ j = 6 ∨ j = 7 ∨ j = 8 ∨ j = 9 ∨ j = 10 ∨ j = 11 ∨ j = 12 by omega) with rfl | rfl | rfl | rfl | rfl | rfl | rfl | rfl | rfl | rfl | rfl | rfl | rfl <;> rfl
set_option maxRecDepth 10000 in
theorem dvG8 : ∀ j, j < 3 → defaultValue (tyX7 j) = vp_V ((zfl 8).map (fun r => if r.1 = 0 then Value.int 0 else if r.1 = 1 then Value.null else Value.long 0)) j := fun j hj => by
  rcases (show j = 0 ∨ j = 1 ∨ j = 2 by omega) with rfl | rfl | rfl <;> rfl
set_option maxRecDepth 10000 in
theorem dvG9 : ∀ j, j < 8 → defaultValue (tyX8 j) = vp_V ((zfl 9).map (fun r => if r.1 = 0 then Value.int 0 else if r.1 = 1 then Value.null else Value.long 0)) j := fun j hj => by
  rcases (show j = 0 ∨ j = 1 ∨ j = 2 ∨ j = 3 ∨ j = 4 ∨ j = 5 ∨ j = 6 ∨ j = 7 by omega) with rfl | rfl | rfl | rfl | rfl | rfl | rfl | rfl <;> rfl
set_option maxRecDepth 10000 in
theorem dvG10 : ∀ j, j < 3 → defaultValue (tyX9 j) = vp_V ((zfl 10).map (fun r => if r.1 = 0 then Value.int 0 else if r.1 = 1 then Value.null else Value.long 0)) j := fun j hj => by
  rcases (show j = 0 ∨ j = 1 ∨ j = 2 by omega) with rfl | rfl | rfl <;> rfl
set_option maxRecDepth 10000 in
theorem dvG11 : ∀ j, j < 8 → defaultValue (tyX11 j) = vp_V ((zfl 11).map (fun r => if r.1 = 0 then Value.int 0 else if r.1 = 1 then Value.null else Value.long 0)) j := fun j hj => by
  rcases (show j = 0 ∨ j = 1 ∨ j = 2 ∨ j = 3 ∨ j = 4 ∨ j = 5 ∨ j = 6 ∨ j = 7 by omega) with rfl | rfl | rfl | rfl | rfl | rfl | rfl | rfl <;> rfl
set_option maxRecDepth 10000 in
theorem dvG12 : ∀ j, j < 50 → defaultValue (tyX12 j) = vp_V ((zfl 12).map (fun r => if r.1 = 0 then Value.int 0 else if r.1 = 1 then Value.null else Value.long 0)) j := fun j hj => by
  rcases (show j = 0 ∨ j = 1 ∨ j = 2 ∨ j = 3 ∨ j = 4 ∨ j = 5 ∨ j = 6 ∨ j = 7 ∨ j = 8 ∨ j = 9 ∨ j = 10 ∨ j = 11 ∨ j = 12 ∨ j = 13 ∨ j = 14 ∨ j = 15 ∨ j = 16 ∨ j = 17 ∨ j = 18 ∨ j = 19 ∨ j = 20 ∨ j = 21 ∨ j = 22 ∨ j = 23 ∨ j = 24 ∨ j = 25 ∨ j = 26 ∨ j = 27 ∨ j = 28 ∨ j = 29 ∨ j = 30 ∨ j = 31 ∨ j = 32 ∨ j = 33 ∨ j = 34 ∨ j = 35 ∨ j = 36 ∨ j = 37 ∨ j = 38 ∨ j = 39 ∨ j = 40 ∨ j = 41 ∨ j = 42 ∨ j = 43 ∨ j = 44 ∨ j = 45 ∨ j = 46 ∨ j = 47 ∨ j = 48 ∨ j = 49 by omega) with rfl | rfl | rfl | rfl | rfl | rfl | rfl | rfl | rfl | rfl | rfl | rfl | rfl | rfl | rfl | rfl | rfl | rfl | rfl | rfl | rfl | rfl | rfl | rfl | rfl | rfl | rfl | rfl | rfl | rfl | rfl | rfl | rfl | rfl | rfl | rfl | rfl | rfl | rfl | rfl | rfl | rfl | rfl | rfl | rfl | rfl | rfl | rfl | rfl | rfl <;> rfl
section ZL
variable {p : Program} {l : Launch} {e : Env} {R : Room} {s : State} {m : MethodId} {args : Array Value} {below : List Frame} {meth : Method} {c : Code} {Q : State → Prop} {N0 : Nat} {D : va_G} {cy : Nat → ClassId} {cc : ByteArray} {nL cells slots : Nat} {Ts : List Cond} {own : String} {S : zS} {lv : List (Nat × Value)} {pc : Nat} {rest : List Value}
theorem r_ldcI (F : CallFix p m c cc nL s args Ts own) {idx : Nat} {v : Int32} (hc : Cond.constant own idx v ∈ Ts) (hdg : decode cc pc = .ok (.ldc idx, 2)) (kk : zW p l e R s m args below meth c Q N0 D cy nL cells slots S lv (pc + 2) (.int v :: rest)) : zW p l e R s m args below meth c Q N0 D cy nL cells slots S lv pc rest := fun H locs ls hP hD hS hl => lv_ldc F.1 F.2.1 F.2.2.2.1 (F.2.2.2.2 _ hc) hdg (kk H locs ls hP hD hS hl)
end ZL
