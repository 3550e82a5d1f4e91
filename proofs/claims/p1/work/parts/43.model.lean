set_option maxRecDepth 100000 in
set_option maxHeartbeats 4000000 in
theorem k_ModelInit {l : Launch} {N0 t0 : Nat} {D : va_G} {cy : Nat → ClassId} {S : zS} {a : Nat} (ha : zA S a 12) (hd : zdf S a) : zMv l yX12_init (zws yX12_init cX12_init 1 none) { frames := 1, cells := 34, slots := 60168, locals := 12 } N0 t0 D cy S [.ref a] (fun S' => zct S a (fun j => if j = 1220 then -1 else zi S j a) ((1248, 14, 2600) :: ((1247, 14, 2600) :: ((1245, 15, 5000) :: ((1244, 15, 328) :: ((1243, 14, 41) :: ((1242, 14, 41) :: ((1241, 14, 41) :: ((1240, 14, 41) :: ((1237, 16, 62) :: ((1236, 16, 62) :: ((1235, 14, 62) :: ((1234, 14, 62) :: ((1233, 14, 62) :: ((1228, 13, 1024) :: ((1226, 14, 60) :: ((1224, 14, 48) :: ((1222, 13, 40000) :: ((1218, 14, 96) :: ((1217, 14, 96) :: ((1216, 14, 96) :: ((1215, 14, 96) :: ((1214, 14, 96) :: ((1213, 13, 1536) :: ((1212, 14, 24) :: ((1211, 14, 24) :: ((1210, 14, 2880) :: ((1209, 14, 2880) :: ((1208, 14, 48) :: ((1207, 14, 48) :: ((1206, 14, 48) :: ((1205, 14, 48) :: ((1204, 14, 6) :: ((1203, 14, 6) :: [(1202, 14, 6)]))))))))))))))))))))))))))))))))) S') 34 60168 := by
  refine zMv.of (cc := cX12_init) (maxL := 1) (ret := none) (by decide) rfl (Nat.le_of_ble_eq_true rfl) ?_
  intro p e s m args below meth c F G hr hlk hnm
  refine r_aload_n F dX12_init_0 rfl ?_
  refine r_objInit F (zin km_X12_1) (zin ki_Object_init) (zin ko_Object_init) dX12_init_1 (by decide) (Nat.le_of_ble_eq_true rfl) ?_
  have yy0 : zct S a (fun j => zi S j a) [] S := zct.nil
  refine r_aload_n F dX12_init_4 rfl ?_
  refine r_bipush (v := 6) F dX12_init_5 (by decide) ?_
  refine r_newI (n' := 6) F G (zin ka_int) (by decide) (by decide) (by decide) (by decide) (by decide) dX12_init_7 (fun q7 hq7 => ?_)
  have ap9 : zA (zNa S q7 14 6) a 12 := zA.na (S := S) (yy0.al ha) hq7
  refine r_putFq (v := some q7) (ci := 12) (k := 2) (id := 1202) (C := RX12) (T := TX12) (N := 50) (ty := (.array .int)) (ty0 := tyX12) F G rfl (by decide) (by decide) rfl (zinL inG12) (zin kf_X12_7) (fun _ h9 => h9) tyX12_ok nmX12 rfl hnm rfl pd12_2 rfl rfl dX12_init_9 ap9 ?_
  have yy1 := zct.arr (k := 14) (n := 6) (id := 1202) yy0 ha hq7 (by decide)
  generalize zPq (zNa S q7 14 6) 1202 a (some q7) = S1 at yy1  ⊢
  refine r_aload_n F dX12_init_12 rfl ?_
  refine r_bipush (v := 6) F dX12_init_13 (by decide) ?_
  refine r_newI (n' := 6) F G (zin ka_int) (by decide) (by decide) (by decide) (by decide) (by decide) dX12_init_15 (fun q15 hq15 => ?_)
  have ap17 : zA (zNa S1 q15 14 6) a 12 := zA.na (S := S1) (yy1.al ha) hq15
  refine r_putFq (v := some q15) (ci := 12) (k := 3) (id := 1203) (C := RX12) (T := TX12) (N := 50) (ty := (.array .int)) (ty0 := tyX12) F G rfl (by decide) (by decide) rfl (zinL inG12) (zin kf_X12_13) (fun _ h9 => h9) tyX12_ok nmX12 rfl hnm rfl pd12_3 rfl rfl dX12_init_17 ap17 ?_
  have yy2 := zct.arr (k := 14) (n := 6) (id := 1203) yy1 ha hq15 (by decide)
  generalize zPq (zNa S1 q15 14 6) 1203 a (some q15) = S2 at yy2  ⊢
  refine r_aload_n F dX12_init_20 rfl ?_
  refine r_bipush (v := 6) F dX12_init_21 (by decide) ?_
  refine r_newI (n' := 6) F G (zin ka_int) (by decide) (by decide) (by decide) (by decide) (by decide) dX12_init_23 (fun q23 hq23 => ?_)
  have ap25 : zA (zNa S2 q23 14 6) a 12 := zA.na (S := S2) (yy2.al ha) hq23
  refine r_putFq (v := some q23) (ci := 12) (k := 4) (id := 1204) (C := RX12) (T := TX12) (N := 50) (ty := (.array .int)) (ty0 := tyX12) F G rfl (by decide) (by decide) rfl (zinL inG12) (zin kf_X12_16) (fun _ h9 => h9) tyX12_ok nmX12 rfl hnm rfl pd12_4 rfl rfl dX12_init_25 ap25 ?_
  have yy3 := zct.arr (k := 14) (n := 6) (id := 1204) yy2 ha hq23 (by decide)
  generalize zPq (zNa S2 q23 14 6) 1204 a (some q23) = S3 at yy3  ⊢
  refine r_aload_n F dX12_init_28 rfl ?_
  refine r_bipush (v := 48) F dX12_init_29 (by decide) ?_
  refine r_newI (n' := 48) F G (zin ka_int) (by decide) (by decide) (by decide) (by decide) (by decide) dX12_init_31 (fun q31 hq31 => ?_)
  have ap33 : zA (zNa S3 q31 14 48) a 12 := zA.na (S := S3) (yy3.al ha) hq31
  refine r_putFq (v := some q31) (ci := 12) (k := 5) (id := 1205) (C := RX12) (T := TX12) (N := 50) (ty := (.array .int)) (ty0 := tyX12) F G rfl (by decide) (by decide) rfl (zinL inG12) (zin kf_X12_19) (fun _ h9 => h9) tyX12_ok nmX12 rfl hnm rfl pd12_5 rfl rfl dX12_init_33 ap33 ?_
  have yy4 := zct.arr (k := 14) (n := 48) (id := 1205) yy3 ha hq31 (by decide)
  generalize zPq (zNa S3 q31 14 48) 1205 a (some q31) = S4 at yy4  ⊢
  refine r_aload_n F dX12_init_36 rfl ?_
  refine r_bipush (v := 48) F dX12_init_37 (by decide) ?_
  refine r_newI (n' := 48) F G (zin ka_int) (by decide) (by decide) (by decide) (by decide) (by decide) dX12_init_39 (fun q39 hq39 => ?_)
  have ap41 : zA (zNa S4 q39 14 48) a 12 := zA.na (S := S4) (yy4.al ha) hq39
  refine r_putFq (v := some q39) (ci := 12) (k := 6) (id := 1206) (C := RX12) (T := TX12) (N := 50) (ty := (.array .int)) (ty0 := tyX12) F G rfl (by decide) (by decide) rfl (zinL inG12) (zin kf_X12_22) (fun _ h9 => h9) tyX12_ok nmX12 rfl hnm rfl pd12_6 rfl rfl dX12_init_41 ap41 ?_
  have yy5 := zct.arr (k := 14) (n := 48) (id := 1206) yy4 ha hq39 (by decide)
  generalize zPq (zNa S4 q39 14 48) 1206 a (some q39) = S5 at yy5  ⊢
  refine r_aload_n F dX12_init_44 rfl ?_
  refine r_bipush (v := 48) F dX12_init_45 (by decide) ?_
  refine r_newI (n' := 48) F G (zin ka_int) (by decide) (by decide) (by decide) (by decide) (by decide) dX12_init_47 (fun q47 hq47 => ?_)
  have ap49 : zA (zNa S5 q47 14 48) a 12 := zA.na (S := S5) (yy5.al ha) hq47
  refine r_putFq (v := some q47) (ci := 12) (k := 7) (id := 1207) (C := RX12) (T := TX12) (N := 50) (ty := (.array .int)) (ty0 := tyX12) F G rfl (by decide) (by decide) rfl (zinL inG12) (zin kf_X12_25) (fun _ h9 => h9) tyX12_ok nmX12 rfl hnm rfl pd12_7 rfl rfl dX12_init_49 ap49 ?_
  have yy6 := zct.arr (k := 14) (n := 48) (id := 1207) yy5 ha hq47 (by decide)
  generalize zPq (zNa S5 q47 14 48) 1207 a (some q47) = S6 at yy6  ⊢
  refine r_aload_n F dX12_init_52 rfl ?_
  refine r_bipush (v := 48) F dX12_init_53 (by decide) ?_
  refine r_newI (n' := 48) F G (zin ka_int) (by decide) (by decide) (by decide) (by decide) (by decide) dX12_init_55 (fun q55 hq55 => ?_)
  have ap57 : zA (zNa S6 q55 14 48) a 12 := zA.na (S := S6) (yy6.al ha) hq55
  refine r_putFq (v := some q55) (ci := 12) (k := 8) (id := 1208) (C := RX12) (T := TX12) (N := 50) (ty := (.array .int)) (ty0 := tyX12) F G rfl (by decide) (by decide) rfl (zinL inG12) (zin kf_X12_28) (fun _ h9 => h9) tyX12_ok nmX12 rfl hnm rfl pd12_8 rfl rfl dX12_init_57 ap57 ?_
  have yy7 := zct.arr (k := 14) (n := 48) (id := 1208) yy6 ha hq55 (by decide)
  generalize zPq (zNa S6 q55 14 48) 1208 a (some q55) = S7 at yy7  ⊢
  refine r_aload_n F dX12_init_60 rfl ?_
  refine r_sipush (v := 2880) F dX12_init_61 (by decide) ?_
  refine r_newI (n' := 2880) F G (zin ka_int) (by decide) (by decide) (by decide) (by decide) (by decide) dX12_init_64 (fun q64 hq64 => ?_)
  have ap66 : zA (zNa S7 q64 14 2880) a 12 := zA.na (S := S7) (yy7.al ha) hq64
  refine r_putFq (v := some q64) (ci := 12) (k := 9) (id := 1209) (C := RX12) (T := TX12) (N := 50) (ty := (.array .int)) (ty0 := tyX12) F G rfl (by decide) (by decide) rfl (zinL inG12) (zin kf_X12_31) (fun _ h9 => h9) tyX12_ok nmX12 rfl hnm rfl pd12_9 rfl rfl dX12_init_66 ap66 ?_
  have yy8 := zct.arr (k := 14) (n := 2880) (id := 1209) yy7 ha hq64 (by decide)
  generalize zPq (zNa S7 q64 14 2880) 1209 a (some q64) = S8 at yy8  ⊢
  refine r_aload_n F dX12_init_69 rfl ?_
  refine r_sipush (v := 2880) F dX12_init_70 (by decide) ?_
  refine r_newI (n' := 2880) F G (zin ka_int) (by decide) (by decide) (by decide) (by decide) (by decide) dX12_init_73 (fun q73 hq73 => ?_)
  have ap75 : zA (zNa S8 q73 14 2880) a 12 := zA.na (S := S8) (yy8.al ha) hq73
  refine r_putFq (v := some q73) (ci := 12) (k := 10) (id := 1210) (C := RX12) (T := TX12) (N := 50) (ty := (.array .int)) (ty0 := tyX12) F G rfl (by decide) (by decide) rfl (zinL inG12) (zin kf_X12_34) (fun _ h9 => h9) tyX12_ok nmX12 rfl hnm rfl pd12_10 rfl rfl dX12_init_75 ap75 ?_
  have yy9 := zct.arr (k := 14) (n := 2880) (id := 1210) yy8 ha hq73 (by decide)
  generalize zPq (zNa S8 q73 14 2880) 1210 a (some q73) = S9 at yy9  ⊢
  refine r_aload_n F dX12_init_78 rfl ?_
  refine r_bipush (v := 24) F dX12_init_79 (by decide) ?_
  refine r_newI (n' := 24) F G (zin ka_int) (by decide) (by decide) (by decide) (by decide) (by decide) dX12_init_81 (fun q81 hq81 => ?_)
  have ap83 : zA (zNa S9 q81 14 24) a 12 := zA.na (S := S9) (yy9.al ha) hq81
  refine r_putFq (v := some q81) (ci := 12) (k := 11) (id := 1211) (C := RX12) (T := TX12) (N := 50) (ty := (.array .int)) (ty0 := tyX12) F G rfl (by decide) (by decide) rfl (zinL inG12) (zin kf_X12_37) (fun _ h9 => h9) tyX12_ok nmX12 rfl hnm rfl pd12_11 rfl rfl dX12_init_83 ap83 ?_
  have yy10 := zct.arr (k := 14) (n := 24) (id := 1211) yy9 ha hq81 (by decide)
  generalize zPq (zNa S9 q81 14 24) 1211 a (some q81) = S10 at yy10  ⊢
  refine r_aload_n F dX12_init_86 rfl ?_
  refine r_bipush (v := 24) F dX12_init_87 (by decide) ?_
  refine r_newI (n' := 24) F G (zin ka_int) (by decide) (by decide) (by decide) (by decide) (by decide) dX12_init_89 (fun q89 hq89 => ?_)
  have ap91 : zA (zNa S10 q89 14 24) a 12 := zA.na (S := S10) (yy10.al ha) hq89
  refine r_putFq (v := some q89) (ci := 12) (k := 12) (id := 1212) (C := RX12) (T := TX12) (N := 50) (ty := (.array .int)) (ty0 := tyX12) F G rfl (by decide) (by decide) rfl (zinL inG12) (zin kf_X12_40) (fun _ h9 => h9) tyX12_ok nmX12 rfl hnm rfl pd12_12 rfl rfl dX12_init_91 ap91 ?_
  have yy11 := zct.arr (k := 14) (n := 24) (id := 1212) yy10 ha hq89 (by decide)
  generalize zPq (zNa S10 q89 14 24) 1212 a (some q89) = S11 at yy11  ⊢
  refine r_aload_n F dX12_init_94 rfl ?_
  refine r_sipush (v := 1536) F dX12_init_95 (by decide) ?_
  refine r_newB (n' := 1536) F G (zin ka_byte) (by decide) (by decide) (by decide) (by decide) (by decide) dX12_init_98 (fun q98 hq98 => ?_)
  have ap100 : zA (zNa S11 q98 13 1536) a 12 := zA.na (S := S11) (yy11.al ha) hq98
  refine r_putFq (v := some q98) (ci := 12) (k := 13) (id := 1213) (C := RX12) (T := TX12) (N := 50) (ty := (.array .byte)) (ty0 := tyX12) F G rfl (by decide) (by decide) rfl (zinL inG12) (zin kf_X12_43) (fun _ h9 => h9) tyX12_ok nmX12 rfl hnm rfl pd12_13 rfl rfl dX12_init_100 ap100 ?_
  have yy12 := zct.arr (k := 13) (n := 1536) (id := 1213) yy11 ha hq98 (by decide)
  generalize zPq (zNa S11 q98 13 1536) 1213 a (some q98) = S12 at yy12  ⊢
  refine r_aload_n F dX12_init_103 rfl ?_
  refine r_bipush (v := 96) F dX12_init_104 (by decide) ?_
  refine r_newI (n' := 96) F G (zin ka_int) (by decide) (by decide) (by decide) (by decide) (by decide) dX12_init_106 (fun q106 hq106 => ?_)
  have ap108 : zA (zNa S12 q106 14 96) a 12 := zA.na (S := S12) (yy12.al ha) hq106
  refine r_putFq (v := some q106) (ci := 12) (k := 14) (id := 1214) (C := RX12) (T := TX12) (N := 50) (ty := (.array .int)) (ty0 := tyX12) F G rfl (by decide) (by decide) rfl (zinL inG12) (zin kf_X12_47) (fun _ h9 => h9) tyX12_ok nmX12 rfl hnm rfl pd12_14 rfl rfl dX12_init_108 ap108 ?_
  have yy13 := zct.arr (k := 14) (n := 96) (id := 1214) yy12 ha hq106 (by decide)
  generalize zPq (zNa S12 q106 14 96) 1214 a (some q106) = S13 at yy13  ⊢
  refine r_aload_n F dX12_init_111 rfl ?_
  refine r_bipush (v := 96) F dX12_init_112 (by decide) ?_
  refine r_newI (n' := 96) F G (zin ka_int) (by decide) (by decide) (by decide) (by decide) (by decide) dX12_init_114 (fun q114 hq114 => ?_)
  have ap116 : zA (zNa S13 q114 14 96) a 12 := zA.na (S := S13) (yy13.al ha) hq114
  refine r_putFq (v := some q114) (ci := 12) (k := 15) (id := 1215) (C := RX12) (T := TX12) (N := 50) (ty := (.array .int)) (ty0 := tyX12) F G rfl (by decide) (by decide) rfl (zinL inG12) (zin kf_X12_50) (fun _ h9 => h9) tyX12_ok nmX12 rfl hnm rfl pd12_15 rfl rfl dX12_init_116 ap116 ?_
  have yy14 := zct.arr (k := 14) (n := 96) (id := 1215) yy13 ha hq114 (by decide)
  generalize zPq (zNa S13 q114 14 96) 1215 a (some q114) = S14 at yy14  ⊢
  refine r_aload_n F dX12_init_119 rfl ?_
  refine r_bipush (v := 96) F dX12_init_120 (by decide) ?_
  refine r_newI (n' := 96) F G (zin ka_int) (by decide) (by decide) (by decide) (by decide) (by decide) dX12_init_122 (fun q122 hq122 => ?_)
  have ap124 : zA (zNa S14 q122 14 96) a 12 := zA.na (S := S14) (yy14.al ha) hq122
  refine r_putFq (v := some q122) (ci := 12) (k := 16) (id := 1216) (C := RX12) (T := TX12) (N := 50) (ty := (.array .int)) (ty0 := tyX12) F G rfl (by decide) (by decide) rfl (zinL inG12) (zin kf_X12_53) (fun _ h9 => h9) tyX12_ok nmX12 rfl hnm rfl pd12_16 rfl rfl dX12_init_124 ap124 ?_
  have yy15 := zct.arr (k := 14) (n := 96) (id := 1216) yy14 ha hq122 (by decide)
  generalize zPq (zNa S14 q122 14 96) 1216 a (some q122) = S15 at yy15  ⊢
  refine r_aload_n F dX12_init_127 rfl ?_
  refine r_bipush (v := 96) F dX12_init_128 (by decide) ?_
  refine r_newI (n' := 96) F G (zin ka_int) (by decide) (by decide) (by decide) (by decide) (by decide) dX12_init_130 (fun q130 hq130 => ?_)
  have ap132 : zA (zNa S15 q130 14 96) a 12 := zA.na (S := S15) (yy15.al ha) hq130
  refine r_putFq (v := some q130) (ci := 12) (k := 17) (id := 1217) (C := RX12) (T := TX12) (N := 50) (ty := (.array .int)) (ty0 := tyX12) F G rfl (by decide) (by decide) rfl (zinL inG12) (zin kf_X12_56) (fun _ h9 => h9) tyX12_ok nmX12 rfl hnm rfl pd12_17 rfl rfl dX12_init_132 ap132 ?_
  have yy16 := zct.arr (k := 14) (n := 96) (id := 1217) yy15 ha hq130 (by decide)
  generalize zPq (zNa S15 q130 14 96) 1217 a (some q130) = S16 at yy16  ⊢
  refine r_aload_n F dX12_init_135 rfl ?_
  refine r_bipush (v := 96) F dX12_init_136 (by decide) ?_
  refine r_newI (n' := 96) F G (zin ka_int) (by decide) (by decide) (by decide) (by decide) (by decide) dX12_init_138 (fun q138 hq138 => ?_)
  have ap140 : zA (zNa S16 q138 14 96) a 12 := zA.na (S := S16) (yy16.al ha) hq138
  refine r_putFq (v := some q138) (ci := 12) (k := 18) (id := 1218) (C := RX12) (T := TX12) (N := 50) (ty := (.array .int)) (ty0 := tyX12) F G rfl (by decide) (by decide) rfl (zinL inG12) (zin kf_X12_59) (fun _ h9 => h9) tyX12_ok nmX12 rfl hnm rfl pd12_18 rfl rfl dX12_init_140 ap140 ?_
  have yy17 := zct.arr (k := 14) (n := 96) (id := 1218) yy16 ha hq138 (by decide)
  generalize zPq (zNa S16 q138 14 96) 1218 a (some q138) = S17 at yy17  ⊢
  refine r_aload_n F dX12_init_143 rfl ?_
  refine r_iconst (v := -1) F dX12_init_144 (by decide) ?_
  refine r_puti (ci := 12) (k := 20) (id := 1220) (C := RX12) (T := TX12) (N := 50) (ty := .int) (ty0 := tyX12) F G rfl (by decide) (by decide) rfl (zinL inG12) (zin kf_X12_62) (fun _ h9 => h9) tyX12_ok nmX12 rfl pd12_20 rfl rfl dX12_init_145 (yy17.al ha) ?_
  have yy18 := zct.pi (id := 1220) (v := -1) yy17
  generalize zPi S17 1220 a (-1) = S18 at yy18  ⊢
  refine r_aload_n F dX12_init_148 rfl ?_
  refine r_ldcI (v := 40000) F (zin kv_X12_66) dX12_init_149 ?_
  refine r_newB (n' := 40000) F G (zin ka_byte) (by decide) (by decide) (by decide) (by decide) (by decide) dX12_init_151 (fun q151 hq151 => ?_)
  have ap153 : zA (zNa S18 q151 13 40000) a 12 := zA.na (S := S18) (yy18.al ha) hq151
  refine r_putFq (v := some q151) (ci := 12) (k := 22) (id := 1222) (C := RX12) (T := TX12) (N := 50) (ty := (.array .byte)) (ty0 := tyX12) F G rfl (by decide) (by decide) rfl (zinL inG12) (zin kf_X12_67) (fun _ h9 => h9) tyX12_ok nmX12 rfl hnm rfl pd12_22 rfl rfl dX12_init_153 ap153 ?_
  have yy19 := zct.arr (k := 13) (n := 40000) (id := 1222) yy18 ha hq151 (by decide)
  generalize zPq (zNa S18 q151 13 40000) 1222 a (some q151) = S19 at yy19  ⊢
  refine r_aload_n F dX12_init_156 rfl ?_
  refine r_bipush (v := 48) F dX12_init_157 (by decide) ?_
  refine r_newI (n' := 48) F G (zin ka_int) (by decide) (by decide) (by decide) (by decide) (by decide) dX12_init_159 (fun q159 hq159 => ?_)
  have ap161 : zA (zNa S19 q159 14 48) a 12 := zA.na (S := S19) (yy19.al ha) hq159
  refine r_putFq (v := some q159) (ci := 12) (k := 24) (id := 1224) (C := RX12) (T := TX12) (N := 50) (ty := (.array .int)) (ty0 := tyX12) F G rfl (by decide) (by decide) rfl (zinL inG12) (zin kf_X12_70) (fun _ h9 => h9) tyX12_ok nmX12 rfl hnm rfl pd12_24 rfl rfl dX12_init_161 ap161 ?_
  have yy20 := zct.arr (k := 14) (n := 48) (id := 1224) yy19 ha hq159 (by decide)
  generalize zPq (zNa S19 q159 14 48) 1224 a (some q159) = S20 at yy20  ⊢
  refine r_aload_n F dX12_init_164 rfl ?_
  refine r_bipush (v := 60) F dX12_init_165 (by decide) ?_
  refine r_newI (n' := 60) F G (zin ka_int) (by decide) (by decide) (by decide) (by decide) (by decide) dX12_init_167 (fun q167 hq167 => ?_)
  have ap169 : zA (zNa S20 q167 14 60) a 12 := zA.na (S := S20) (yy20.al ha) hq167
  refine r_putFq (v := some q167) (ci := 12) (k := 26) (id := 1226) (C := RX12) (T := TX12) (N := 50) (ty := (.array .int)) (ty0 := tyX12) F G rfl (by decide) (by decide) rfl (zinL inG12) (zin kf_X12_73) (fun _ h9 => h9) tyX12_ok nmX12 rfl hnm rfl pd12_26 rfl rfl dX12_init_169 ap169 ?_
  have yy21 := zct.arr (k := 14) (n := 60) (id := 1226) yy20 ha hq167 (by decide)
  generalize zPq (zNa S20 q167 14 60) 1226 a (some q167) = S21 at yy21  ⊢
  refine r_aload_n F dX12_init_172 rfl ?_
  refine r_sipush (v := 1024) F dX12_init_173 (by decide) ?_
  refine r_newB (n' := 1024) F G (zin ka_byte) (by decide) (by decide) (by decide) (by decide) (by decide) dX12_init_176 (fun q176 hq176 => ?_)
  have ap178 : zA (zNa S21 q176 13 1024) a 12 := zA.na (S := S21) (yy21.al ha) hq176
  refine r_putFq (v := some q176) (ci := 12) (k := 28) (id := 1228) (C := RX12) (T := TX12) (N := 50) (ty := (.array .byte)) (ty0 := tyX12) F G rfl (by decide) (by decide) rfl (zinL inG12) (zin kf_X12_76) (fun _ h9 => h9) tyX12_ok nmX12 rfl hnm rfl pd12_28 rfl rfl dX12_init_178 ap178 ?_
  have yy22 := zct.arr (k := 13) (n := 1024) (id := 1228) yy21 ha hq176 (by decide)
  generalize zPq (zNa S21 q176 13 1024) 1228 a (some q176) = S22 at yy22  ⊢
  refine r_aload_n F dX12_init_181 rfl ?_
  refine r_bipush (v := 62) F dX12_init_182 (by decide) ?_
  refine r_newI (n' := 62) F G (zin ka_int) (by decide) (by decide) (by decide) (by decide) (by decide) dX12_init_184 (fun q184 hq184 => ?_)
  have ap186 : zA (zNa S22 q184 14 62) a 12 := zA.na (S := S22) (yy22.al ha) hq184
  refine r_putFq (v := some q184) (ci := 12) (k := 33) (id := 1233) (C := RX12) (T := TX12) (N := 50) (ty := (.array .int)) (ty0 := tyX12) F G rfl (by decide) (by decide) rfl (zinL inG12) (zin kf_X12_79) (fun _ h9 => h9) tyX12_ok nmX12 rfl hnm rfl pd12_33 rfl rfl dX12_init_186 ap186 ?_
  have yy23 := zct.arr (k := 14) (n := 62) (id := 1233) yy22 ha hq184 (by decide)
  generalize zPq (zNa S22 q184 14 62) 1233 a (some q184) = S23 at yy23  ⊢
  refine r_aload_n F dX12_init_189 rfl ?_
  refine r_bipush (v := 62) F dX12_init_190 (by decide) ?_
  refine r_newI (n' := 62) F G (zin ka_int) (by decide) (by decide) (by decide) (by decide) (by decide) dX12_init_192 (fun q192 hq192 => ?_)
  have ap194 : zA (zNa S23 q192 14 62) a 12 := zA.na (S := S23) (yy23.al ha) hq192
  refine r_putFq (v := some q192) (ci := 12) (k := 34) (id := 1234) (C := RX12) (T := TX12) (N := 50) (ty := (.array .int)) (ty0 := tyX12) F G rfl (by decide) (by decide) rfl (zinL inG12) (zin kf_X12_82) (fun _ h9 => h9) tyX12_ok nmX12 rfl hnm rfl pd12_34 rfl rfl dX12_init_194 ap194 ?_
  have yy24 := zct.arr (k := 14) (n := 62) (id := 1234) yy23 ha hq192 (by decide)
  generalize zPq (zNa S23 q192 14 62) 1234 a (some q192) = S24 at yy24  ⊢
  refine r_aload_n F dX12_init_197 rfl ?_
  refine r_bipush (v := 62) F dX12_init_198 (by decide) ?_
  refine r_newI (n' := 62) F G (zin ka_int) (by decide) (by decide) (by decide) (by decide) (by decide) dX12_init_200 (fun q200 hq200 => ?_)
  have ap202 : zA (zNa S24 q200 14 62) a 12 := zA.na (S := S24) (yy24.al ha) hq200
  refine r_putFq (v := some q200) (ci := 12) (k := 35) (id := 1235) (C := RX12) (T := TX12) (N := 50) (ty := (.array .int)) (ty0 := tyX12) F G rfl (by decide) (by decide) rfl (zinL inG12) (zin kf_X12_85) (fun _ h9 => h9) tyX12_ok nmX12 rfl hnm rfl pd12_35 rfl rfl dX12_init_202 ap202 ?_
  have yy25 := zct.arr (k := 14) (n := 62) (id := 1235) yy24 ha hq200 (by decide)
  generalize zPq (zNa S24 q200 14 62) 1235 a (some q200) = S25 at yy25  ⊢
  refine r_aload_n F dX12_init_205 rfl ?_
  refine r_bipush (v := 62) F dX12_init_206 (by decide) ?_
  refine r_newZ (n' := 62) F G (zin ka_boolean) (by decide) (by decide) (by decide) (by decide) (by decide) dX12_init_208 (fun q208 hq208 => ?_)
  have ap210 : zA (zNa S25 q208 16 62) a 12 := zA.na (S := S25) (yy25.al ha) hq208
  refine r_putFq (v := some q208) (ci := 12) (k := 36) (id := 1236) (C := RX12) (T := TX12) (N := 50) (ty := (.array .boolean)) (ty0 := tyX12) F G rfl (by decide) (by decide) rfl (zinL inG12) (zin kf_X12_88) (fun _ h9 => h9) tyX12_ok nmX12 rfl hnm rfl pd12_36 rfl rfl dX12_init_210 ap210 ?_
  have yy26 := zct.arr (k := 16) (n := 62) (id := 1236) yy25 ha hq208 (by decide)
  generalize zPq (zNa S25 q208 16 62) 1236 a (some q208) = S26 at yy26  ⊢
  refine r_aload_n F dX12_init_213 rfl ?_
  refine r_bipush (v := 62) F dX12_init_214 (by decide) ?_
  refine r_newZ (n' := 62) F G (zin ka_boolean) (by decide) (by decide) (by decide) (by decide) (by decide) dX12_init_216 (fun q216 hq216 => ?_)
  have ap218 : zA (zNa S26 q216 16 62) a 12 := zA.na (S := S26) (yy26.al ha) hq216
  refine r_putFq (v := some q216) (ci := 12) (k := 37) (id := 1237) (C := RX12) (T := TX12) (N := 50) (ty := (.array .boolean)) (ty0 := tyX12) F G rfl (by decide) (by decide) rfl (zinL inG12) (zin kf_X12_92) (fun _ h9 => h9) tyX12_ok nmX12 rfl hnm rfl pd12_37 rfl rfl dX12_init_218 ap218 ?_
  have yy27 := zct.arr (k := 16) (n := 62) (id := 1237) yy26 ha hq216 (by decide)
  generalize zPq (zNa S26 q216 16 62) 1237 a (some q216) = S27 at yy27  ⊢
  refine r_aload_n F dX12_init_221 rfl ?_
  refine r_bipush (v := 41) F dX12_init_222 (by decide) ?_
  refine r_newI (n' := 41) F G (zin ka_int) (by decide) (by decide) (by decide) (by decide) (by decide) dX12_init_224 (fun q224 hq224 => ?_)
  have ap226 : zA (zNa S27 q224 14 41) a 12 := zA.na (S := S27) (yy27.al ha) hq224
  refine r_putFq (v := some q224) (ci := 12) (k := 40) (id := 1240) (C := RX12) (T := TX12) (N := 50) (ty := (.array .int)) (ty0 := tyX12) F G rfl (by decide) (by decide) rfl (zinL inG12) (zin kf_X12_95) (fun _ h9 => h9) tyX12_ok nmX12 rfl hnm rfl pd12_40 rfl rfl dX12_init_226 ap226 ?_
  have yy28 := zct.arr (k := 14) (n := 41) (id := 1240) yy27 ha hq224 (by decide)
  generalize zPq (zNa S27 q224 14 41) 1240 a (some q224) = S28 at yy28  ⊢
  refine r_aload_n F dX12_init_229 rfl ?_
  refine r_bipush (v := 41) F dX12_init_230 (by decide) ?_
  refine r_newI (n' := 41) F G (zin ka_int) (by decide) (by decide) (by decide) (by decide) (by decide) dX12_init_232 (fun q232 hq232 => ?_)
  have ap234 : zA (zNa S28 q232 14 41) a 12 := zA.na (S := S28) (yy28.al ha) hq232
  refine r_putFq (v := some q232) (ci := 12) (k := 41) (id := 1241) (C := RX12) (T := TX12) (N := 50) (ty := (.array .int)) (ty0 := tyX12) F G rfl (by decide) (by decide) rfl (zinL inG12) (zin kf_X12_98) (fun _ h9 => h9) tyX12_ok nmX12 rfl hnm rfl pd12_41 rfl rfl dX12_init_234 ap234 ?_
  have yy29 := zct.arr (k := 14) (n := 41) (id := 1241) yy28 ha hq232 (by decide)
  generalize zPq (zNa S28 q232 14 41) 1241 a (some q232) = S29 at yy29  ⊢
  refine r_aload_n F dX12_init_237 rfl ?_
  refine r_bipush (v := 41) F dX12_init_238 (by decide) ?_
  refine r_newI (n' := 41) F G (zin ka_int) (by decide) (by decide) (by decide) (by decide) (by decide) dX12_init_240 (fun q240 hq240 => ?_)
  have ap242 : zA (zNa S29 q240 14 41) a 12 := zA.na (S := S29) (yy29.al ha) hq240
  refine r_putFq (v := some q240) (ci := 12) (k := 42) (id := 1242) (C := RX12) (T := TX12) (N := 50) (ty := (.array .int)) (ty0 := tyX12) F G rfl (by decide) (by decide) rfl (zinL inG12) (zin kf_X12_101) (fun _ h9 => h9) tyX12_ok nmX12 rfl hnm rfl pd12_42 rfl rfl dX12_init_242 ap242 ?_
  have yy30 := zct.arr (k := 14) (n := 41) (id := 1242) yy29 ha hq240 (by decide)
  generalize zPq (zNa S29 q240 14 41) 1242 a (some q240) = S30 at yy30  ⊢
  refine r_aload_n F dX12_init_245 rfl ?_
  refine r_bipush (v := 41) F dX12_init_246 (by decide) ?_
  refine r_newI (n' := 41) F G (zin ka_int) (by decide) (by decide) (by decide) (by decide) (by decide) dX12_init_248 (fun q248 hq248 => ?_)
  have ap250 : zA (zNa S30 q248 14 41) a 12 := zA.na (S := S30) (yy30.al ha) hq248
  refine r_putFq (v := some q248) (ci := 12) (k := 43) (id := 1243) (C := RX12) (T := TX12) (N := 50) (ty := (.array .int)) (ty0 := tyX12) F G rfl (by decide) (by decide) rfl (zinL inG12) (zin kf_X12_104) (fun _ h9 => h9) tyX12_ok nmX12 rfl hnm rfl pd12_43 rfl rfl dX12_init_250 ap250 ?_
  have yy31 := zct.arr (k := 14) (n := 41) (id := 1243) yy30 ha hq248 (by decide)
  generalize zPq (zNa S30 q248 14 41) 1243 a (some q248) = S31 at yy31  ⊢
  refine r_aload_n F dX12_init_253 rfl ?_
  refine r_sipush (v := 328) F dX12_init_254 (by decide) ?_
  refine r_newJ (n' := 328) F G (zin ka_long) (by decide) (by decide) (by decide) (by decide) (by decide) dX12_init_257 (fun q257 hq257 => ?_)
  have ap259 : zA (zNa S31 q257 15 328) a 12 := zA.na (S := S31) (yy31.al ha) hq257
  refine r_putFq (v := some q257) (ci := 12) (k := 44) (id := 1244) (C := RX12) (T := TX12) (N := 50) (ty := (.array .long)) (ty0 := tyX12) F G rfl (by decide) (by decide) rfl (zinL inG12) (zin kf_X12_107) (fun _ h9 => h9) tyX12_ok nmX12 rfl hnm rfl pd12_44 rfl rfl dX12_init_259 ap259 ?_
  have yy32 := zct.arr (k := 15) (n := 328) (id := 1244) yy31 ha hq257 (by decide)
  generalize zPq (zNa S31 q257 15 328) 1244 a (some q257) = S32 at yy32  ⊢
  refine r_aload_n F dX12_init_262 rfl ?_
  refine r_sipush (v := 5000) F dX12_init_263 (by decide) ?_
  refine r_newJ (n' := 5000) F G (zin ka_long) (by decide) (by decide) (by decide) (by decide) (by decide) dX12_init_266 (fun q266 hq266 => ?_)
  have ap268 : zA (zNa S32 q266 15 5000) a 12 := zA.na (S := S32) (yy32.al ha) hq266
  refine r_putFq (v := some q266) (ci := 12) (k := 45) (id := 1245) (C := RX12) (T := TX12) (N := 50) (ty := (.array .long)) (ty0 := tyX12) F G rfl (by decide) (by decide) rfl (zinL inG12) (zin kf_X12_111) (fun _ h9 => h9) tyX12_ok nmX12 rfl hnm rfl pd12_45 rfl rfl dX12_init_268 ap268 ?_
  have yy33 := zct.arr (k := 15) (n := 5000) (id := 1245) yy32 ha hq266 (by decide)
  generalize zPq (zNa S32 q266 15 5000) 1245 a (some q266) = S33 at yy33  ⊢
  refine r_aload_n F dX12_init_271 rfl ?_
  refine r_sipush (v := 2600) F dX12_init_272 (by decide) ?_
  refine r_newI (n' := 2600) F G (zin ka_int) (by decide) (by decide) (by decide) (by decide) (by decide) dX12_init_275 (fun q275 hq275 => ?_)
  have ap277 : zA (zNa S33 q275 14 2600) a 12 := zA.na (S := S33) (yy33.al ha) hq275
  refine r_putFq (v := some q275) (ci := 12) (k := 47) (id := 1247) (C := RX12) (T := TX12) (N := 50) (ty := (.array .int)) (ty0 := tyX12) F G rfl (by decide) (by decide) rfl (zinL inG12) (zin kf_X12_114) (fun _ h9 => h9) tyX12_ok nmX12 rfl hnm rfl pd12_47 rfl rfl dX12_init_277 ap277 ?_
  have yy34 := zct.arr (k := 14) (n := 2600) (id := 1247) yy33 ha hq275 (by decide)
  generalize zPq (zNa S33 q275 14 2600) 1247 a (some q275) = S34 at yy34  ⊢
  refine r_aload_n F dX12_init_280 rfl ?_
  refine r_sipush (v := 2600) F dX12_init_281 (by decide) ?_
  refine r_newI (n' := 2600) F G (zin ka_int) (by decide) (by decide) (by decide) (by decide) (by decide) dX12_init_284 (fun q284 hq284 => ?_)
  have ap286 : zA (zNa S34 q284 14 2600) a 12 := zA.na (S := S34) (yy34.al ha) hq284
  refine r_putFq (v := some q284) (ci := 12) (k := 48) (id := 1248) (C := RX12) (T := TX12) (N := 50) (ty := (.array .int)) (ty0 := tyX12) F G rfl (by decide) (by decide) rfl (zinL inG12) (zin kf_X12_117) (fun _ h9 => h9) tyX12_ok nmX12 rfl hnm rfl pd12_48 rfl rfl dX12_init_286 ap286 ?_
  have yy35 := zct.arr (k := 14) (n := 2600) (id := 1248) yy34 ha hq284 (by decide)
  generalize zPq (zNa S34 q284 14 2600) 1248 a (some q284) = S35 at yy35  ⊢
  exact e_vret F hr hlk (yy35) (by decide) (by decide) dX12_init_289
