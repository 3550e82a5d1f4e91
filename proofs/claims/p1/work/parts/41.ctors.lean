set_option maxRecDepth 100000 in
set_option maxHeartbeats 4000000 in
theorem k_AbsColl {l : Launch} {N0 t0 : Nat} {D : va_G} {cy : Nat → ClassId} {S : zS} (a : Nat) : zMv l yJxa1e45_init_da8c8 (zws yJxa1e45_init_da8c8 cJxa1e45_init_da8c8 1 none) { frames := 1, cells := 0, slots := 0, locals := 12 } N0 t0 D cy S [.ref a] (fun S' => S' = S) 0 0 := by
  refine zMv.of (cc := cJxa1e45_init_da8c8) (maxL := 1) (ret := none) (by decide) rfl (Nat.le_of_ble_eq_true rfl) ?_
  intro p e s m args below meth c F G hr hlk hnm
  refine r_aload_n F dJxa1e45_init_da8c8_0 rfl ?_
  refine r_objInit F (zin km_Jxa1e45_1) (zin ki_Object_init) (zin ko_Object_init) dJxa1e45_init_da8c8_1 (by decide) (Nat.le_of_ble_eq_true rfl) ?_
  exact e_vret F hr hlk rfl (by decide) (by decide) dJxa1e45_init_da8c8_4
set_option maxRecDepth 100000 in
set_option maxHeartbeats 4000000 in
theorem k_AbsList {l : Launch} {N0 t0 : Nat} {D : va_G} {cy : Nat → ClassId} {S : zS} {a : Nat} (ha : zA S a 0) : zMv l yJxc12de_init_da8c8 (zws yJxc12de_init_da8c8 cJxc12de_init_da8c8 1 none) { frames := 2, cells := 0, slots := 0, locals := 32 } N0 t0 D cy S [.ref a] (fun S' => S' = zPi S 0 a 0) 0 0 := by
  refine zMv.of (cc := cJxc12de_init_da8c8) (maxL := 1) (ret := none) (by decide) rfl (Nat.le_of_ble_eq_true rfl) ?_
  intro p e s m args below meth c F G hr hlk hnm
  refine r_aload_n F dJxc12de_init_da8c8_0 rfl ?_
  refine c_Iv F G (k_AbsColl a) (cwI 0 F.2.2.2.2 (zgI ko_Jxa1e45_init_da8c8) rfl rfl rfl (F.2.2.2.2 _ (zin kn_Jxa1e45)) (F.2.2.2.2 _ (zin km_Jxc12de_1)) (F.2.2.2.2 _ (zin ki_Jxa1e45_init_da8c8)) rfl hd_yJxa1e45_init_da8c8 ⟨Nat.le_of_ble_eq_true rfl, Nat.le_of_ble_eq_true rfl⟩) rfl rfl (Nat.le_of_ble_eq_true rfl) dJxc12de_init_da8c8_1 ⟨Nat.le_of_ble_eq_true rfl, Nat.le_of_ble_eq_true rfl⟩ (fun S1 h1 => ?_)
  subst h1
  refine r_aload_n F dJxc12de_init_da8c8_4 rfl ?_
  refine r_iconst (v := 0) F dJxc12de_init_da8c8_5 (by decide) ?_
  refine r_puti (ci := 0) (k := 0) (id := 0) (C := RJx4a65c) (T := TJx4a65c) (N := 3) (ty := .int) (ty0 := tyJx4a65c) F G rfl (by decide) (by decide) rfl (zinL inG0) (zin kf_Jxc12de_7) (fun _ h9 => h9) tyJx4a65c_ok nmJx4a65c rfl pd0_0 rfl rfl dJxc12de_init_da8c8_6 (by assumption) ?_
  exact e_vret F hr hlk rfl (by decide) (by decide) dJxc12de_init_da8c8_9
set_option maxRecDepth 100000 in
set_option maxHeartbeats 4000000 in
theorem k_ListInit {l : Launch} {N0 t0 : Nat} {D : va_G} {cy : Nat → ClassId} {S : zS} {a : Nat} (ha : zA S a 0) : zMv l yJx4a65c_init_da8c8 (zws yJx4a65c_init_da8c8 cJx4a65c_init_da8c8 1 none) { frames := 3, cells := 0, slots := 0, locals := 52 } N0 t0 D cy S [.ref a] (fun S' => S' = zPq (zPi S 0 a 0) 1 a (some t0)) 0 0 := by
  refine zMv.of (cc := cJx4a65c_init_da8c8) (maxL := 1) (ret := none) (by decide) rfl (Nat.le_of_ble_eq_true rfl) ?_
  intro p e s m args below meth c F G hr hlk hnm
  refine r_aload_n F dJx4a65c_init_da8c8_0 rfl ?_
  refine c_Iv F G (k_AbsList ha) (cwI 0 F.2.2.2.2 (zgI ko_Jxc12de_init_da8c8) rfl rfl rfl (F.2.2.2.2 _ (zin kn_Jxc12de)) (F.2.2.2.2 _ (zin km_Jx4a65c_1)) (F.2.2.2.2 _ (zin ki_Jxc12de_init_da8c8)) rfl hd_yJxc12de_init_da8c8 ⟨Nat.le_of_ble_eq_true rfl, Nat.le_of_ble_eq_true rfl⟩) rfl rfl (Nat.le_of_ble_eq_true rfl) dJx4a65c_init_da8c8_1 ⟨Nat.le_of_ble_eq_true rfl, Nat.le_of_ble_eq_true rfl⟩ (fun S1 h1 => ?_)
  subst h1
  have ha1 : zA (zPi S 0 a 0) a 0 := ha
  refine r_aload_n F dJx4a65c_init_da8c8_4 rfl ?_
  refine r_gets F G (zin kf_Jx4a65c_39) dJx4a65c_init_da8c8_5 ?_
  refine r_putq (v := some t0) (ci := 0) (k := 1) (id := 1) (C := RJx4a65c) (T := TJx4a65c) (N := 3) (ty := (.array (.object "java/lang/Object"))) (ty0 := tyJx4a65c) F G rfl (by decide) (by decide) rfl (zinL inG0) (zin kf_Jx4a65c_9) (fun _ h9 => h9) tyJx4a65c_ok nmJx4a65c rfl pd0_1 rfl rfl dJx4a65c_init_da8c8_8 (by assumption) ?_
  exact e_vret F hr hlk rfl (by decide) (by decide) dJx4a65c_init_da8c8_11
set_option maxRecDepth 100000 in
set_option maxHeartbeats 4000000 in
theorem k_ListSize {l : Launch} {N0 t0 : Nat} {D : va_G} {cy : Nat → ClassId} {S : zS} {a : Nat} (ha : zA S a 0) : zMi l yJx4a65c_size_8abf5 (zws yJx4a65c_size_8abf5 cJx4a65c_size_8abf5 1 (some .int)) { frames := 0, cells := 0, slots := 0, locals := 0 } N0 t0 D cy S [.ref a] (fun r S' => r = zi S 2 a ∧ S' = S) 0 0 := by
  refine zMi.of (cc := cJx4a65c_size_8abf5) (maxL := 1) (ret := (some .int)) (by decide) rfl (Nat.le_of_ble_eq_true rfl) ?_
  intro p e s m args below meth c F G hr hlk hnm
  refine r_aload_n F dJx4a65c_size_8abf5_0 rfl ?_
  refine r_geti (ci := 0) (k := 2) (id := 2) (C := RJx4a65c) (T := TJx4a65c) (N := 3) F G rfl (by decide) (by decide) rfl (zinL inG0) (zin kf_Jx4a65c_48) (fun _ h9 => h9) dJx4a65c_size_8abf5_1 (by assumption) ?_
  exact e_iret F hr hlk ⟨rfl, rfl⟩ (by decide) (by decide) dJx4a65c_size_8abf5_4
set_option maxRecDepth 100000 in
set_option maxHeartbeats 4000000 in
theorem k_ListIsEmpty {l : Launch} {N0 t0 : Nat} {D : va_G} {cy : Nat → ClassId} {S : zS} {a : Nat} (ha : zA S a 0) : zMi l yJx4a65c_isEmpty_aae02 (zws yJx4a65c_isEmpty_aae02 cJx4a65c_isEmpty_aae02 1 (some .boolean)) { frames := 0, cells := 0, slots := 0, locals := 0 } N0 t0 D cy S [.ref a] (fun r S' => r = (if zi S 2 a = 0 then 1 else 0) ∧ S' = S) 0 0 := by
  refine zMi.of (cc := cJx4a65c_isEmpty_aae02) (maxL := 1) (ret := (some .boolean)) (by decide) rfl (Nat.le_of_ble_eq_true rfl) ?_
  intro p e s m args below meth c F G hr hlk hnm
  refine r_aload_n F dJx4a65c_isEmpty_aae02_0 rfl ?_
  refine r_geti (ci := 0) (k := 2) (id := 2) (C := RJx4a65c) (T := TJx4a65c) (N := 3) F G rfl (by decide) (by decide) rfl (zinL inG0) (zin kf_Jx4a65c_48) (fun _ h9 => h9) dJx4a65c_isEmpty_aae02_1 (by assumption) ?_
  refine r_if_ne (tgt := 11) F dJx4a65c_isEmpty_aae02_4 (by decide) (fun c4 => ?_) (fun c4 => ?_)
  · refine r_iconst (v := 0) F dJx4a65c_isEmpty_aae02_11 (by decide) ?_
    exact e_zret F hr rfl hlk ⟨by first | rw [if_neg c4] | rw [if_pos c4], rfl⟩ (by decide) (by decide) dJx4a65c_isEmpty_aae02_12
  · refine r_iconst (v := 1) F dJx4a65c_isEmpty_aae02_7 (by decide) ?_
    refine r_goto (tgt := 12) F dJx4a65c_isEmpty_aae02_8 (by decide) ?_
    exact e_zret F hr rfl hlk ⟨by first | rw [if_neg c4] | rw [if_pos c4], rfl⟩ (by decide) (by decide) dJx4a65c_isEmpty_aae02_12
set_option maxRecDepth 100000 in
set_option maxHeartbeats 4000000 in
theorem k_BytesInit {l : Launch} {N0 t0 : Nat} {D : va_G} {cy : Nat → ClassId} {S : zS} {a : Nat} (ha : zA S a 1) (hd : zdf S a) : zMv l yX0_init (zws yX0_init cX0_init 1 none) { frames := 1, cells := 1, slots := 128, locals := 12 } N0 t0 D cy S [.ref a] (fun S' => zct S a (fun j => zi S j a) [(100, 13, 128)] S') 1 128 := by
  refine zMv.of (cc := cX0_init) (maxL := 1) (ret := none) (by decide) rfl (Nat.le_of_ble_eq_true rfl) ?_
  intro p e s m args below meth c F G hr hlk hnm
  refine r_aload_n F dX0_init_0 rfl ?_
  refine r_objInit F (zin km_X0_1) (zin ki_Object_init) (zin ko_Object_init) dX0_init_1 (by decide) (Nat.le_of_ble_eq_true rfl) ?_
  have yy0 : zct S a (fun j => zi S j a) [] S := zct.nil
  refine r_aload_n F dX0_init_4 rfl ?_
  refine r_sipush (v := 128) F dX0_init_5 (by decide) ?_
  refine r_newB (n' := 128) F G (zin ka_byte) (by decide) (by decide) (by decide) (by decide) (by decide) dX0_init_8 (fun q8 hq8 => ?_)
  have ap10 : zA (zNa S q8 13 128) a 1 := zA.na (S := S) (yy0.al ha) hq8
  refine r_putq (v := some q8) (ci := 1) (k := 0) (id := 100) (C := RX0) (T := TX0) (N := 2) (ty := (.array .byte)) (ty0 := tyX0) F G rfl (by decide) (by decide) rfl (zinL inG1) (zin kf_X0_7) (fun _ h9 => h9) tyX0_ok nmX0 rfl pd1_0 rfl rfl dX0_init_10 ap10 ?_
  have yy1 := zct.arr (k := 13) (n := 128) (id := 100) yy0 ha hq8 (by decide)
  generalize zPq (zNa S q8 13 128) 100 a (some q8) = S1 at yy1  ⊢
  exact e_vret F hr hlk (yy1) (by decide) (by decide) dX0_init_13
set_option maxRecDepth 100000 in
set_option maxHeartbeats 4000000 in
theorem k_NamesInit {l : Launch} {N0 t0 : Nat} {D : va_G} {cy : Nat → ClassId} {S : zS} {a : Nat} (ha : zA S a 6) (hd : zdf S a) : zMv l yX5_init (zws yX5_init cX5_init 1 none) { frames := 1, cells := 3, slots := 93, locals := 12 } N0 t0 D cy S [.ref a] (fun S' => zct S a (fun j => zi S j a) ((602, 18, 31) :: ((601, 18, 31) :: [(600, 18, 31)])) S') 3 93 := by
  refine zMv.of (cc := cX5_init) (maxL := 1) (ret := none) (by decide) rfl (Nat.le_of_ble_eq_true rfl) ?_
  intro p e s m args below meth c F G hr hlk hnm
  refine r_aload_n F dX5_init_0 rfl ?_
  refine r_objInit F (zin km_X5_3) (zin ki_Object_init) (zin ko_Object_init) dX5_init_1 (by decide) (Nat.le_of_ble_eq_true rfl) ?_
  have yy0 : zct S a (fun j => zi S j a) [] S := zct.nil
  refine r_aload_n F dX5_init_4 rfl ?_
  refine r_bipush (v := 31) F dX5_init_5 (by decide) ?_
  refine r_newS (n' := 31) F G (zin kc_X5_9) (by decide) (by decide) (by decide) (by decide) (by decide) dX5_init_7 (fun q7 hq7 => ?_)
  have ap10 : zA (zNa S q7 18 31) a 6 := zA.na (S := S) (yy0.al ha) hq7
  refine r_putFq (v := some q7) (ci := 6) (k := 0) (id := 600) (C := RX5) (T := TX5) (N := 3) (ty := (.array (.object "ObjectLinker$Symbol"))) (ty0 := tyX5) F G rfl (by decide) (by decide) rfl (zinL inG6) (zin kf_X5_11) (fun _ h9 => h9) tyX5_ok nmX5 rfl hnm rfl pd6_0 rfl rfl dX5_init_10 ap10 ?_
  have yy1 := zct.arr (k := 18) (n := 31) (id := 600) yy0 ha hq7 (by decide)
  generalize zPq (zNa S q7 18 31) 600 a (some q7) = S1 at yy1  ⊢
  refine r_aload_n F dX5_init_13 rfl ?_
  refine r_bipush (v := 31) F dX5_init_14 (by decide) ?_
  refine r_newS (n' := 31) F G (zin kc_X5_9) (by decide) (by decide) (by decide) (by decide) (by decide) dX5_init_16 (fun q16 hq16 => ?_)
  have ap19 : zA (zNa S1 q16 18 31) a 6 := zA.na (S := S1) (yy1.al ha) hq16
  refine r_putFq (v := some q16) (ci := 6) (k := 1) (id := 601) (C := RX5) (T := TX5) (N := 3) (ty := (.array (.object "ObjectLinker$Symbol"))) (ty0 := tyX5) F G rfl (by decide) (by decide) rfl (zinL inG6) (zin kf_X5_17) (fun _ h9 => h9) tyX5_ok nmX5 rfl hnm rfl pd6_1 rfl rfl dX5_init_19 ap19 ?_
  have yy2 := zct.arr (k := 18) (n := 31) (id := 601) yy1 ha hq16 (by decide)
  generalize zPq (zNa S1 q16 18 31) 601 a (some q16) = S2 at yy2  ⊢
  refine r_aload_n F dX5_init_22 rfl ?_
  refine r_bipush (v := 31) F dX5_init_23 (by decide) ?_
  refine r_newS (n' := 31) F G (zin kc_X5_9) (by decide) (by decide) (by decide) (by decide) (by decide) dX5_init_25 (fun q25 hq25 => ?_)
  have ap28 : zA (zNa S2 q25 18 31) a 6 := zA.na (S := S2) (yy2.al ha) hq25
  refine r_putFq (v := some q25) (ci := 6) (k := 2) (id := 602) (C := RX5) (T := TX5) (N := 3) (ty := (.array (.object "ObjectLinker$Symbol"))) (ty0 := tyX5) F G rfl (by decide) (by decide) rfl (zinL inG6) (zin kf_X5_20) (fun _ h9 => h9) tyX5_ok nmX5 rfl hnm rfl pd6_2 rfl rfl dX5_init_28 ap28 ?_
  have yy3 := zct.arr (k := 18) (n := 31) (id := 602) yy2 ha hq25 (by decide)
  generalize zPq (zNa S2 q25 18 31) 602 a (some q25) = S3 at yy3  ⊢
  exact e_vret F hr hlk (yy3) (by decide) (by decide) dX5_init_31
set_option maxRecDepth 100000 in
set_option maxHeartbeats 4000000 in
theorem k_CheckInit {l : Launch} {N0 t0 : Nat} {D : va_G} {cy : Nat → ClassId} {S : zS} {a : Nat} (ha : zA S a 2) (hd : zdf S a) : zMv l yX1_init (zws yX1_init cX1_init 1 none) { frames := 1, cells := 5, slots := 305, locals := 12 } N0 t0 D cy S [.ref a] (fun S' => zct S a (fun j => zi S j a) ((204, 16, 61) :: ((203, 14, 61) :: ((202, 14, 61) :: ((201, 14, 61) :: [(200, 14, 61)])))) S') 5 305 := by
  refine zMv.of (cc := cX1_init) (maxL := 1) (ret := none) (by decide) rfl (Nat.le_of_ble_eq_true rfl) ?_
  intro p e s m args below meth c F G hr hlk hnm
  refine r_aload_n F dX1_init_0 rfl ?_
  refine r_objInit F (zin km_X1_3) (zin ki_Object_init) (zin ko_Object_init) dX1_init_1 (by decide) (Nat.le_of_ble_eq_true rfl) ?_
  have yy0 : zct S a (fun j => zi S j a) [] S := zct.nil
  refine r_aload_n F dX1_init_4 rfl ?_
  refine r_bipush (v := 61) F dX1_init_5 (by decide) ?_
  refine r_newI (n' := 61) F G (zin ka_int) (by decide) (by decide) (by decide) (by decide) (by decide) dX1_init_7 (fun q7 hq7 => ?_)
  have ap9 : zA (zNa S q7 14 61) a 2 := zA.na (S := S) (yy0.al ha) hq7
  refine r_putFq (v := some q7) (ci := 2) (k := 0) (id := 200) (C := RX1) (T := TX1) (N := 7) (ty := (.array .int)) (ty0 := tyX1) F G rfl (by decide) (by decide) rfl (zinL inG2) (zin kf_X1_9) (fun _ h9 => h9) tyX1_ok nmX1 rfl hnm rfl pd2_0 rfl rfl dX1_init_9 ap9 ?_
  have yy1 := zct.arr (k := 14) (n := 61) (id := 200) yy0 ha hq7 (by decide)
  generalize zPq (zNa S q7 14 61) 200 a (some q7) = S1 at yy1  ⊢
  refine r_aload_n F dX1_init_12 rfl ?_
  refine r_bipush (v := 61) F dX1_init_13 (by decide) ?_
  refine r_newI (n' := 61) F G (zin ka_int) (by decide) (by decide) (by decide) (by decide) (by decide) dX1_init_15 (fun q15 hq15 => ?_)
  have ap17 : zA (zNa S1 q15 14 61) a 2 := zA.na (S := S1) (yy1.al ha) hq15
  refine r_putFq (v := some q15) (ci := 2) (k := 1) (id := 201) (C := RX1) (T := TX1) (N := 7) (ty := (.array .int)) (ty0 := tyX1) F G rfl (by decide) (by decide) rfl (zinL inG2) (zin kf_X1_15) (fun _ h9 => h9) tyX1_ok nmX1 rfl hnm rfl pd2_1 rfl rfl dX1_init_17 ap17 ?_
  have yy2 := zct.arr (k := 14) (n := 61) (id := 201) yy1 ha hq15 (by decide)
  generalize zPq (zNa S1 q15 14 61) 201 a (some q15) = S2 at yy2  ⊢
  refine r_aload_n F dX1_init_20 rfl ?_
  refine r_bipush (v := 61) F dX1_init_21 (by decide) ?_
  refine r_newI (n' := 61) F G (zin ka_int) (by decide) (by decide) (by decide) (by decide) (by decide) dX1_init_23 (fun q23 hq23 => ?_)
  have ap25 : zA (zNa S2 q23 14 61) a 2 := zA.na (S := S2) (yy2.al ha) hq23
  refine r_putFq (v := some q23) (ci := 2) (k := 2) (id := 202) (C := RX1) (T := TX1) (N := 7) (ty := (.array .int)) (ty0 := tyX1) F G rfl (by decide) (by decide) rfl (zinL inG2) (zin kf_X1_18) (fun _ h9 => h9) tyX1_ok nmX1 rfl hnm rfl pd2_2 rfl rfl dX1_init_25 ap25 ?_
  have yy3 := zct.arr (k := 14) (n := 61) (id := 202) yy2 ha hq23 (by decide)
  generalize zPq (zNa S2 q23 14 61) 202 a (some q23) = S3 at yy3  ⊢
  refine r_aload_n F dX1_init_28 rfl ?_
  refine r_bipush (v := 61) F dX1_init_29 (by decide) ?_
  refine r_newI (n' := 61) F G (zin ka_int) (by decide) (by decide) (by decide) (by decide) (by decide) dX1_init_31 (fun q31 hq31 => ?_)
  have ap33 : zA (zNa S3 q31 14 61) a 2 := zA.na (S := S3) (yy3.al ha) hq31
  refine r_putFq (v := some q31) (ci := 2) (k := 3) (id := 203) (C := RX1) (T := TX1) (N := 7) (ty := (.array .int)) (ty0 := tyX1) F G rfl (by decide) (by decide) rfl (zinL inG2) (zin kf_X1_21) (fun _ h9 => h9) tyX1_ok nmX1 rfl hnm rfl pd2_3 rfl rfl dX1_init_33 ap33 ?_
  have yy4 := zct.arr (k := 14) (n := 61) (id := 203) yy3 ha hq31 (by decide)
  generalize zPq (zNa S3 q31 14 61) 203 a (some q31) = S4 at yy4  ⊢
  refine r_aload_n F dX1_init_36 rfl ?_
  refine r_bipush (v := 61) F dX1_init_37 (by decide) ?_
  refine r_newZ (n' := 61) F G (zin ka_boolean) (by decide) (by decide) (by decide) (by decide) (by decide) dX1_init_39 (fun q39 hq39 => ?_)
  have ap41 : zA (zNa S4 q39 16 61) a 2 := zA.na (S := S4) (yy4.al ha) hq39
  refine r_putFq (v := some q39) (ci := 2) (k := 4) (id := 204) (C := RX1) (T := TX1) (N := 7) (ty := (.array .boolean)) (ty0 := tyX1) F G rfl (by decide) (by decide) rfl (zinL inG2) (zin kf_X1_24) (fun _ h9 => h9) tyX1_ok nmX1 rfl hnm rfl pd2_4 rfl rfl dX1_init_41 ap41 ?_
  have yy5 := zct.arr (k := 16) (n := 61) (id := 204) yy4 ha hq39 (by decide)
  generalize zPq (zNa S4 q39 16 61) 204 a (some q39) = S5 at yy5  ⊢
  exact e_vret F hr hlk (yy5) (by decide) (by decide) dX1_init_44
set_option maxRecDepth 100000 in
set_option maxHeartbeats 4000000 in
theorem k_ImageInit {l : Launch} {N0 t0 : Nat} {D : va_G} {cy : Nat → ClassId} {S : zS} {a : Nat} (ha : zA S a 3) (hd : zdf S a) : zMv l yX2_init (zws yX2_init cX2_init 1 none) { frames := 4, cells := 6, slots := 32, locals := 72 } N0 t0 D cy S [.ref a] (fun S' => zct S a (fun j => zi S j a) ((305, 14, 10) :: ((304, 14, 10) :: ((303, 0, 0) :: ((302, 0, 0) :: ((301, 0, 0) :: [(300, 0, 0)]))))) S') 6 32 := by
  refine zMv.of (cc := cX2_init) (maxL := 1) (ret := none) (by decide) rfl (Nat.le_of_ble_eq_true rfl) ?_
  intro p e s m args below meth c F G hr hlk hnm
  refine r_aload_n F dX2_init_0 rfl ?_
  refine r_objInit F (zin km_X2_3) (zin ki_Object_init) (zin ko_Object_init) dX2_init_1 (by decide) (Nat.le_of_ble_eq_true rfl) ?_
  have yy0 : zct S a (fun j => zi S j a) [] S := zct.nil
  refine r_aload_n F dX2_init_4 rfl ?_
  refine r_new (ci := 0) (C := RJx4a65c) (T := TJx4a65c) (N := 3) (ty0 := tyJx4a65c) F G rfl (by decide) (zinL inG0) tyJx4a65c_ok dvG0 (zin kc_X2_9) (zin kb_Jx4a65c) (zin kn_Jx4a65c) (by decide) (by decide) dX2_init_5 (fun q5 hq5 => ?_)
  refine r_dup F dX2_init_8 rfl ?_
  refine c_Iv F G (k_ListInit (S := (zNo S q5 0)) (a := q5) zA.noq) (cwI 0 F.2.2.2.2 (zgI ko_Jx4a65c_init_da8c8) rfl rfl rfl (F.2.2.2.2 _ (zin kn_Jx4a65c)) (F.2.2.2.2 _ (zin km_X2_11)) (F.2.2.2.2 _ (zin ki_Jx4a65c_init_da8c8)) rfl hd_yJx4a65c_init_da8c8 ⟨Nat.le_of_ble_eq_true rfl, Nat.le_of_ble_eq_true rfl⟩) rfl rfl (Nat.le_of_ble_eq_true rfl) dX2_init_9 ⟨Nat.le_of_ble_eq_true rfl, Nat.le_of_ble_eq_true rfl⟩ (fun T1 hc9 => ?_)
  have hf9 : zfr (zNo S q5 0) T1 (fun b => b = q5) := by rw [hc9]; exact zfr.pq (zfr.pi zfr.rf (fun _ => rfl)) (fun _ => rfl)
  have ap9 : zA T1 a 3 := hf9.al (zA.no (S := S) (yy0.al ha) hq5)
  refine r_putFq (v := some q5) (ci := 3) (k := 0) (id := 300) (C := RX2) (T := TX2) (N := 8) (ty := (.object "java/util/List")) (ty0 := tyX2) F G rfl (by decide) (by decide) rfl (zinL inG3) (zin kf_X2_12) (fun _ h9 => h9) tyX2_ok nmX2 rfl hnm rfl pd3_0 rfl rfl dX2_init_12 ap9 ?_
  have yy1 := zct.obj (n := 0) (id := 300) yy0 ha hq5 (by decide) hf9 (by decide)
  generalize zPq T1 300 a (some q5) = S1 at yy1  ⊢
  refine r_aload_n F dX2_init_15 rfl ?_
  refine r_new (ci := 0) (C := RJx4a65c) (T := TJx4a65c) (N := 3) (ty0 := tyJx4a65c) F G rfl (by decide) (zinL inG0) tyJx4a65c_ok dvG0 (zin kc_X2_9) (zin kb_Jx4a65c) (zin kn_Jx4a65c) (by decide) (by decide) dX2_init_16 (fun q16 hq16 => ?_)
  refine r_dup F dX2_init_19 rfl ?_
  refine c_Iv F G (k_ListInit (S := (zNo S1 q16 0)) (a := q16) zA.noq) (cwI 0 F.2.2.2.2 (zgI ko_Jx4a65c_init_da8c8) rfl rfl rfl (F.2.2.2.2 _ (zin kn_Jx4a65c)) (F.2.2.2.2 _ (zin km_X2_11)) (F.2.2.2.2 _ (zin ki_Jx4a65c_init_da8c8)) rfl hd_yJx4a65c_init_da8c8 ⟨Nat.le_of_ble_eq_true rfl, Nat.le_of_ble_eq_true rfl⟩) rfl rfl (Nat.le_of_ble_eq_true rfl) dX2_init_20 ⟨Nat.le_of_ble_eq_true rfl, Nat.le_of_ble_eq_true rfl⟩ (fun T2 hc20 => ?_)
  have hf20 : zfr (zNo S1 q16 0) T2 (fun b => b = q16) := by rw [hc20]; exact zfr.pq (zfr.pi zfr.rf (fun _ => rfl)) (fun _ => rfl)
  have ap20 : zA T2 a 3 := hf20.al (zA.no (S := S1) (yy1.al ha) hq16)
  refine r_putFq (v := some q16) (ci := 3) (k := 1) (id := 301) (C := RX2) (T := TX2) (N := 8) (ty := (.object "java/util/List")) (ty0 := tyX2) F G rfl (by decide) (by decide) rfl (zinL inG3) (zin kf_X2_18) (fun _ h9 => h9) tyX2_ok nmX2 rfl hnm rfl pd3_1 rfl rfl dX2_init_23 ap20 ?_
  have yy2 := zct.obj (n := 0) (id := 301) yy1 ha hq16 (by decide) hf20 (by decide)
  generalize zPq T2 301 a (some q16) = S2 at yy2  ⊢
  refine r_aload_n F dX2_init_26 rfl ?_
  refine r_new (ci := 0) (C := RJx4a65c) (T := TJx4a65c) (N := 3) (ty0 := tyJx4a65c) F G rfl (by decide) (zinL inG0) tyJx4a65c_ok dvG0 (zin kc_X2_9) (zin kb_Jx4a65c) (zin kn_Jx4a65c) (by decide) (by decide) dX2_init_27 (fun q27 hq27 => ?_)
  refine r_dup F dX2_init_30 rfl ?_
  refine c_Iv F G (k_ListInit (S := (zNo S2 q27 0)) (a := q27) zA.noq) (cwI 0 F.2.2.2.2 (zgI ko_Jx4a65c_init_da8c8) rfl rfl rfl (F.2.2.2.2 _ (zin kn_Jx4a65c)) (F.2.2.2.2 _ (zin km_X2_11)) (F.2.2.2.2 _ (zin ki_Jx4a65c_init_da8c8)) rfl hd_yJx4a65c_init_da8c8 ⟨Nat.le_of_ble_eq_true rfl, Nat.le_of_ble_eq_true rfl⟩) rfl rfl (Nat.le_of_ble_eq_true rfl) dX2_init_31 ⟨Nat.le_of_ble_eq_true rfl, Nat.le_of_ble_eq_true rfl⟩ (fun T3 hc31 => ?_)
  have hf31 : zfr (zNo S2 q27 0) T3 (fun b => b = q27) := by rw [hc31]; exact zfr.pq (zfr.pi zfr.rf (fun _ => rfl)) (fun _ => rfl)
  have ap31 : zA T3 a 3 := hf31.al (zA.no (S := S2) (yy2.al ha) hq27)
  refine r_putFq (v := some q27) (ci := 3) (k := 2) (id := 302) (C := RX2) (T := TX2) (N := 8) (ty := (.object "java/util/List")) (ty0 := tyX2) F G rfl (by decide) (by decide) rfl (zinL inG3) (zin kf_X2_21) (fun _ h9 => h9) tyX2_ok nmX2 rfl hnm rfl pd3_2 rfl rfl dX2_init_34 ap31 ?_
  have yy3 := zct.obj (n := 0) (id := 302) yy2 ha hq27 (by decide) hf31 (by decide)
  generalize zPq T3 302 a (some q27) = S3 at yy3  ⊢
  refine r_aload_n F dX2_init_37 rfl ?_
  refine r_new (ci := 0) (C := RJx4a65c) (T := TJx4a65c) (N := 3) (ty0 := tyJx4a65c) F G rfl (by decide) (zinL inG0) tyJx4a65c_ok dvG0 (zin kc_X2_9) (zin kb_Jx4a65c) (zin kn_Jx4a65c) (by decide) (by decide) dX2_init_38 (fun q38 hq38 => ?_)
  refine r_dup F dX2_init_41 rfl ?_
  refine c_Iv F G (k_ListInit (S := (zNo S3 q38 0)) (a := q38) zA.noq) (cwI 0 F.2.2.2.2 (zgI ko_Jx4a65c_init_da8c8) rfl rfl rfl (F.2.2.2.2 _ (zin kn_Jx4a65c)) (F.2.2.2.2 _ (zin km_X2_11)) (F.2.2.2.2 _ (zin ki_Jx4a65c_init_da8c8)) rfl hd_yJx4a65c_init_da8c8 ⟨Nat.le_of_ble_eq_true rfl, Nat.le_of_ble_eq_true rfl⟩) rfl rfl (Nat.le_of_ble_eq_true rfl) dX2_init_42 ⟨Nat.le_of_ble_eq_true rfl, Nat.le_of_ble_eq_true rfl⟩ (fun T4 hc42 => ?_)
  have hf42 : zfr (zNo S3 q38 0) T4 (fun b => b = q38) := by rw [hc42]; exact zfr.pq (zfr.pi zfr.rf (fun _ => rfl)) (fun _ => rfl)
  have ap42 : zA T4 a 3 := hf42.al (zA.no (S := S3) (yy3.al ha) hq38)
  refine r_putFq (v := some q38) (ci := 3) (k := 3) (id := 303) (C := RX2) (T := TX2) (N := 8) (ty := (.object "java/util/List")) (ty0 := tyX2) F G rfl (by decide) (by decide) rfl (zinL inG3) (zin kf_X2_24) (fun _ h9 => h9) tyX2_ok nmX2 rfl hnm rfl pd3_3 rfl rfl dX2_init_45 ap42 ?_
  have yy4 := zct.obj (n := 0) (id := 303) yy3 ha hq38 (by decide) hf42 (by decide)
  generalize zPq T4 303 a (some q38) = S4 at yy4  ⊢
  refine r_aload_n F dX2_init_48 rfl ?_
  refine r_bipush (v := 10) F dX2_init_49 (by decide) ?_
  refine r_newI (n' := 10) F G (zin ka_int) (by decide) (by decide) (by decide) (by decide) (by decide) dX2_init_51 (fun q51 hq51 => ?_)
  have ap53 : zA (zNa S4 q51 14 10) a 3 := zA.na (S := S4) (yy4.al ha) hq51
  refine r_putFq (v := some q51) (ci := 3) (k := 4) (id := 304) (C := RX2) (T := TX2) (N := 8) (ty := (.array .int)) (ty0 := tyX2) F G rfl (by decide) (by decide) rfl (zinL inG3) (zin kf_X2_27) (fun _ h9 => h9) tyX2_ok nmX2 rfl hnm rfl pd3_4 rfl rfl dX2_init_53 ap53 ?_
  have yy5 := zct.arr (k := 14) (n := 10) (id := 304) yy4 ha hq51 (by decide)
  generalize zPq (zNa S4 q51 14 10) 304 a (some q51) = S5 at yy5  ⊢
  refine r_aload_n F dX2_init_56 rfl ?_
  refine r_bipush (v := 10) F dX2_init_57 (by decide) ?_
  refine r_newI (n' := 10) F G (zin ka_int) (by decide) (by decide) (by decide) (by decide) (by decide) dX2_init_59 (fun q59 hq59 => ?_)
  have ap61 : zA (zNa S5 q59 14 10) a 3 := zA.na (S := S5) (yy5.al ha) hq59
  refine r_putFq (v := some q59) (ci := 3) (k := 5) (id := 305) (C := RX2) (T := TX2) (N := 8) (ty := (.array .int)) (ty0 := tyX2) F G rfl (by decide) (by decide) rfl (zinL inG3) (zin kf_X2_31) (fun _ h9 => h9) tyX2_ok nmX2 rfl hnm rfl pd3_5 rfl rfl dX2_init_61 ap61 ?_
  have yy6 := zct.arr (k := 14) (n := 10) (id := 305) yy5 ha hq59 (by decide)
  generalize zPq (zNa S5 q59 14 10) 305 a (some q59) = S6 at yy6  ⊢
  exact e_vret F hr hlk (yy6) (by decide) (by decide) dX2_init_64
set_option maxRecDepth 100000 in
set_option maxHeartbeats 4000000 in
theorem k_UnitInit {l : Launch} {N0 t0 : Nat} {D : va_G} {cy : Nat → ClassId} {S : zS} {a : Nat} (ha : zA S a 10) (hd : zdf S a) : zMv l yX9_init (zws yX9_init cX9_init 1 none) { frames := 4, cells := 3, slots := 9, locals := 72 } N0 t0 D cy S [.ref a] (fun S' => zct S a (fun j => zi S j a) ((1002, 0, 0) :: ((1001, 0, 0) :: [(1000, 0, 0)])) S') 3 9 := by
  refine zMv.of (cc := cX9_init) (maxL := 1) (ret := none) (by decide) rfl (Nat.le_of_ble_eq_true rfl) ?_
  intro p e s m args below meth c F G hr hlk hnm
  refine r_aload_n F dX9_init_0 rfl ?_
  refine r_objInit F (zin km_X9_1) (zin ki_Object_init) (zin ko_Object_init) dX9_init_1 (by decide) (Nat.le_of_ble_eq_true rfl) ?_
  have yy0 : zct S a (fun j => zi S j a) [] S := zct.nil
  refine r_aload_n F dX9_init_4 rfl ?_
  refine r_new (ci := 0) (C := RJx4a65c) (T := TJx4a65c) (N := 3) (ty0 := tyJx4a65c) F G rfl (by decide) (zinL inG0) tyJx4a65c_ok dvG0 (zin kc_X9_7) (zin kb_Jx4a65c) (zin kn_Jx4a65c) (by decide) (by decide) dX9_init_5 (fun q5 hq5 => ?_)
  refine r_dup F dX9_init_8 rfl ?_
  refine c_Iv F G (k_ListInit (S := (zNo S q5 0)) (a := q5) zA.noq) (cwI 0 F.2.2.2.2 (zgI ko_Jx4a65c_init_da8c8) rfl rfl rfl (F.2.2.2.2 _ (zin kn_Jx4a65c)) (F.2.2.2.2 _ (zin km_X9_9)) (F.2.2.2.2 _ (zin ki_Jx4a65c_init_da8c8)) rfl hd_yJx4a65c_init_da8c8 ⟨Nat.le_of_ble_eq_true rfl, Nat.le_of_ble_eq_true rfl⟩) rfl rfl (Nat.le_of_ble_eq_true rfl) dX9_init_9 ⟨Nat.le_of_ble_eq_true rfl, Nat.le_of_ble_eq_true rfl⟩ (fun T1 hc9 => ?_)
  have hf9 : zfr (zNo S q5 0) T1 (fun b => b = q5) := by rw [hc9]; exact zfr.pq (zfr.pi zfr.rf (fun _ => rfl)) (fun _ => rfl)
  have ap9 : zA T1 a 10 := hf9.al (zA.no (S := S) (yy0.al ha) hq5)
  refine r_putFq (v := some q5) (ci := 10) (k := 0) (id := 1000) (C := RX9) (T := TX9) (N := 3) (ty := (.object "java/util/List")) (ty0 := tyX9) F G rfl (by decide) (by decide) rfl (zinL inG10) (zin kf_X9_10) (fun _ h9 => h9) tyX9_ok nmX9 rfl hnm rfl pd10_0 rfl rfl dX9_init_12 ap9 ?_
  have yy1 := zct.obj (n := 0) (id := 1000) yy0 ha hq5 (by decide) hf9 (by decide)
  generalize zPq T1 1000 a (some q5) = S1 at yy1  ⊢
  refine r_aload_n F dX9_init_15 rfl ?_
  refine r_new (ci := 0) (C := RJx4a65c) (T := TJx4a65c) (N := 3) (ty0 := tyJx4a65c) F G rfl (by decide) (zinL inG0) tyJx4a65c_ok dvG0 (zin kc_X9_7) (zin kb_Jx4a65c) (zin kn_Jx4a65c) (by decide) (by decide) dX9_init_16 (fun q16 hq16 => ?_)
  refine r_dup F dX9_init_19 rfl ?_
  refine c_Iv F G (k_ListInit (S := (zNo S1 q16 0)) (a := q16) zA.noq) (cwI 0 F.2.2.2.2 (zgI ko_Jx4a65c_init_da8c8) rfl rfl rfl (F.2.2.2.2 _ (zin kn_Jx4a65c)) (F.2.2.2.2 _ (zin km_X9_9)) (F.2.2.2.2 _ (zin ki_Jx4a65c_init_da8c8)) rfl hd_yJx4a65c_init_da8c8 ⟨Nat.le_of_ble_eq_true rfl, Nat.le_of_ble_eq_true rfl⟩) rfl rfl (Nat.le_of_ble_eq_true rfl) dX9_init_20 ⟨Nat.le_of_ble_eq_true rfl, Nat.le_of_ble_eq_true rfl⟩ (fun T2 hc20 => ?_)
  have hf20 : zfr (zNo S1 q16 0) T2 (fun b => b = q16) := by rw [hc20]; exact zfr.pq (zfr.pi zfr.rf (fun _ => rfl)) (fun _ => rfl)
  have ap20 : zA T2 a 10 := hf20.al (zA.no (S := S1) (yy1.al ha) hq16)
  refine r_putFq (v := some q16) (ci := 10) (k := 1) (id := 1001) (C := RX9) (T := TX9) (N := 3) (ty := (.object "java/util/List")) (ty0 := tyX9) F G rfl (by decide) (by decide) rfl (zinL inG10) (zin kf_X9_16) (fun _ h9 => h9) tyX9_ok nmX9 rfl hnm rfl pd10_1 rfl rfl dX9_init_23 ap20 ?_
  have yy2 := zct.obj (n := 0) (id := 1001) yy1 ha hq16 (by decide) hf20 (by decide)
  generalize zPq T2 1001 a (some q16) = S2 at yy2  ⊢
  refine r_aload_n F dX9_init_26 rfl ?_
  refine r_new (ci := 0) (C := RJx4a65c) (T := TJx4a65c) (N := 3) (ty0 := tyJx4a65c) F G rfl (by decide) (zinL inG0) tyJx4a65c_ok dvG0 (zin kc_X9_7) (zin kb_Jx4a65c) (zin kn_Jx4a65c) (by decide) (by decide) dX9_init_27 (fun q27 hq27 => ?_)
  refine r_dup F dX9_init_30 rfl ?_
  refine c_Iv F G (k_ListInit (S := (zNo S2 q27 0)) (a := q27) zA.noq) (cwI 0 F.2.2.2.2 (zgI ko_Jx4a65c_init_da8c8) rfl rfl rfl (F.2.2.2.2 _ (zin kn_Jx4a65c)) (F.2.2.2.2 _ (zin km_X9_9)) (F.2.2.2.2 _ (zin ki_Jx4a65c_init_da8c8)) rfl hd_yJx4a65c_init_da8c8 ⟨Nat.le_of_ble_eq_true rfl, Nat.le_of_ble_eq_true rfl⟩) rfl rfl (Nat.le_of_ble_eq_true rfl) dX9_init_31 ⟨Nat.le_of_ble_eq_true rfl, Nat.le_of_ble_eq_true rfl⟩ (fun T3 hc31 => ?_)
  have hf31 : zfr (zNo S2 q27 0) T3 (fun b => b = q27) := by rw [hc31]; exact zfr.pq (zfr.pi zfr.rf (fun _ => rfl)) (fun _ => rfl)
  have ap31 : zA T3 a 10 := hf31.al (zA.no (S := S2) (yy2.al ha) hq27)
  refine r_putFq (v := some q27) (ci := 10) (k := 2) (id := 1002) (C := RX9) (T := TX9) (N := 3) (ty := (.object "java/util/List")) (ty0 := tyX9) F G rfl (by decide) (by decide) rfl (zinL inG10) (zin kf_X9_19) (fun _ h9 => h9) tyX9_ok nmX9 rfl hnm rfl pd10_2 rfl rfl dX9_init_34 ap31 ?_
  have yy3 := zct.obj (n := 0) (id := 1002) yy2 ha hq27 (by decide) hf31 (by decide)
  generalize zPq T3 1002 a (some q27) = S3 at yy3  ⊢
  exact e_vret F hr hlk (yy3) (by decide) (by decide) dX9_init_37
set_option maxRecDepth 100000 in
set_option maxHeartbeats 4000000 in
theorem k_WriterInit {l : Launch} {N0 t0 : Nat} {D : va_G} {cy : Nat → ClassId} {S : zS} {a : Nat} (ha : zA S a 5) (hd : zdf S a) : zMv l yX4_init (zws yX4_init cX4_init 1 none) { frames := 2, cells := 6, slots := 390, locals := 32 } N0 t0 D cy S [.ref a] (fun S' => zct S a (fun j => zi S j a) ((502, 1, 0) :: ((501, 1, 0) :: [(500, 1, 0)])) S') 6 390 := by
  refine zMv.of (cc := cX4_init) (maxL := 1) (ret := none) (by decide) rfl (Nat.le_of_ble_eq_true rfl) ?_
  intro p e s m args below meth c F G hr hlk hnm
  refine r_aload_n F dX4_init_0 rfl ?_
  refine r_objInit F (zin km_X4_3) (zin ki_Object_init) (zin ko_Object_init) dX4_init_1 (by decide) (Nat.le_of_ble_eq_true rfl) ?_
  have yy0 : zct S a (fun j => zi S j a) [] S := zct.nil
  refine r_aload_n F dX4_init_4 rfl ?_
  refine r_new (ci := 1) (C := RX0) (T := TX0) (N := 2) (ty0 := tyX0) F G rfl (by decide) (zinL inG1) tyX0_ok dvG1 (zin kc_X4_9) (zin kb_X0) (zin kn_X0) (by decide) (by decide) dX4_init_5 (fun q5 hq5 => ?_)
  refine r_dup F dX4_init_8 rfl ?_
  refine c_Nv F G (k_BytesInit (S := (zNo S q5 1)) (a := q5) zA.noq zdf.no) ⟨va_cnB 0 F.2.2.2.2 (zgI ko_X0_init) rfl rfl rfl (G.2.2.2.1 (RX4, 11, yX0_init, RX11) (List.mem_of_getElem? (i := 7) rfl)) (F.2.2.2.2 _ (zin kn_X0)) hd_yX0_init ⟨Nat.le_of_ble_eq_true rfl, Nat.le_of_ble_eq_true rfl⟩, rfl, F.2.2.2.2 _ (zin ki_X0_init)⟩ rfl rfl (Nat.le_of_ble_eq_true rfl) dX4_init_9 ⟨Nat.le_of_ble_eq_true rfl, Nat.le_of_ble_eq_true rfl⟩ (fun T1 hc9 => ?_)
  have hf9 : zfr (zNo S q5 1) T1 (fun b => b = q5) := hc9.1
  have ap9 : zA T1 a 5 := hf9.al (zA.no (S := S) (yy0.al ha) hq5)
  refine r_putFq (v := some q5) (ci := 5) (k := 0) (id := 500) (C := RX4) (T := TX4) (N := 3) (ty := (.object "ObjectLinker$Bytes")) (ty0 := tyX4) F G rfl (by decide) (by decide) rfl (zinL inG5) (zin kf_X4_12) (fun _ h9 => h9) tyX4_ok nmX4 rfl hnm rfl pd5_0 rfl rfl dX4_init_12 ap9 ?_
  have yy1 := zct.obj (n := 0) (id := 500) yy0 ha hq5 (by decide) hf9 (by decide)
  generalize zPq T1 500 a (some q5) = S1 at yy1  ⊢
  refine r_aload_n F dX4_init_15 rfl ?_
  refine r_new (ci := 1) (C := RX0) (T := TX0) (N := 2) (ty0 := tyX0) F G rfl (by decide) (zinL inG1) tyX0_ok dvG1 (zin kc_X4_9) (zin kb_X0) (zin kn_X0) (by decide) (by decide) dX4_init_16 (fun q16 hq16 => ?_)
  refine r_dup F dX4_init_19 rfl ?_
  refine c_Nv F G (k_BytesInit (S := (zNo S1 q16 1)) (a := q16) zA.noq zdf.no) ⟨va_cnB 0 F.2.2.2.2 (zgI ko_X0_init) rfl rfl rfl (G.2.2.2.1 (RX4, 11, yX0_init, RX11) (List.mem_of_getElem? (i := 7) rfl)) (F.2.2.2.2 _ (zin kn_X0)) hd_yX0_init ⟨Nat.le_of_ble_eq_true rfl, Nat.le_of_ble_eq_true rfl⟩, rfl, F.2.2.2.2 _ (zin ki_X0_init)⟩ rfl rfl (Nat.le_of_ble_eq_true rfl) dX4_init_20 ⟨Nat.le_of_ble_eq_true rfl, Nat.le_of_ble_eq_true rfl⟩ (fun T2 hc20 => ?_)
  have hf20 : zfr (zNo S1 q16 1) T2 (fun b => b = q16) := hc20.1
  have ap20 : zA T2 a 5 := hf20.al (zA.no (S := S1) (yy1.al ha) hq16)
  refine r_putFq (v := some q16) (ci := 5) (k := 1) (id := 501) (C := RX4) (T := TX4) (N := 3) (ty := (.object "ObjectLinker$Bytes")) (ty0 := tyX4) F G rfl (by decide) (by decide) rfl (zinL inG5) (zin kf_X4_18) (fun _ h9 => h9) tyX4_ok nmX4 rfl hnm rfl pd5_1 rfl rfl dX4_init_23 ap20 ?_
  have yy2 := zct.obj (n := 0) (id := 501) yy1 ha hq16 (by decide) hf20 (by decide)
  generalize zPq T2 501 a (some q16) = S2 at yy2  ⊢
  refine r_aload_n F dX4_init_26 rfl ?_
  refine r_new (ci := 1) (C := RX0) (T := TX0) (N := 2) (ty0 := tyX0) F G rfl (by decide) (zinL inG1) tyX0_ok dvG1 (zin kc_X4_9) (zin kb_X0) (zin kn_X0) (by decide) (by decide) dX4_init_27 (fun q27 hq27 => ?_)
  refine r_dup F dX4_init_30 rfl ?_
  refine c_Nv F G (k_BytesInit (S := (zNo S2 q27 1)) (a := q27) zA.noq zdf.no) ⟨va_cnB 0 F.2.2.2.2 (zgI ko_X0_init) rfl rfl rfl (G.2.2.2.1 (RX4, 11, yX0_init, RX11) (List.mem_of_getElem? (i := 7) rfl)) (F.2.2.2.2 _ (zin kn_X0)) hd_yX0_init ⟨Nat.le_of_ble_eq_true rfl, Nat.le_of_ble_eq_true rfl⟩, rfl, F.2.2.2.2 _ (zin ki_X0_init)⟩ rfl rfl (Nat.le_of_ble_eq_true rfl) dX4_init_31 ⟨Nat.le_of_ble_eq_true rfl, Nat.le_of_ble_eq_true rfl⟩ (fun T3 hc31 => ?_)
  have hf31 : zfr (zNo S2 q27 1) T3 (fun b => b = q27) := hc31.1
  have ap31 : zA T3 a 5 := hf31.al (zA.no (S := S2) (yy2.al ha) hq27)
  refine r_putFq (v := some q27) (ci := 5) (k := 2) (id := 502) (C := RX4) (T := TX4) (N := 3) (ty := (.object "ObjectLinker$Bytes")) (ty0 := tyX4) F G rfl (by decide) (by decide) rfl (zinL inG5) (zin kf_X4_21) (fun _ h9 => h9) tyX4_ok nmX4 rfl hnm rfl pd5_2 rfl rfl dX4_init_34 ap31 ?_
  have yy3 := zct.obj (n := 0) (id := 502) yy2 ha hq27 (by decide) hf31 (by decide)
  generalize zPq T3 502 a (some q27) = S3 at yy3  ⊢
  exact e_vret F hr hlk (yy3) (by decide) (by decide) dX4_init_37
set_option maxRecDepth 100000 in
set_option maxHeartbeats 4000000 in
theorem k_MachineInit {l : Launch} {N0 t0 : Nat} {D : va_G} {cy : Nat → ClassId} {S : zS} {a : Nat} (ha : zA S a 4) (hd : zdf S a) : zMv l yX3_init (zws yX3_init cX3_init 1 none) { frames := 1, cells := 5, slots := 3864, locals := 12 } N0 t0 D cy S [.ref a] (fun S' => zct S a (fun j => zi S j a) ((404, 13, 1024) :: ((403, 14, 40) :: ((402, 14, 40) :: ((401, 17, 40) :: [(400, 15, 2720)])))) S') 5 3864 := by
  refine zMv.of (cc := cX3_init) (maxL := 1) (ret := none) (by decide) rfl (Nat.le_of_ble_eq_true rfl) ?_
  intro p e s m args below meth c F G hr hlk hnm
  refine r_aload_n F dX3_init_0 rfl ?_
  refine r_objInit F (zin km_X3_3) (zin ki_Object_init) (zin ko_Object_init) dX3_init_1 (by decide) (Nat.le_of_ble_eq_true rfl) ?_
  have yy0 : zct S a (fun j => zi S j a) [] S := zct.nil
  refine r_aload_n F dX3_init_4 rfl ?_
  refine r_sipush (v := 2720) F dX3_init_5 (by decide) ?_
  refine r_newJ (n' := 2720) F G (zin ka_long) (by decide) (by decide) (by decide) (by decide) (by decide) dX3_init_8 (fun q8 hq8 => ?_)
  have ap10 : zA (zNa S q8 15 2720) a 4 := zA.na (S := S) (yy0.al ha) hq8
  refine r_putFq (v := some q8) (ci := 4) (k := 0) (id := 400) (C := RX3) (T := TX3) (N := 12) (ty := (.array .long)) (ty0 := tyX3) F G rfl (by decide) (by decide) rfl (zinL inG4) (zin kf_X3_9) (fun _ h9 => h9) tyX3_ok nmX3 rfl hnm rfl pd4_0 rfl rfl dX3_init_10 ap10 ?_
  have yy1 := zct.arr (k := 15) (n := 2720) (id := 400) yy0 ha hq8 (by decide)
  generalize zPq (zNa S q8 15 2720) 400 a (some q8) = S1 at yy1  ⊢
  refine r_aload_n F dX3_init_13 rfl ?_
  refine r_bipush (v := 40) F dX3_init_14 (by decide) ?_
  refine r_newR (n' := 40) F G (zin kc_X3_15) (by decide) (by decide) (by decide) (by decide) (by decide) dX3_init_16 (fun q16 hq16 => ?_)
  have ap19 : zA (zNa S1 q16 17 40) a 4 := zA.na (S := S1) (yy1.al ha) hq16
  refine r_putFq (v := some q16) (ci := 4) (k := 1) (id := 401) (C := RX3) (T := TX3) (N := 12) (ty := (.array (.object "ObjectLinker$Routine"))) (ty0 := tyX3) F G rfl (by decide) (by decide) rfl (zinL inG4) (zin kf_X3_17) (fun _ h9 => h9) tyX3_ok nmX3 rfl hnm rfl pd4_1 rfl rfl dX3_init_19 ap19 ?_
  have yy2 := zct.arr (k := 17) (n := 40) (id := 401) yy1 ha hq16 (by decide)
  generalize zPq (zNa S1 q16 17 40) 401 a (some q16) = S2 at yy2  ⊢
  refine r_aload_n F dX3_init_22 rfl ?_
  refine r_bipush (v := 40) F dX3_init_23 (by decide) ?_
  refine r_newI (n' := 40) F G (zin ka_int) (by decide) (by decide) (by decide) (by decide) (by decide) dX3_init_25 (fun q25 hq25 => ?_)
  have ap27 : zA (zNa S2 q25 14 40) a 4 := zA.na (S := S2) (yy2.al ha) hq25
  refine r_putFq (v := some q25) (ci := 4) (k := 2) (id := 402) (C := RX3) (T := TX3) (N := 12) (ty := (.array .int)) (ty0 := tyX3) F G rfl (by decide) (by decide) rfl (zinL inG4) (zin kf_X3_21) (fun _ h9 => h9) tyX3_ok nmX3 rfl hnm rfl pd4_2 rfl rfl dX3_init_27 ap27 ?_
  have yy3 := zct.arr (k := 14) (n := 40) (id := 402) yy2 ha hq25 (by decide)
  generalize zPq (zNa S2 q25 14 40) 402 a (some q25) = S3 at yy3  ⊢
  refine r_aload_n F dX3_init_30 rfl ?_
  refine r_bipush (v := 40) F dX3_init_31 (by decide) ?_
  refine r_newI (n' := 40) F G (zin ka_int) (by decide) (by decide) (by decide) (by decide) (by decide) dX3_init_33 (fun q33 hq33 => ?_)
  have ap35 : zA (zNa S3 q33 14 40) a 4 := zA.na (S := S3) (yy3.al ha) hq33
  refine r_putFq (v := some q33) (ci := 4) (k := 3) (id := 403) (C := RX3) (T := TX3) (N := 12) (ty := (.array .int)) (ty0 := tyX3) F G rfl (by decide) (by decide) rfl (zinL inG4) (zin kf_X3_25) (fun _ h9 => h9) tyX3_ok nmX3 rfl hnm rfl pd4_3 rfl rfl dX3_init_35 ap35 ?_
  have yy4 := zct.arr (k := 14) (n := 40) (id := 403) yy3 ha hq33 (by decide)
  generalize zPq (zNa S3 q33 14 40) 403 a (some q33) = S4 at yy4  ⊢
  refine r_aload_n F dX3_init_38 rfl ?_
  refine r_sipush (v := 1024) F dX3_init_39 (by decide) ?_
  refine r_newB (n' := 1024) F G (zin ka_byte) (by decide) (by decide) (by decide) (by decide) (by decide) dX3_init_42 (fun q42 hq42 => ?_)
  have ap44 : zA (zNa S4 q42 13 1024) a 4 := zA.na (S := S4) (yy4.al ha) hq42
  refine r_putFq (v := some q42) (ci := 4) (k := 4) (id := 404) (C := RX3) (T := TX3) (N := 12) (ty := (.array .byte)) (ty0 := tyX3) F G rfl (by decide) (by decide) rfl (zinL inG4) (zin kf_X3_28) (fun _ h9 => h9) tyX3_ok nmX3 rfl hnm rfl pd4_4 rfl rfl dX3_init_44 ap44 ?_
  have yy5 := zct.arr (k := 13) (n := 1024) (id := 404) yy4 ha hq42 (by decide)
  generalize zPq (zNa S4 q42 13 1024) 404 a (some q42) = S5 at yy5  ⊢
  refine r_aload_n F dX3_init_47 rfl ?_
  refine r_null F dX3_init_48 ?_
  refine r_putq (v := none) (ci := 4) (k := 5) (id := 405) (C := RX3) (T := TX3) (N := 12) (ty := (.object "java/util/List")) (ty0 := tyX3) F G rfl (by decide) (by decide) rfl (zinL inG4) (zin kf_X3_32) (fun _ h9 => h9) tyX3_ok nmX3 rfl pd4_5 rfl rfl dX3_init_49 (yy5.al ha) ?_
  have yy6 := zct.nul (id := 405) yy5 (by decide) (hd.2.1 _)
  generalize zPq S5 405 a none = S6 at yy6 ⊢
  exact e_vret F hr hlk (yy6) (by decide) (by decide) dX3_init_52
