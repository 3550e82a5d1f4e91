/-- a linker just made, at x: no units, nothing linked, no run -/
def zfresh (t0 : Nat) (S : zS) (x : Nat) : Prop := (∃ u, zq S n_Linker_units x = some u ∧ zA S u 0 ∧ zi S n_ArrayList_size u = 0 ∧ zq S n_ArrayList_elementData u = some t0) ∧ zi S n_Linker_linked x = 0 ∧ zi S n_Linker_faultPlace x = -1 ∧
  ∃ m, zq S n_Linker_machine x = some m ∧ zA S m 4 ∧ zl S n_Machine_value m = 0 ∧ zi S n_Machine_steps m = 0 ∧ zi S n_Machine_deepest m = 0 ∧ ∃ q, zq S n_Machine_bytes m = some q ∧ zA S q 13 ∧ zn S q = 1024 ∧ zri S q = fun _ => 0
set_option maxRecDepth 100000 in
set_option maxHeartbeats 4000000 in
theorem k_LinkerInit {l : Launch} {N0 t0 : Nat} {D : va_G} {cy : Nat → ClassId} {S : zS} {a : Nat} (ha : zA S a 11) (hd : zdf S a) : zMv l yX11_init (zws yX11_init cX11_init 1 none) { frames := 6, cells := 32, slots := 4750, locals := 120 } N0 t0 D cy S [.ref a] (fun S' => zfresh t0 S' a ∧ zfr S S' (fun b => b = a)) 32 4750 := by
  refine zMv.of (cc := cX11_init) (maxL := 1) (ret := none) (by decide) rfl (Nat.le_of_ble_eq_true rfl) ?_
  intro p e s m args below meth c F G hr hlk hnm
  refine r_aload_n F dX11_init_0 rfl ?_
  refine r_objInit F (zin km_X11_1) (zin ki_Object_init) (zin ko_Object_init) dX11_init_1 (by decide) (Nat.le_of_ble_eq_true rfl) ?_
  have yy0 : zct S a (fun j => zi S j a) [] S := zct.nil
  refine r_aload_n F dX11_init_4 rfl ?_
  refine r_new (ci := 0) (C := RJx4a65c) (T := TJx4a65c) (N := 3) (ty0 := tyJx4a65c) F G rfl (by decide) (zinL inG0) tyJx4a65c_ok dvG0 (zin kc_X11_7) (zin kb_Jx4a65c) (zin kn_Jx4a65c) (by decide) (by decide) dX11_init_5 (fun q5 hq5 => ?_)
  refine r_dup F dX11_init_8 rfl ?_
  refine c_Iv F G (k_ListInit (S := (zNo S q5 0)) (a := q5) zA.noq) (cwI 0 F.2.2.2.2 (zgI ko_Jx4a65c_init_da8c8) rfl rfl rfl (F.2.2.2.2 _ (zin kn_Jx4a65c)) (F.2.2.2.2 _ (zin km_X11_9)) (F.2.2.2.2 _ (zin ki_Jx4a65c_init_da8c8)) rfl hd_yJx4a65c_init_da8c8 ⟨Nat.le_of_ble_eq_true rfl, Nat.le_of_ble_eq_true rfl⟩) rfl rfl (Nat.le_of_ble_eq_true rfl) dX11_init_9 ⟨Nat.le_of_ble_eq_true rfl, Nat.le_of_ble_eq_true rfl⟩ (fun T1 hc9 => ?_)
  have hf9 : zfr (zNo S q5 0) T1 (fun b => b = q5) := by rw [hc9]; exact zfr.pq (zfr.pi zfr.rf (fun _ => rfl)) (fun _ => rfl)
  have ap9 : zA T1 a 11 := hf9.al (zA.no (S := S) (yy0.al ha) hq5)
  refine r_putFq (v := some q5) (ci := 11) (k := 0) (id := 1100) (C := RX11) (T := TX11) (N := 8) (ty := (.object "java/util/List")) (ty0 := tyX11) F G rfl (by decide) (by decide) rfl (zinL inG11) (zin kf_X11_10) (fun _ h9 => h9) tyX11_ok nmX11 rfl hnm rfl pd11_0 rfl rfl dX11_init_12 ap9 ?_
  have yy1 := zct.obj (n := 0) (id := 1100) yy0 ha hq5 (by decide) hf9 (by decide)
  have u1 : zi (zPq T1 1100 a (some q5)) 2 q5 = 0 := by rw [hc9]; simp [zi, zPq, zPi, z2, zNo, zat]
  have u4 : q5 ≠ a := fun e => hq5 (e ▸ ha.1)
  have u2 : zq (zPq T1 1100 a (some q5)) 1 q5 = some t0 := by rw [hc9]; simp [zq, zPq, z2]
  have u3 : zq (zPq T1 1100 a (some q5)) 1100 a = some q5 := z2_s _ _ _ _
  have u5 : zA (zPq T1 1100 a (some q5)) q5 0 := hf9.al zA.noq
  generalize zPq T1 1100 a (some q5) = S1 at yy1  u1 u2 u3 u5 ⊢
  have b1 : zct S1 a (fun j => zi S1 j a) [] S1 := zct.nil
  have hab : zA S1 a 11 := yy1.al ha
  refine r_aload_n F dX11_init_15 rfl ?_
  refine r_new (ci := 6) (C := RX5) (T := TX5) (N := 3) (ty0 := tyX5) F G rfl (by decide) (zinL inG6) tyX5_ok dvG6 (zin kc_X11_16) (zin kb_X5) (zin kn_X5) (by decide) (by decide) dX11_init_16 (fun q16 hq16 => ?_)
  refine r_dup F dX11_init_19 rfl ?_
  refine c_Nv F G (k_NamesInit (S := (zNo S1 q16 6)) (a := q16) zA.noq zdf.no) ⟨va_cnB 0 F.2.2.2.2 (zgI ko_X5_init) rfl rfl rfl (G.2.2.2.1 (RX11, 18, yX5_init, RX11) (List.mem_of_getElem? (i := 0) rfl)) (F.2.2.2.2 _ (zin kn_X5)) hd_yX5_init ⟨Nat.le_of_ble_eq_true rfl, Nat.le_of_ble_eq_true rfl⟩, rfl, F.2.2.2.2 _ (zin ki_X5_init)⟩ rfl rfl (Nat.le_of_ble_eq_true rfl) dX11_init_20 ⟨Nat.le_of_ble_eq_true rfl, Nat.le_of_ble_eq_true rfl⟩ (fun T2 hc20 => ?_)
  have hf20 : zfr (zNo S1 q16 6) T2 (fun b => b = q16) := hc20.1
  have ap20 : zA T2 a 11 := hf20.al (zA.no (S := S1) (yy1.al ha) hq16)
  refine r_putFq (v := some q16) (ci := 11) (k := 1) (id := 1101) (C := RX11) (T := TX11) (N := 8) (ty := (.object "ObjectLinker$Names")) (ty0 := tyX11) F G rfl (by decide) (by decide) rfl (zinL inG11) (zin kf_X11_19) (fun _ h9 => h9) tyX11_ok nmX11 rfl hnm rfl pd11_1 rfl rfl dX11_init_23 ap20 ?_
  have yy2 := zct.obj (n := 0) (id := 1101) yy1 ha hq16 (by decide) hf20 (by decide)
  have b2 := zct.obj (n := 0) (id := 1101) b1 hab hq16 (by decide) hf20 (by decide)
  generalize zPq T2 1101 a (some q16) = S2 at yy2 b2 ⊢
  refine r_aload_n F dX11_init_26 rfl ?_
  refine r_new (ci := 2) (C := RX1) (T := TX1) (N := 7) (ty0 := tyX1) F G rfl (by decide) (zinL inG2) tyX1_ok dvG2 (zin kc_X11_23) (zin kb_X1) (zin kn_X1) (by decide) (by decide) dX11_init_27 (fun q27 hq27 => ?_)
  refine r_dup F dX11_init_30 rfl ?_
  refine c_Nv F G (k_CheckInit (S := (zNo S2 q27 2)) (a := q27) zA.noq zdf.no) ⟨va_cnB 0 F.2.2.2.2 (zgI ko_X1_init) rfl rfl rfl (G.2.2.2.1 (RX11, 25, yX1_init, RX11) (List.mem_of_getElem? (i := 1) rfl)) (F.2.2.2.2 _ (zin kn_X1)) hd_yX1_init ⟨Nat.le_of_ble_eq_true rfl, Nat.le_of_ble_eq_true rfl⟩, rfl, F.2.2.2.2 _ (zin ki_X1_init)⟩ rfl rfl (Nat.le_of_ble_eq_true rfl) dX11_init_31 ⟨Nat.le_of_ble_eq_true rfl, Nat.le_of_ble_eq_true rfl⟩ (fun T3 hc31 => ?_)
  have hf31 : zfr (zNo S2 q27 2) T3 (fun b => b = q27) := hc31.1
  have ap31 : zA T3 a 11 := hf31.al (zA.no (S := S2) (yy2.al ha) hq27)
  refine r_putFq (v := some q27) (ci := 11) (k := 2) (id := 1102) (C := RX11) (T := TX11) (N := 8) (ty := (.object "ObjectLinker$CodeCheck")) (ty0 := tyX11) F G rfl (by decide) (by decide) rfl (zinL inG11) (zin kf_X11_26) (fun _ h9 => h9) tyX11_ok nmX11 rfl hnm rfl pd11_2 rfl rfl dX11_init_34 ap31 ?_
  have yy3 := zct.obj (n := 0) (id := 1102) yy2 ha hq27 (by decide) hf31 (by decide)
  have b3 := zct.obj (n := 0) (id := 1102) b2 hab hq27 (by decide) hf31 (by decide)
  generalize zPq T3 1102 a (some q27) = S3 at yy3 b3 ⊢
  refine r_aload_n F dX11_init_37 rfl ?_
  refine r_new (ci := 3) (C := RX2) (T := TX2) (N := 8) (ty0 := tyX2) F G rfl (by decide) (zinL inG3) tyX2_ok dvG3 (zin kc_X11_30) (zin kb_X2) (zin kn_X2) (by decide) (by decide) dX11_init_38 (fun q38 hq38 => ?_)
  refine r_dup F dX11_init_41 rfl ?_
  refine c_Nv F G (k_ImageInit (S := (zNo S3 q38 3)) (a := q38) zA.noq zdf.no) ⟨va_cnB 0 F.2.2.2.2 (zgI ko_X2_init) rfl rfl rfl (G.2.2.2.1 (RX11, 32, yX2_init, RX11) (List.mem_of_getElem? (i := 2) rfl)) (F.2.2.2.2 _ (zin kn_X2)) hd_yX2_init ⟨Nat.le_of_ble_eq_true rfl, Nat.le_of_ble_eq_true rfl⟩, rfl, F.2.2.2.2 _ (zin ki_X2_init)⟩ rfl rfl (Nat.le_of_ble_eq_true rfl) dX11_init_42 ⟨Nat.le_of_ble_eq_true rfl, Nat.le_of_ble_eq_true rfl⟩ (fun T4 hc42 => ?_)
  have hf42 : zfr (zNo S3 q38 3) T4 (fun b => b = q38) := hc42.1
  have ap42 : zA T4 a 11 := hf42.al (zA.no (S := S3) (yy3.al ha) hq38)
  refine r_putFq (v := some q38) (ci := 11) (k := 3) (id := 1103) (C := RX11) (T := TX11) (N := 8) (ty := (.object "ObjectLinker$Image")) (ty0 := tyX11) F G rfl (by decide) (by decide) rfl (zinL inG11) (zin kf_X11_33) (fun _ h9 => h9) tyX11_ok nmX11 rfl hnm rfl pd11_3 rfl rfl dX11_init_45 ap42 ?_
  have yy4 := zct.obj (n := 0) (id := 1103) yy3 ha hq38 (by decide) hf42 (by decide)
  have b4 := zct.obj (n := 0) (id := 1103) b3 hab hq38 (by decide) hf42 (by decide)
  generalize zPq T4 1103 a (some q38) = S4 at yy4 b4 ⊢
  refine r_aload_n F dX11_init_48 rfl ?_
  refine r_new (ci := 5) (C := RX4) (T := TX4) (N := 3) (ty0 := tyX4) F G rfl (by decide) (zinL inG5) tyX4_ok dvG5 (zin kc_X11_37) (zin kb_X4) (zin kn_X4) (by decide) (by decide) dX11_init_49 (fun q49 hq49 => ?_)
  refine r_dup F dX11_init_52 rfl ?_
  refine c_Nv F G (k_WriterInit (S := (zNo S4 q49 5)) (a := q49) zA.noq zdf.no) ⟨va_cnB 0 F.2.2.2.2 (zgI ko_X4_init) rfl rfl rfl (G.2.2.2.1 (RX11, 39, yX4_init, RX11) (List.mem_of_getElem? (i := 3) rfl)) (F.2.2.2.2 _ (zin kn_X4)) hd_yX4_init ⟨Nat.le_of_ble_eq_true rfl, Nat.le_of_ble_eq_true rfl⟩, rfl, F.2.2.2.2 _ (zin ki_X4_init)⟩ rfl rfl (Nat.le_of_ble_eq_true rfl) dX11_init_53 ⟨Nat.le_of_ble_eq_true rfl, Nat.le_of_ble_eq_true rfl⟩ (fun T5 hc53 => ?_)
  have hf53 : zfr (zNo S4 q49 5) T5 (fun b => b = q49) := hc53.1
  have ap53 : zA T5 a 11 := hf53.al (zA.no (S := S4) (yy4.al ha) hq49)
  refine r_putFq (v := some q49) (ci := 11) (k := 4) (id := 1104) (C := RX11) (T := TX11) (N := 8) (ty := (.object "ObjectLinker$ModuleWriter")) (ty0 := tyX11) F G rfl (by decide) (by decide) rfl (zinL inG11) (zin kf_X11_40) (fun _ h9 => h9) tyX11_ok nmX11 rfl hnm rfl pd11_4 rfl rfl dX11_init_56 ap53 ?_
  have yy5 := zct.obj (n := 0) (id := 1104) yy4 ha hq49 (by decide) hf53 (by decide)
  have b5 := zct.obj (n := 0) (id := 1104) b4 hab hq49 (by decide) hf53 (by decide)
  generalize zPq T5 1104 a (some q49) = S5 at yy5 b5 ⊢
  refine r_aload_n F dX11_init_59 rfl ?_
  refine r_new (ci := 4) (C := RX3) (T := TX3) (N := 12) (ty0 := tyX3) F G rfl (by decide) (zinL inG4) tyX3_ok dvG4 (zin kc_X11_44) (zin kb_X3) (zin kn_X3) (by decide) (by decide) dX11_init_60 (fun q60 hq60 => ?_)
  refine r_dup F dX11_init_63 rfl ?_
  refine c_Nv F G (k_MachineInit (S := (zNo S5 q60 4)) (a := q60) zA.noq zdf.no) ⟨va_cnB 0 F.2.2.2.2 (zgI ko_X3_init) rfl rfl rfl (G.2.2.2.1 (RX11, 46, yX3_init, RX11) (List.mem_of_getElem? (i := 4) rfl)) (F.2.2.2.2 _ (zin kn_X3)) hd_yX3_init ⟨Nat.le_of_ble_eq_true rfl, Nat.le_of_ble_eq_true rfl⟩, rfl, F.2.2.2.2 _ (zin ki_X3_init)⟩ rfl rfl (Nat.le_of_ble_eq_true rfl) dX11_init_64 ⟨Nat.le_of_ble_eq_true rfl, Nat.le_of_ble_eq_true rfl⟩ (fun T6 hc64 => ?_)
  have hf64 : zfr (zNo S5 q60 4) T6 (fun b => b = q60) := hc64.1
  have ap64 : zA T6 a 11 := hf64.al (zA.no (S := S5) (yy5.al ha) hq60)
  refine r_putFq (v := some q60) (ci := 11) (k := 5) (id := 1105) (C := RX11) (T := TX11) (N := 8) (ty := (.object "ObjectLinker$Machine")) (ty0 := tyX11) F G rfl (by decide) (by decide) rfl (zinL inG11) (zin kf_X11_47) (fun _ h9 => h9) tyX11_ok nmX11 rfl hnm rfl pd11_5 rfl rfl dX11_init_67 ap64 ?_
  have yy6 := zct.obj (n := 0) (id := 1105) yy5 ha hq60 (by decide) hf64 (by decide)
  have b6 := zct.obj (n := 0) (id := 1105) b5 hab hq60 (by decide) hf64 (by decide)
  have aC : a ∈ zL S5 := (yy5.al ha).1
  have m0 : q60 ≠ a := fun e => hq60 (e ▸ aC)
  have m1 : zl (zPq T6 1105 a (some q60)) 409 q60 = 0 := (hc64.2.2.1 409).trans (zdf.no.2.2 409)
  have m2 : ∀ j, zi (zPq T6 1105 a (some q60)) j q60 = 0 := fun j => (hc64.2.1 j).trans (zdf.no.1 j)
  obtain ⟨mb, m3, m4, m5, m6⟩ := hc64.2.2.2.2.1 (404, 13, 1024) (List.mem_of_getElem? (i := 0) rfl)
  have m7 : zq (zPq T6 1105 a (some q60)) 404 q60 = some mb := (show z2 (zq T6) 1105 a (some q60) 404 q60 = zq T6 404 q60 from z2_n _ _ (Or.inl (by decide))).trans m3
  have m8 : mb ≠ a := fun e => m4 (e ▸ List.mem_append_left _ aC)
  have m9 : zA (zPq T6 1105 a (some q60)) mb 13 := m5
  have m10 : zn (zPq T6 1105 a (some q60)) mb = 1024 := (m6 (by decide)).1
  have m11 : zri (zPq T6 1105 a (some q60)) mb = fun _ => 0 := (m6 (by decide)).2.1
  have m12 : zq (zPq T6 1105 a (some q60)) 1105 a = some q60 := z2_s _ _ _ _
  have m13 : zA (zPq T6 1105 a (some q60)) q60 4 := hf64.al zA.noq
  generalize zPq T6 1105 a (some q60) = S6 at yy6 b6 m1 m2 m7 m9 m10 m11 m12 m13 ⊢
  have w6 : zct S6 a (fun j => zi S6 j a) [] S6 := zct.nil
  have haw : zA S6 a 11 := yy6.al ha
  refine r_aload_n F dX11_init_70 rfl ?_
  refine r_iconst (v := 0) F dX11_init_71 (by decide) ?_
  refine r_puti (ci := 11) (k := 6) (id := 1106) (C := RX11) (T := TX11) (N := 8) (ty := .boolean) (ty0 := tyX11) F G rfl (by decide) (by decide) rfl (zinL inG11) (zin kf_X11_51) (fun _ h9 => h9) tyX11_ok nmX11 rfl pd11_6 rfl rfl dX11_init_72 (yy6.al ha) ?_
  have yy7 := zct.pi (id := 1106) (v := 0) yy6
  have b7 := zct.pi (id := 1106) (v := 0) b6
  have w7 := zct.pi (id := 1106) (v := 0) w6
  generalize zPi S6 1106 a (0) = S7 at yy7 b7 w7 ⊢
  refine r_aload_n F dX11_init_75 rfl ?_
  refine r_iconst (v := -1) F dX11_init_76 (by decide) ?_
  refine r_puti (ci := 11) (k := 7) (id := 1107) (C := RX11) (T := TX11) (N := 8) (ty := .int) (ty0 := tyX11) F G rfl (by decide) (by decide) rfl (zinL inG11) (zin kf_X11_55) (fun _ h9 => h9) tyX11_ok nmX11 rfl pd11_7 rfl rfl dX11_init_77 (yy7.al ha) ?_
  have yy8 := zct.pi (id := 1107) (v := -1) yy7
  have b8 := zct.pi (id := 1107) (v := -1) b7
  have w8 := zct.pi (id := 1107) (v := -1) w7
  generalize zPi S7 1107 a (-1) = S8 at yy8 b8 w8 ⊢
  exact e_vret F hr hlk (⟨⟨⟨q5, (b8.2.2.2.1 1100 (by decide)).trans u3, b8.1.al u5, ((b8.1.sm u5.1 u4).1 2).trans u1, ((b8.1.sm u5.1 u4).2.1 1).trans u2⟩, (yy8.2.1 1106).trans (by simp), (yy8.2.1 1107).trans (by simp), q60, (w8.2.2.2.1 1105 (by decide)).trans m12, w8.1.al m13, ((w8.1.sm m13.1 m0).2.2.1 409).trans m1, ((w8.1.sm m13.1 m0).1 410).trans (m2 410), ((w8.1.sm m13.1 m0).1 411).trans (m2 411), mb, ((w8.1.sm m13.1 m0).2.1 404).trans m7, w8.1.al m9, (w8.1.sm m9.1 m8).2.2.2.1.trans m10, (w8.1.sm m9.1 m8).2.2.2.2.1.trans m11⟩, yy8.1⟩) (by decide) (by decide) dX11_init_80
