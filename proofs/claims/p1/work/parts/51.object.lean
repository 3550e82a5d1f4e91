section ZMX
variable {p : Program} {l : Launch} {e : Env} {R : Room} {s : State} {m : MethodId} {args : Array Value} {below : List Frame} {meth : Method} {c : Code} {Q : State → Prop} {N0 : Nat} {D : va_G} {cy : Nat → ClassId} {cc : ByteArray} {nL cells slots : Nat} {Ts : List Cond} {own : String} {S : zS} {lv : List (Nat × Value)} {pc : Nat} {rest : List Value}
theorem r_mmax (F : CallFix p m c cc nL s args Ts own) {idx : Nat} {x y : Int32} (h1 : Cond.methodLink own idx Lib.Math.max.name ∈ Ts) (h2 : Cond.static Lib.Math.max.name ∈ Ts) (h3 : Cond.initialized "java/lang/Math" ∈ Ts) (h4 : Cond.code Lib.Math.max.name Lib.Math.max.code 2 (some .int) ∈ Ts) (hf : 1 ≤ R.frames) (hlo : (rest.map fun v => v.category).sum + 13 ≤ R.locals) (hc : cells ≤ R.cells) (hs : slots ≤ R.slots) (hdg : decode cc pc = .ok (.invokestatic idx, 3)) (kk : zW p l e R s m args below meth c Q N0 D cy nL cells slots S lv (pc + 3) (.int (if x < y then y else x) :: rest)) : zW p l e R s m args below meth c Q N0 D cy nL cells slots S lv pc (.int y :: .int x :: rest) := fun H locs ls hP hD hS hl => va_mmax F.1 F.2.1 (F.2.2.1.trans hl.1.symm) F.2.2.2.1 (F.2.2.2.2 _ h1) (F.2.2.2.2 _ h2) (F.2.2.2.2 _ h3) (F.2.2.2.2 _ h4) hf hlo hc hs hdg (kk H locs ls hP hD hS hl)
theorem r_mmin (F : CallFix p m c cc nL s args Ts own) {idx : Nat} {x y : Int32} (h1 : Cond.methodLink own idx Lib.Math.min.name ∈ Ts) (h2 : Cond.static Lib.Math.min.name ∈ Ts) (h3 : Cond.initialized "java/lang/Math" ∈ Ts) (h4 : Cond.code Lib.Math.min.name Lib.Math.min.code 2 (some .int) ∈ Ts) (hf : 1 ≤ R.frames) (hlo : (rest.map fun v => v.category).sum + 13 ≤ R.locals) (hc : cells ≤ R.cells) (hs : slots ≤ R.slots) (hdg : decode cc pc = .ok (.invokestatic idx, 3)) (kk : zW p l e R s m args below meth c Q N0 D cy nL cells slots S lv (pc + 3) (.int (if y < x then y else x) :: rest)) : zW p l e R s m args below meth c Q N0 D cy nL cells slots S lv pc (.int y :: .int x :: rest) := fun H locs ls hP hD hS hl => va_mmin F.1 F.2.1 (F.2.2.1.trans hl.1.symm) F.2.2.2.1 (F.2.2.2.2 _ h1) (F.2.2.2.2 _ h2) (F.2.2.2.2 _ h3) (F.2.2.2.2 _ h4) hf hlo hc hs hdg (kk H locs ls hP hD hS hl)
end ZMX
set_option maxRecDepth 100000 in
set_option maxHeartbeats 4000000 in
theorem k_grow1_first {l : Launch} {N0 t0 : Nat} {D : va_G} {cy : Nat → ClassId} {S : zS} {u : Nat} {w : Int32} (hua : zA S u 0) (hE : zq S 1 u = some t0) (hw : w = 1) : zMq l yJx4a65c_grow_92f84 (zws yJx4a65c_grow_92f84 cJx4a65c_grow_92f84 4 (some (.array (.object "java/lang/Object")))) { frames := 1, cells := 1, slots := 10, locals := 20 } N0 t0 D cy S [.ref u, .int w] (fun r S' => ∃ q, q ∉ zL S ∧ r = some q ∧ S' = zPq (zNa S q 19 10) 1 u (some q)) 1 10 := by
  subst hw
  refine zMq.of (cc := cJx4a65c_grow_92f84) (maxL := 4) (ret := (some (.array (.object "java/lang/Object")))) (by decide) rfl (Nat.le_of_ble_eq_true rfl) ?_
  intro p e s m args below meth c F G hr hlk hnm
  refine r_aload_n F dJx4a65c_grow_92f84_0 rfl ?_
  refine r_getS (ci := 0) (k := 1) (id := 1) (C := RJx4a65c) (T := TJx4a65c) (N := 3) F G rfl (by decide) (by decide) rfl (zinL inG0) (zin kf_Jx4a65c_9) (fun _ h9 => h9) dJx4a65c_grow_92f84_1 hua hE ?_
  refine r_alenT F G dJx4a65c_grow_92f84_4 ?_
  refine r_istore_n F dJx4a65c_grow_92f84_5 (by decide) ?_
  refine r_iload_n F dJx4a65c_grow_92f84_6 rfl ?_
  refine r_if_gt (tgt := 20) F dJx4a65c_grow_92f84_7 (by decide) (fun h9 => absurd h9 (by decide)) (fun _ => ?_)
  refine r_aload_n F dJx4a65c_grow_92f84_10 rfl ?_
  refine r_getS (ci := 0) (k := 1) (id := 1) (C := RJx4a65c) (T := TJx4a65c) (N := 3) F G rfl (by decide) (by decide) rfl (zinL inG0) (zin kf_Jx4a65c_9) (fun _ h9 => h9) dJx4a65c_grow_92f84_11 hua hE ?_
  refine r_gets F G (zin kf_Jx4a65c_39) dJx4a65c_grow_92f84_14 ?_
  refine r_acmp_eq (rx := some t0) (ry := some t0) (tgt := 45) F dJx4a65c_grow_92f84_17 (by decide) (fun _ => ?_) (fun h => absurd rfl h)
  refine r_aload_n F dJx4a65c_grow_92f84_45 rfl ?_
  refine r_bipush (v := 10) F dJx4a65c_grow_92f84_46 (by decide) ?_
  refine r_iload_n F dJx4a65c_grow_92f84_48 rfl ?_
  refine r_mmax F (zin km_Jx4a65c_79) (zin ks_J9_max_7cf53) (zin kn_J9) (zin ko_J9_max_7cf53) (by decide) (Nat.le_of_ble_eq_true rfl) (by decide) (by decide) dJx4a65c_grow_92f84_49 ?_
  refine r_newO (n' := 10) F G (zin kc_Jx4a65c_7) (by decide) (by decide) (by decide) (by decide) (by decide) dJx4a65c_grow_92f84_52 (fun q52 hq52 => ?_)
  refine r_dup_x1 F dJx4a65c_grow_92f84_55 rfl rfl ?_
  have ap : zA (zNa S q52 19 10) u 0 := zA.na hua hq52
  refine r_putq (v := some q52) (ci := 0) (k := 1) (id := 1) (C := RJx4a65c) (T := TJx4a65c) (N := 3) (ty := (.array (.object "java/lang/Object"))) (ty0 := tyJx4a65c) F G rfl (by decide) (by decide) rfl (zinL inG0) (zin kf_Jx4a65c_9) (fun _ h9 => h9) tyJx4a65c_ok nmJx4a65c rfl pd0_1 rfl rfl dJx4a65c_grow_92f84_56 ap ?_
  exact e_aret (v := some q52) F hr (Or.inr ⟨_, rfl⟩) hlk ⟨q52, hq52, rfl, rfl⟩ (by decide) (by decide) dJx4a65c_grow_92f84_59
set_option maxRecDepth 100000 in
set_option maxHeartbeats 4000000 in
theorem k_grow0_first {l : Launch} {N0 t0 : Nat} {D : va_G} {cy : Nat → ClassId} {S : zS} {u : Nat} (hua : zA S u 0) (hE : zq S 1 u = some t0) (hn : zi S 2 u = 0) : zMq l yJx4a65c_grow_d5877 (zws yJx4a65c_grow_d5877 cJx4a65c_grow_d5877 1 (some (.array (.object "java/lang/Object")))) { frames := 2, cells := 1, slots := 10, locals := 43 } N0 t0 D cy S [.ref u] (fun r S' => ∃ q, q ∉ zL S ∧ r = some q ∧ S' = zPq (zNa S q 19 10) 1 u (some q)) 1 10 := by
  refine zMq.of (cc := cJx4a65c_grow_d5877) (maxL := 1) (ret := (some (.array (.object "java/lang/Object")))) (by decide) rfl (Nat.le_of_ble_eq_true rfl) ?_
  intro p e s m args below meth c F G hr hlk hnm
  refine r_aload_n F dJx4a65c_grow_d5877_0 rfl ?_
  refine r_aload_n F dJx4a65c_grow_d5877_1 rfl ?_
  refine r_geti (ci := 0) (k := 2) (id := 2) (C := RJx4a65c) (T := TJx4a65c) (N := 3) F G rfl (by decide) (by decide) rfl (zinL inG0) (zin kf_Jx4a65c_48) (fun _ h9 => h9) dJx4a65c_grow_d5877_2 hua ?_
  refine r_iconst (v := 1) F dJx4a65c_grow_d5877_5 (by decide) ?_
  refine r_iadd F dJx4a65c_grow_d5877_6 ?_
  refine c_Vq (ci := 0) F G (k_grow1_first hua hE (by rw [hn]; decide)) (cwV 1 F.2.2.2.2 (zgV km_Jx4a65c_69 ki_Jx4a65c_grow_92f84 ke_Jx4a65c_Jx4a65c_grow_92f84 kn_Jx4a65c ko_Jx4a65c_grow_92f84) rfl rfl rfl ⟨rfl, hd_yJx4a65c_grow_92f84⟩ ⟨Nat.le_of_ble_eq_true rfl, Nat.le_of_ble_eq_true rfl⟩) rfl (by decide) hua rfl rfl (Nat.le_of_ble_eq_true rfl) dJx4a65c_grow_d5877_7 ⟨Nat.le_of_ble_eq_true rfl, Nat.le_of_ble_eq_true rfl⟩ (fun r1 S1 h1 => ?_)
  exact e_aret F hr (Or.inr ⟨_, rfl⟩) hlk h1 (by decide) (by decide) dJx4a65c_grow_d5877_10
set_option maxRecDepth 100000 in
set_option maxHeartbeats 4000000 in
theorem k_add3_first {l : Launch} {N0 t0 : Nat} {D : va_G} {cy : Nat → ClassId} {S : zS} {u v ci : Nat} {w : Int32} {r : vw_C} (hua : zA S u 0) (hE : zq S 1 u = some t0) (hn : zi S 2 u = 0) (hw : w = 0) (hva : zA S v ci) (hlt : ci < 13) (hc : vwCl[ci]? = some r) (hca : (r.1, "java/lang/Object") ∈ zCast) : zMv l yJx4a65c_add_72be8 (zws yJx4a65c_add_72be8 cJx4a65c_add_72be8 4 none) { frames := 3, cells := 1, slots := 10, locals := 63 } N0 t0 D cy S [.ref u, .ref v, .ref t0, .int w] (fun S' => zfr S S' (fun b => b = u) ∧ zi S' 2 u = 1) 1 10 := by
  subst hw
  refine zMv.of (cc := cJx4a65c_add_72be8) (maxL := 4) (ret := none) (by decide) rfl (Nat.le_of_ble_eq_true rfl) ?_
  intro p e s m args below meth c F G hr hlk hnm
  refine r_iload_n F dJx4a65c_add_72be8_0 rfl ?_
  refine r_aload_n F dJx4a65c_add_72be8_1 rfl ?_
  refine r_alenT F G dJx4a65c_add_72be8_2 ?_
  refine r_icmp_ne (tgt := 11) F dJx4a65c_add_72be8_3 (by decide) (fun h9 => absurd rfl h9) (fun _ => ?_)
  refine r_aload_n F dJx4a65c_add_72be8_6 rfl ?_
  refine c_Vq (ci := 0) F G (k_grow0_first hua hE hn) (cwV 0 F.2.2.2.2 (zgV km_Jx4a65c_129 ki_Jx4a65c_grow_d5877 ke_Jx4a65c_Jx4a65c_grow_d5877 kn_Jx4a65c ko_Jx4a65c_grow_d5877) rfl rfl rfl ⟨rfl, hd_yJx4a65c_grow_d5877⟩ ⟨Nat.le_of_ble_eq_true rfl, Nat.le_of_ble_eq_true rfl⟩) rfl (by decide) hua rfl rfl (Nat.le_of_ble_eq_true rfl) dJx4a65c_add_72be8_7 ⟨Nat.le_of_ble_eq_true rfl, Nat.le_of_ble_eq_true rfl⟩ (fun r7 S7 h7 => ?_)
  obtain ⟨q, hq, rfl, rfl⟩ := h7
  refine r_astore_n (x := q) F dJx4a65c_add_72be8_10 (by decide) ?_
  refine r_aload_n F dJx4a65c_add_72be8_11 rfl ?_
  refine r_iload_n F dJx4a65c_add_72be8_12 rfl ?_
  refine r_aload_n F dJx4a65c_add_72be8_13 rfl ?_
  refine r_ast_O (a := q) (v := v) F G (zA.naq (S := S) (j := 19) (n := 10)) (zA.na (S := S) (j := 19) (n := 10) hva hq) hlt hc hca (show vp_in 0 (va_up (zn S) q 10 q) from by rw [va_up_self]; exact vp_in_nI (n := 0) (by decide) (by decide)) dJx4a65c_add_72be8_14 ?_
  refine r_aload_n F dJx4a65c_add_72be8_15 rfl ?_
  refine r_iload_n F dJx4a65c_add_72be8_16 rfl ?_
  refine r_iconst (v := 1) F dJx4a65c_add_72be8_17 (by decide) ?_
  refine r_iadd F dJx4a65c_add_72be8_18 ?_
  refine r_puti (ci := 0) (k := 2) (id := 2) (C := RJx4a65c) (T := TJx4a65c) (N := 3) (ty := .int) (ty0 := tyJx4a65c) F G rfl (by decide) (by decide) rfl (zinL inG0) (zin kf_Jx4a65c_48) (fun _ h9 => h9) tyJx4a65c_ok nmJx4a65c rfl pd0_2 rfl rfl dJx4a65c_add_72be8_19 (zA.na (S := S) (j := 19) (n := 10) hua hq) ?_
  exact e_vret F hr hlk ⟨zfr.pi (zfr.rq (zfr.pq (zfr.na zfr.rf hq) (fun _ => rfl)) (fun e => absurd e hq)) (fun _ => rfl), (z2_s _ _ _ _).trans (by decide)⟩ (by decide) (by decide) dJx4a65c_add_72be8_22
set_option maxRecDepth 100000 in
set_option maxHeartbeats 4000000 in
theorem k_add_first {l : Launch} {N0 t0 : Nat} {D : va_G} {cy : Nat → ClassId} {S : zS} {u v ci : Nat} {r : vw_C} (hua : zA S u 0) (hE : zq S 1 u = some t0) (hn : zi S 2 u = 0) (hva : zA S v ci) (hlt : ci < 13) (hc : vwCl[ci]? = some r) (hca : (r.1, "java/lang/Object") ∈ zCast) : zMi l yJx4a65c_add_9ea2d (zws yJx4a65c_add_9ea2d cJx4a65c_add_9ea2d 2 (some .boolean)) { frames := 4, cells := 1, slots := 10, locals := 86 } N0 t0 D cy S [.ref u, .ref v] (fun r S' => zfr S S' (fun b => b = u) ∧ zi S' 2 u = 1) 1 10 := by
  refine zMi.of (cc := cJx4a65c_add_9ea2d) (maxL := 2) (ret := (some .boolean)) (by decide) rfl (Nat.le_of_ble_eq_true rfl) ?_
  intro p e s m args below meth c F G hr hlk hnm
  refine r_aload_n F dJx4a65c_add_9ea2d_0 rfl ?_
  refine r_dup F dJx4a65c_add_9ea2d_1 rfl ?_
  refine r_geti (ci := 0) (k := 0) (id := 0) (C := RJx4a65c) (T := TJx4a65c) (N := 3) F G rfl (by decide) (by decide) rfl (zinL inG0) (zin kf_Jx4a65c_63) (fun x9 h9 => u_same (F.2.2.2.2 (Cond.sameField "java/util/ArrayList" "java/util/AbstractList" "modCount" "I") (zin kx_sameField_java_util_ArrayList_java_util_AbstractList_modCount_I)) x9 h9) dJx4a65c_add_9ea2d_2 hua ?_
  refine r_iconst (v := 1) F dJx4a65c_add_9ea2d_5 (by decide) ?_
  refine r_iadd F dJx4a65c_add_9ea2d_6 ?_
  refine r_puti (ci := 0) (k := 0) (id := 0) (C := RJx4a65c) (T := TJx4a65c) (N := 3) (ty := .int) (ty0 := tyJx4a65c) F G rfl (by decide) (by decide) rfl (zinL inG0) (zin kf_Jx4a65c_63) (fun x9 h9 => u_same (F.2.2.2.2 (Cond.sameField "java/util/ArrayList" "java/util/AbstractList" "modCount" "I") (zin kx_sameField_java_util_ArrayList_java_util_AbstractList_modCount_I)) x9 h9) tyJx4a65c_ok nmJx4a65c rfl pd0_0 rfl rfl dJx4a65c_add_9ea2d_7 hua ?_
  have e1 : zq (zPi S 0 u (zi S 0 u + 1)) 1 u = some t0 := hE
  have e2 : zi (zPi S 0 u (zi S 0 u + 1)) 2 u = 0 := (zi_n (by decide)).trans hn
  have e3 : zA (zPi S 0 u (zi S 0 u + 1)) u 0 := hua
  have e4 : zA (zPi S 0 u (zi S 0 u + 1)) v ci := hva
  refine r_aload_n F dJx4a65c_add_9ea2d_10 rfl ?_
  refine r_aload_n F dJx4a65c_add_9ea2d_11 rfl ?_
  refine r_aload_n F dJx4a65c_add_9ea2d_12 rfl ?_
  refine r_getS (ci := 0) (k := 1) (id := 1) (C := RJx4a65c) (T := TJx4a65c) (N := 3) F G rfl (by decide) (by decide) rfl (zinL inG0) (zin kf_Jx4a65c_9) (fun _ h9 => h9) dJx4a65c_add_9ea2d_13 e3 e1 ?_
  refine r_aload_n F dJx4a65c_add_9ea2d_16 rfl ?_
  refine r_geti (ci := 0) (k := 2) (id := 2) (C := RJx4a65c) (T := TJx4a65c) (N := 3) F G rfl (by decide) (by decide) rfl (zinL inG0) (zin kf_Jx4a65c_48) (fun _ h9 => h9) dJx4a65c_add_9ea2d_17 e3 ?_
  refine c_Vv (ci := 0) F G (k_add3_first e3 e1 e2 e2 e4 hlt hc hca) (cwV 3 F.2.2.2.2 (zgV km_Jx4a65c_131 ki_Jx4a65c_add_72be8 ke_Jx4a65c_Jx4a65c_add_72be8 kn_Jx4a65c ko_Jx4a65c_add_72be8) rfl rfl rfl ⟨rfl, hd_yJx4a65c_add_72be8⟩ ⟨Nat.le_of_ble_eq_true rfl, Nat.le_of_ble_eq_true rfl⟩) rfl (by decide) e3 rfl rfl (Nat.le_of_ble_eq_true rfl) dJx4a65c_add_9ea2d_20 ⟨Nat.le_of_ble_eq_true rfl, Nat.le_of_ble_eq_true rfl⟩ (fun S20 h20 => ?_)
  refine r_iconst (v := 1) F dJx4a65c_add_9ea2d_23 (by decide) ?_
  exact e_zret F hr rfl hlk ⟨zfr.tr (zfr.pi zfr.rf (fun _ => rfl)) h20.1 (fun _ _ e => e), h20.2⟩ (by decide) (by decide) dJx4a65c_add_9ea2d_24
set_option maxRecDepth 100000 in
set_option maxHeartbeats 4000000 in
theorem k_object_first {l : Launch} {N0 t0 : Nat} {D : va_G} {cy : Nat → ClassId} {S : zS} (hl : l.stackTraces = false) {x u : Nat} (hx : zA S x 11) (hu : zq S 1100 x = some u) (hua : zA S u 0) (hE : zq S 1 u = some t0) (hn : zi S 2 u = 0) (hux : u ≠ x) : zTi l yX11_object (zws yX11_object cX11_object 1 (some .int)) { frames := 8, cells := 6, slots := 30, locals := 130 } N0 t0 D cy S [.ref x] (fun r S' => r = 0 ∧ zfr S S' (fun b => b = x ∨ b = u)) (fun E S' => False) 6 30 := by
  refine zTi.of (cc := cX11_object) (maxL := 1) (ret := (some .int)) (by decide) rfl (Nat.le_of_ble_eq_true rfl) ?_
  intro p e s m args below meth c F G hr hlk hnm htb
  refine r_aload_n F dX11_object_0 rfl ?_
  refine r_getS (ci := 11) (k := 0) (id := 1100) (C := RX11) (T := TX11) (N := 8) F G rfl (by decide) (by decide) rfl (zinL inG11) (zin kf_X11_10) (fun _ h9 => h9) dX11_object_1 hx hu ?_
  refine c_Fi (ci := 0) F G (k_ListSize hua) (va_cwF 0 F.2.2.2.2 (zgF km_X11_59 ke_Jx4a65c_Jxbd725_size ki_Jx4a65c_size_8abf5 kn_Jx4a65c ko_Jx4a65c_size_8abf5) rfl rfl rfl (G.2.2.2.2.1 (⟨"java/util/List", "size", "()I"⟩, yJx4a65c_size_8abf5) (List.mem_of_getElem? (i := 0) rfl)) hdF_size ⟨Nat.le_of_ble_eq_true rfl, Nat.le_of_ble_eq_true rfl⟩) rfl (by decide) hua rfl rfl (Nat.le_of_ble_eq_true rfl) dX11_object_4 ⟨Nat.le_of_ble_eq_true rfl, Nat.le_of_ble_eq_true rfl⟩ (fun r4 S4 h4 => ?_)
  obtain ⟨h4a, h4b⟩ := h4
  have h4bs := h4b.symm
  subst h4bs
  rw [hn] at h4a
  subst h4a
  refine r_bipush (v := 6) F dX11_object_9 (by decide) ?_
  refine t_Sv F G htb hlk (k_requireRoom hl _ _) (va_cwS 2 F.2.2.2.2 (zgS km_X11_65 ks_X11_requireRoom kn_X11 ko_X11_requireRoom) rfl rfl rfl hd_yX11_requireRoom ⟨Nat.le_of_ble_eq_true rfl, Nat.le_of_ble_eq_true rfl⟩) rfl rfl (Nat.le_of_ble_eq_true rfl) dX11_object_11 ⟨Nat.le_of_ble_eq_true rfl, Nat.le_of_ble_eq_true rfl⟩ (fun E S' h => absurd h.1 (by decide)) (Nat.le_of_ble_eq_true rfl) (Nat.le_of_ble_eq_true rfl) (fun S11 h11 => ?_)
  obtain ⟨h11a, h11b⟩ := h11
  have h11bs := h11b.symm
  subst h11bs
  refine r_aload_n F dX11_object_14 rfl ?_
  refine r_iconst (v := 0) F dX11_object_15 (by decide) ?_
  refine r_puti (ci := 11) (k := 6) (id := 1106) (C := RX11) (T := TX11) (N := 8) (ty := .boolean) (ty0 := tyX11) F G rfl (by decide) (by decide) rfl (zinL inG11) (zin kf_X11_51) (fun _ h9 => h9) tyX11_ok nmX11 rfl pd11_6 rfl rfl dX11_object_16 hx ?_
  have x1 : zA (zPi S 1106 x 0) x 11 := hx
  have x2 : zq (zPi S 1106 x 0) 1100 x = some u := hu
  have x3 : zA (zPi S 1106 x 0) u 0 := hua
  have x4 : zi (zPi S 1106 x 0) 2 u = 0 := (zi_n (by decide)).trans hn
  have x5 : zq (zPi S 1106 x 0) 1 u = some t0 := hE
  have x6 : zfr S (zPi S 1106 x 0) (fun b => b = x ∨ b = u) := zfr.pi zfr.rf (fun _ => Or.inl rfl)
  generalize zPi S 1106 x 0 = Sa at x1 x2 x3 x4 x5 x6 ⊢
  refine r_aload_n F dX11_object_19 rfl ?_
  refine r_getS (ci := 11) (k := 0) (id := 1100) (C := RX11) (T := TX11) (N := 8) F G rfl (by decide) (by decide) rfl (zinL inG11) (zin kf_X11_10) (fun _ h9 => h9) dX11_object_20 x1 x2 ?_
  refine r_new (ci := 10) (C := RX9) (T := TX9) (N := 3) (ty0 := tyX9) F G rfl (by decide) (zinL inG10) tyX9_ok dvG10 (zin kc_X11_69) (zin kb_X9) (zin kn_X9) (by decide) (by decide) dX11_object_23 (fun q23 hq23 => ?_)
  refine r_dup F dX11_object_26 rfl ?_
  refine c_Nv F G (k_UnitInit (S := zNo Sa q23 10) (a := q23) zA.noq zdf.no) ⟨va_cnB 0 F.2.2.2.2 (zgI ko_X9_init) rfl rfl rfl (G.2.2.2.1 (RX11, 71, yX9_init, RX11) (List.mem_of_getElem? (i := 5) rfl)) (F.2.2.2.2 _ (zin kn_X9)) hd_yX9_init ⟨Nat.le_of_ble_eq_true rfl, Nat.le_of_ble_eq_true rfl⟩, rfl, F.2.2.2.2 _ (zin ki_X9_init)⟩ rfl rfl (Nat.le_of_ble_eq_true rfl) dX11_object_27 ⟨Nat.le_of_ble_eq_true rfl, Nat.le_of_ble_eq_true rfl⟩ (fun Sb hb => ?_)
  have f1 : zfr Sa Sb (fun b => b = q23) := zfr.tr (zfr.no zfr.rf hq23) hb.1 (fun _ _ e => e)
  have nx : x ≠ q23 := fun e => hq23 (e ▸ x1.1)
  have nu : u ≠ q23 := fun e => hq23 (e ▸ x3.1)
  have y1 : zA Sb x 11 := f1.al x1
  have y3 : zA Sb u 0 := f1.al x3
  have y2 : zq Sb 1100 x = some u := ((f1.sm x1.1 nx).2.1 _).trans x2
  have y4 : zi Sb 2 u = 0 := ((f1.sm x3.1 nu).1 _).trans x4
  have y5 : zq Sb 1 u = some t0 := ((f1.sm x3.1 nu).2.1 _).trans x5
  have y6 : zfr S Sb (fun b => b = x ∨ b = u) := zfr.tr x6 f1 (fun b hb e => absurd (e ▸ (x6 b hb).1) hq23)
  have y7 : zA Sb q23 10 := hb.1.al zA.noq
  refine c_Fi (ci := 0) F G (k_add_first y3 y5 y4 y7 (by decide) rfl (List.mem_of_getElem? (i := 9) rfl)) (va_cwF 1 F.2.2.2.2 (zgF km_X11_72 ke_Jx4a65c_Jxbd725_add ki_Jx4a65c_add_9ea2d kn_Jx4a65c ko_Jx4a65c_add_9ea2d) rfl rfl rfl (G.2.2.2.2.1 (⟨"java/util/List", "add", "(Ljava/lang/Object;)Z"⟩, yJx4a65c_add_9ea2d) (List.mem_of_getElem? (i := 3) rfl)) hdF_add ⟨Nat.le_of_ble_eq_true rfl, Nat.le_of_ble_eq_true rfl⟩) rfl (by decide) y3 rfl rfl (Nat.le_of_ble_eq_true rfl) dX11_object_30 ⟨Nat.le_of_ble_eq_true rfl, Nat.le_of_ble_eq_true rfl⟩ (fun r30 Sc hc30 => ?_)
  have z1 : zA Sc x 11 := hc30.1.al y1
  have z3 : zA Sc u 0 := hc30.1.al y3
  have z4 : zq Sc 1100 x = some u := ((hc30.1.sm y1.1 (fun e => hux e.symm)).2.1 _).trans y2
  have z6 : zfr S Sc (fun b => b = x ∨ b = u) := zfr.tr y6 hc30.1 (fun _ _ e => Or.inr e)
  refine r_pop F dX11_object_35 rfl ?_
  refine r_aload_n F dX11_object_36 rfl ?_
  refine r_getS (ci := 11) (k := 0) (id := 1100) (C := RX11) (T := TX11) (N := 8) F G rfl (by decide) (by decide) rfl (zinL inG11) (zin kf_X11_10) (fun _ h9 => h9) dX11_object_37 z1 z4 ?_
  refine c_Fi (ci := 0) F G (k_ListSize z3) (va_cwF 0 F.2.2.2.2 (zgF km_X11_59 ke_Jx4a65c_Jxbd725_size ki_Jx4a65c_size_8abf5 kn_Jx4a65c ko_Jx4a65c_size_8abf5) rfl rfl rfl (G.2.2.2.2.1 (⟨"java/util/List", "size", "()I"⟩, yJx4a65c_size_8abf5) (List.mem_of_getElem? (i := 0) rfl)) hdF_size ⟨Nat.le_of_ble_eq_true rfl, Nat.le_of_ble_eq_true rfl⟩) rfl (by decide) z3 rfl rfl (Nat.le_of_ble_eq_true rfl) dX11_object_40 ⟨Nat.le_of_ble_eq_true rfl, Nat.le_of_ble_eq_true rfl⟩ (fun r40 S40 h40 => ?_)
  obtain ⟨h40a, h40b⟩ := h40
  have h40bs := h40b.symm
  subst h40bs
  refine r_iconst (v := 1) F dX11_object_45 (by decide) ?_
  refine r_isub F dX11_object_46 ?_
  exact x_iret F hr hlk ⟨by rw [h40a, hc30.2]; decide, z6⟩ (by decide) (by decide) dX11_object_47
