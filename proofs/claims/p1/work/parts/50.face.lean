set_option maxRecDepth 100000 in
set_option maxHeartbeats 4000000 in
theorem k_unitAt_out {l : Launch} {N0 t0 : Nat} {D : va_G} {cy : Nat → ClassId} {S : zS} (hl : l.stackTraces = false) {x : Nat} {o : Int32} (hx : zA S x 11) {u : Nat} (hu : zq S 1100 x = some u) (hua : zA S u 0) (ho : o < 0 ∨ zi S 2 u ≤ o) : zTq l yX11_unitAt (zws yX11_unitAt cX11_unitAt 2 (some (.object "ObjectLinker$Unit"))) { frames := 7, cells := 1, slots := 6, locals := 102 } N0 t0 D cy S [.ref x, .int o] (fun _ _ => False) (fun E S' => E = zIAE ∧ S' = S) 1 6 := by
  refine zTq.of (cc := cX11_unitAt) (maxL := 2) (ret := (some (.object "ObjectLinker$Unit"))) (by decide) rfl (Nat.le_of_ble_eq_true rfl) ?_
  intro p e s m args below meth c F G hr hlk hnm htb
  refine r_iload_n F dX11_unitAt_0 rfl ?_
  refine r_if_lt (tgt := 21) F dX11_unitAt_1 (by decide) (fun c1 => ?_) (fun c1 => ?_)
  · refine r_iconst (v := 0) F dX11_unitAt_21 (by decide) ?_
    refine t_Sv F G htb hlk (k_require hl _) (va_cwS 1 F.2.2.2.2 (zgS km_X11_102 ks_X11_require kn_X11 ko_X11_require) rfl rfl rfl hd_yX11_require ⟨Nat.le_of_ble_eq_true rfl, Nat.le_of_ble_eq_true rfl⟩) rfl rfl (Nat.le_of_ble_eq_true rfl) dX11_unitAt_22 ⟨Nat.le_of_ble_eq_true rfl, Nat.le_of_ble_eq_true rfl⟩ (fun E S' h => h.2) (Nat.le_of_ble_eq_true rfl) (Nat.le_of_ble_eq_true rfl) (fun S1 h1 => ?_)
    exact absurd rfl h1.1
  · refine r_iload_n F dX11_unitAt_4 rfl ?_
    refine r_aload_n F dX11_unitAt_5 rfl ?_
    refine r_getS (ci := 11) (k := 0) (id := 1100) (C := RX11) (T := TX11) (N := 8) F G rfl (by decide) (by decide) rfl (zinL inG11) (zin kf_X11_10) (fun _ h9 => h9) dX11_unitAt_6 hx hu ?_
    refine c_Fi (ci := 0) F G (k_ListSize hua) (va_cwF 0 F.2.2.2.2 (zgF km_X11_59 ke_Jx4a65c_Jxbd725_size ki_Jx4a65c_size_8abf5 kn_Jx4a65c ko_Jx4a65c_size_8abf5) rfl rfl rfl (G.2.2.2.2.1 (⟨"java/util/List", "size", "()I"⟩, yJx4a65c_size_8abf5) (List.mem_of_getElem? (i := 0) rfl)) hdF_size ⟨Nat.le_of_ble_eq_true rfl, Nat.le_of_ble_eq_true rfl⟩) rfl (by decide) hua rfl rfl (Nat.le_of_ble_eq_true rfl) dX11_unitAt_9 ⟨Nat.le_of_ble_eq_true rfl, Nat.le_of_ble_eq_true rfl⟩ (fun r9 S9 h9 => ?_)
    obtain ⟨h9a, h9b⟩ := h9
    subst h9b
    refine r_icmp_ge (tgt := 21) F dX11_unitAt_14 (by decide) (fun _ => ?_) (fun h9 => absurd (ho.elim (fun h => absurd h c1) (fun h => by rw [h9a]; exact h)) h9)
    refine r_iconst (v := 0) F dX11_unitAt_21 (by decide) ?_
    refine t_Sv F G htb hlk (k_require hl _) (va_cwS 1 F.2.2.2.2 (zgS km_X11_102 ks_X11_require kn_X11 ko_X11_require) rfl rfl rfl hd_yX11_require ⟨Nat.le_of_ble_eq_true rfl, Nat.le_of_ble_eq_true rfl⟩) rfl rfl (Nat.le_of_ble_eq_true rfl) dX11_unitAt_22 ⟨Nat.le_of_ble_eq_true rfl, Nat.le_of_ble_eq_true rfl⟩ (fun E S' h => h.2) (Nat.le_of_ble_eq_true rfl) (Nat.le_of_ble_eq_true rfl) (fun S1 h1 => ?_)
    exact absurd rfl h1.1
set_option maxRecDepth 100000 in
set_option maxHeartbeats 4000000 in
theorem k_routineAt_out {l : Launch} {N0 t0 : Nat} {D : va_G} {cy : Nat → ClassId} {S : zS} (hl : l.stackTraces = false) {x : Nat} {o f : Int32} (hx : zA S x 11) {u : Nat} (hu : zq S 1100 x = some u) (hua : zA S u 0) (ho : o < 0 ∨ zi S 2 u ≤ o) : zTq l yX11_routineAt (zws yX11_routineAt cX11_routineAt 4 (some (.object "ObjectLinker$Routine"))) { frames := 8, cells := 1, slots := 6, locals := 123 } N0 t0 D cy S [.ref x, .int o, .int f] (fun _ _ => False) (fun E S' => E = zIAE ∧ S' = S) 1 6 := by
  refine zTq.of (cc := cX11_routineAt) (maxL := 4) (ret := (some (.object "ObjectLinker$Routine"))) (by decide) rfl (Nat.le_of_ble_eq_true rfl) ?_
  intro p e s m args below meth c F G hr hlk hnm htb
  refine r_aload_n F dX11_routineAt_0 rfl ?_
  refine r_iload_n F dX11_routineAt_1 rfl ?_
  refine t_Vq (ci := 11) F G htb hlk (k_unitAt_out hl hx hu hua ho) (cwV 1 F.2.2.2.2 (zgV km_X11_76 ki_X11_unitAt ke_X11_X11_unitAt kn_X11 ko_X11_unitAt) rfl rfl rfl ⟨rfl, hd_yX11_unitAt⟩ ⟨Nat.le_of_ble_eq_true rfl, Nat.le_of_ble_eq_true rfl⟩) rfl (by decide) hx rfl rfl (Nat.le_of_ble_eq_true rfl) dX11_routineAt_2 ⟨Nat.le_of_ble_eq_true rfl, Nat.le_of_ble_eq_true rfl⟩ (fun E S' h => h) (Nat.le_of_ble_eq_true rfl) (Nat.le_of_ble_eq_true rfl) (fun r1 S1 h1 => ?_)
  exact h1.elim
set_option maxRecDepth 100000 in
set_option maxHeartbeats 4000000 in
theorem k_function_out {l : Launch} {N0 t0 : Nat} {D : va_G} {cy : Nat → ClassId} {S : zS} (hl : l.stackTraces = false) {x : Nat} {o : Int32} {p1 p2 p3 : Int32} (hx : zA S x 11) {u : Nat} (hu : zq S 1100 x = some u) (hua : zA S u 0) (ho : o < 0 ∨ zi S 2 u ≤ o) : zTi l yX11_function (zws yX11_function cX11_function 7 (some .int)) { frames := 8, cells := 1, slots := 6, locals := 123 } N0 t0 D cy S [.ref x, .int o, .int p1, .int p2, .int p3] (fun _ _ => False) (fun E S' => E = zIAE ∧ S' = S) 1 6 := by
  refine zTi.of (cc := cX11_function) (maxL := 7) (ret := (some .int)) (by decide) rfl (Nat.le_of_ble_eq_true rfl) ?_
  intro p e s m args below meth c F G hr hlk hnm htb
  refine r_aload_n F dX11_function_0 rfl ?_
  refine r_iload_n F dX11_function_1 rfl ?_
  refine t_Vq (ci := 11) F G htb hlk (k_unitAt_out hl hx hu hua ho) (cwV 1 F.2.2.2.2 (zgV km_X11_76 ki_X11_unitAt ke_X11_X11_unitAt kn_X11 ko_X11_unitAt) rfl rfl rfl ⟨rfl, hd_yX11_unitAt⟩ ⟨Nat.le_of_ble_eq_true rfl, Nat.le_of_ble_eq_true rfl⟩) rfl (by decide) hx rfl rfl (Nat.le_of_ble_eq_true rfl) dX11_function_2 ⟨Nat.le_of_ble_eq_true rfl, Nat.le_of_ble_eq_true rfl⟩ (fun E S' h => h) (Nat.le_of_ble_eq_true rfl) (Nat.le_of_ble_eq_true rfl) (fun r1 S1 h1 => ?_)
  exact h1.elim
set_option maxRecDepth 100000 in
set_option maxHeartbeats 4000000 in
theorem k_segment_out {l : Launch} {N0 t0 : Nat} {D : va_G} {cy : Nat → ClassId} {S : zS} (hl : l.stackTraces = false) {x : Nat} {o : Int32} {p1 p2 : Int32} (hx : zA S x 11) {u : Nat} (hu : zq S 1100 x = some u) (hua : zA S u 0) (ho : o < 0 ∨ zi S 2 u ≤ o) : zTi l yX11_segment (zws yX11_segment cX11_segment 6 (some .int)) { frames := 8, cells := 1, slots := 6, locals := 123 } N0 t0 D cy S [.ref x, .int o, .int p1, .int p2] (fun _ _ => False) (fun E S' => E = zIAE ∧ S' = S) 1 6 := by
  refine zTi.of (cc := cX11_segment) (maxL := 6) (ret := (some .int)) (by decide) rfl (Nat.le_of_ble_eq_true rfl) ?_
  intro p e s m args below meth c F G hr hlk hnm htb
  refine r_aload_n F dX11_segment_0 rfl ?_
  refine r_iload_n F dX11_segment_1 rfl ?_
  refine t_Vq (ci := 11) F G htb hlk (k_unitAt_out hl hx hu hua ho) (cwV 1 F.2.2.2.2 (zgV km_X11_76 ki_X11_unitAt ke_X11_X11_unitAt kn_X11 ko_X11_unitAt) rfl rfl rfl ⟨rfl, hd_yX11_unitAt⟩ ⟨Nat.le_of_ble_eq_true rfl, Nat.le_of_ble_eq_true rfl⟩) rfl (by decide) hx rfl rfl (Nat.le_of_ble_eq_true rfl) dX11_segment_2 ⟨Nat.le_of_ble_eq_true rfl, Nat.le_of_ble_eq_true rfl⟩ (fun E S' h => h) (Nat.le_of_ble_eq_true rfl) (Nat.le_of_ble_eq_true rfl) (fun r1 S1 h1 => ?_)
  exact h1.elim
set_option maxRecDepth 100000 in
set_option maxHeartbeats 4000000 in
theorem k_fill_out {l : Launch} {N0 t0 : Nat} {D : va_G} {cy : Nat → ClassId} {S : zS} (hl : l.stackTraces = false) {x : Nat} {o : Int32} {p1 p2 : Int32} {w : Int64} (hx : zA S x 11) {u : Nat} (hu : zq S 1100 x = some u) (hua : zA S u 0) (ho : o < 0 ∨ zi S 2 u ≤ o) : zTv l yX11_fill (zws yX11_fill cX11_fill 7 none) { frames := 8, cells := 1, slots := 6, locals := 123 } N0 t0 D cy S [.ref x, .int o, .int p1, .int p2, .long w] (fun _ => False) (fun E S' => E = zIAE ∧ S' = S) 1 6 := by
  refine zTv.of (cc := cX11_fill) (maxL := 7) (ret := none) (by decide) rfl (Nat.le_of_ble_eq_true rfl) ?_
  intro p e s m args below meth c F G hr hlk hnm htb
  refine r_aload_n F dX11_fill_0 rfl ?_
  refine r_iload_n F dX11_fill_1 rfl ?_
  refine t_Vq (ci := 11) F G htb hlk (k_unitAt_out hl hx hu hua ho) (cwV 1 F.2.2.2.2 (zgV km_X11_76 ki_X11_unitAt ke_X11_X11_unitAt kn_X11 ko_X11_unitAt) rfl rfl rfl ⟨rfl, hd_yX11_unitAt⟩ ⟨Nat.le_of_ble_eq_true rfl, Nat.le_of_ble_eq_true rfl⟩) rfl (by decide) hx rfl rfl (Nat.le_of_ble_eq_true rfl) dX11_fill_2 ⟨Nat.le_of_ble_eq_true rfl, Nat.le_of_ble_eq_true rfl⟩ (fun E S' h => h) (Nat.le_of_ble_eq_true rfl) (Nat.le_of_ble_eq_true rfl) (fun r1 S1 h1 => ?_)
  exact h1.elim
set_option maxRecDepth 100000 in
set_option maxHeartbeats 4000000 in
theorem k_symbol_out {l : Launch} {N0 t0 : Nat} {D : va_G} {cy : Nat → ClassId} {S : zS} (hl : l.stackTraces = false) {x : Nat} {o : Int32} {p1 p2 p3 p4 p5 : Int32} (hx : zA S x 11) {u : Nat} (hu : zq S 1100 x = some u) (hua : zA S u 0) (ho : o < 0 ∨ zi S 2 u ≤ o) : zTi l yX11_symbol (zws yX11_symbol cX11_symbol 11 (some .int)) { frames := 8, cells := 1, slots := 6, locals := 123 } N0 t0 D cy S [.ref x, .int o, .int p1, .int p2, .int p3, .int p4, .int p5] (fun _ _ => False) (fun E S' => E = zIAE ∧ S' = S) 1 6 := by
  refine zTi.of (cc := cX11_symbol) (maxL := 11) (ret := (some .int)) (by decide) rfl (Nat.le_of_ble_eq_true rfl) ?_
  intro p e s m args below meth c F G hr hlk hnm htb
  refine r_aload_n F dX11_symbol_0 rfl ?_
  refine r_iload_n F dX11_symbol_1 rfl ?_
  refine t_Vq (ci := 11) F G htb hlk (k_unitAt_out hl hx hu hua ho) (cwV 1 F.2.2.2.2 (zgV km_X11_76 ki_X11_unitAt ke_X11_X11_unitAt kn_X11 ko_X11_unitAt) rfl rfl rfl ⟨rfl, hd_yX11_unitAt⟩ ⟨Nat.le_of_ble_eq_true rfl, Nat.le_of_ble_eq_true rfl⟩) rfl (by decide) hx rfl rfl (Nat.le_of_ble_eq_true rfl) dX11_symbol_2 ⟨Nat.le_of_ble_eq_true rfl, Nat.le_of_ble_eq_true rfl⟩ (fun E S' h => h) (Nat.le_of_ble_eq_true rfl) (Nat.le_of_ble_eq_true rfl) (fun r1 S1 h1 => ?_)
  exact h1.elim
set_option maxRecDepth 100000 in
set_option maxHeartbeats 4000000 in
theorem k_meant_out {l : Launch} {N0 t0 : Nat} {D : va_G} {cy : Nat → ClassId} {S : zS} (hl : l.stackTraces = false) {x : Nat} {o : Int32} {p1 p2 : Int32} (hx : zA S x 11) {u : Nat} (hu : zq S 1100 x = some u) (hua : zA S u 0) (ho : o < 0 ∨ zi S 2 u ≤ o) : zTi l yX11_meant (zws yX11_meant cX11_meant 6 (some .int)) { frames := 8, cells := 1, slots := 6, locals := 123 } N0 t0 D cy S [.ref x, .int o, .int p1, .int p2] (fun _ _ => False) (fun E S' => E = zIAE ∧ S' = S) 1 6 := by
  refine zTi.of (cc := cX11_meant) (maxL := 6) (ret := (some .int)) (by decide) rfl (Nat.le_of_ble_eq_true rfl) ?_
  intro p e s m args below meth c F G hr hlk hnm htb
  refine r_aload_n F dX11_meant_0 rfl ?_
  refine r_iload_n F dX11_meant_1 rfl ?_
  refine t_Vq (ci := 11) F G htb hlk (k_unitAt_out hl hx hu hua ho) (cwV 1 F.2.2.2.2 (zgV km_X11_76 ki_X11_unitAt ke_X11_X11_unitAt kn_X11 ko_X11_unitAt) rfl rfl rfl ⟨rfl, hd_yX11_unitAt⟩ ⟨Nat.le_of_ble_eq_true rfl, Nat.le_of_ble_eq_true rfl⟩) rfl (by decide) hx rfl rfl (Nat.le_of_ble_eq_true rfl) dX11_meant_2 ⟨Nat.le_of_ble_eq_true rfl, Nat.le_of_ble_eq_true rfl⟩ (fun E S' h => h) (Nat.le_of_ble_eq_true rfl) (Nat.le_of_ble_eq_true rfl) (fun r1 S1 h1 => ?_)
  exact h1.elim
set_option maxRecDepth 100000 in
set_option maxHeartbeats 4000000 in
theorem k_code_out {l : Launch} {N0 t0 : Nat} {D : va_G} {cy : Nat → ClassId} {S : zS} (hl : l.stackTraces = false) {x : Nat} {o : Int32} {p1 p2 p3 : Int32} (hx : zA S x 11) {u : Nat} (hu : zq S 1100 x = some u) (hua : zA S u 0) (ho : o < 0 ∨ zi S 2 u ≤ o) : zTi l yX11_code (zws yX11_code cX11_code 6 (some .int)) { frames := 9, cells := 1, slots := 6, locals := 146 } N0 t0 D cy S [.ref x, .int o, .int p1, .int p2, .int p3] (fun _ _ => False) (fun E S' => E = zIAE ∧ S' = S) 1 6 := by
  refine zTi.of (cc := cX11_code) (maxL := 6) (ret := (some .int)) (by decide) rfl (Nat.le_of_ble_eq_true rfl) ?_
  intro p e s m args below meth c F G hr hlk hnm htb
  refine r_aload_n F dX11_code_0 rfl ?_
  refine r_iload_n F dX11_code_1 rfl ?_
  refine r_iload_n F dX11_code_2 rfl ?_
  refine t_Vq (ci := 11) F G htb hlk (k_routineAt_out hl hx hu hua ho) (cwV 2 F.2.2.2.2 (zgV km_X11_91 ki_X11_routineAt ke_X11_X11_routineAt kn_X11 ko_X11_routineAt) rfl rfl rfl ⟨rfl, hd_yX11_routineAt⟩ ⟨Nat.le_of_ble_eq_true rfl, Nat.le_of_ble_eq_true rfl⟩) rfl (by decide) hx rfl rfl (Nat.le_of_ble_eq_true rfl) dX11_code_3 ⟨Nat.le_of_ble_eq_true rfl, Nat.le_of_ble_eq_true rfl⟩ (fun E S' h => h) (Nat.le_of_ble_eq_true rfl) (Nat.le_of_ble_eq_true rfl) (fun r1 S1 h1 => ?_)
  exact h1.elim
set_option maxRecDepth 100000 in
set_option maxHeartbeats 4000000 in
theorem k_run_out {l : Launch} {N0 t0 : Nat} {D : va_G} {cy : Nat → ClassId} {S : zS} (hl : l.stackTraces = false) {x : Nat} {o : Int32} {p1 p2 : Int32} {w1 w2 : Int64} (hx : zA S x 11) {u : Nat} (hu : zq S 1100 x = some u) (hua : zA S u 0) (ho : o < 0 ∨ zi S 2 u ≤ o) : zTi l yX11_run (zws yX11_run cX11_run 9 (some .int)) { frames := 9, cells := 1, slots := 6, locals := 146 } N0 t0 D cy S [.ref x, .int o, .int p1, .long w1, .long w2, .int p2] (fun _ _ => False) (fun E S' => E = zIAE ∧ S' = S) 1 6 := by
  refine zTi.of (cc := cX11_run) (maxL := 9) (ret := (some .int)) (by decide) rfl (Nat.le_of_ble_eq_true rfl) ?_
  intro p e s m args below meth c F G hr hlk hnm htb
  refine r_aload_n F dX11_run_0 rfl ?_
  refine r_iload_n F dX11_run_1 rfl ?_
  refine r_iload_n F dX11_run_2 rfl ?_
  refine t_Vq (ci := 11) F G htb hlk (k_routineAt_out hl hx hu hua ho) (cwV 2 F.2.2.2.2 (zgV km_X11_91 ki_X11_routineAt ke_X11_X11_routineAt kn_X11 ko_X11_routineAt) rfl rfl rfl ⟨rfl, hd_yX11_routineAt⟩ ⟨Nat.le_of_ble_eq_true rfl, Nat.le_of_ble_eq_true rfl⟩) rfl (by decide) hx rfl rfl (Nat.le_of_ble_eq_true rfl) dX11_run_3 ⟨Nat.le_of_ble_eq_true rfl, Nat.le_of_ble_eq_true rfl⟩ (fun E S' h => h) (Nat.le_of_ble_eq_true rfl) (Nat.le_of_ble_eq_true rfl) (fun r1 S1 h1 => ?_)
  exact h1.elim
set_option maxRecDepth 100000 in
set_option maxHeartbeats 4000000 in
theorem k_place {l : Launch} {N0 t0 : Nat} {D : va_G} {cy : Nat → ClassId} {S : zS} {x : Nat} (hx : zA S x 11) : zMi l yX11_place (zws yX11_place cX11_place 1 (some .int)) { frames := 0, cells := 0, slots := 0, locals := 0 } N0 t0 D cy S [.ref x] (fun r S' => r = zi S 1107 x ∧ S' = S) 0 0 := by
  refine zMi.of (cc := cX11_place) (maxL := 1) (ret := (some .int)) (by decide) rfl (Nat.le_of_ble_eq_true rfl) ?_
  intro p e s m args below meth c F G hr hlk hnm
  refine r_aload_n F dX11_place_0 rfl ?_
  refine r_geti (ci := 11) (k := 7) (id := 1107) (C := RX11) (T := TX11) (N := 8) F G rfl (by decide) (by decide) rfl (zinL inG11) (zin kf_X11_55) (fun _ h9 => h9) dX11_place_1 hx ?_
  exact e_iret F hr hlk ⟨rfl, rfl⟩ (by decide) (by decide) dX11_place_4
set_option maxRecDepth 100000 in
set_option maxHeartbeats 4000000 in
theorem k_link_none {l : Launch} {N0 t0 : Nat} {D : va_G} {cy : Nat → ClassId} {S : zS} (hl : l.stackTraces = false) {x : Nat} (hx : zA S x 11) {u : Nat} (hu : zq S 1100 x = some u) (hua : zA S u 0) (hn : zi S 2 u = 0) : zTi l yX11_link (zws yX11_link cX11_link 3 (some .int)) { frames := 7, cells := 1, slots := 6, locals := 102 } N0 t0 D cy S [.ref x] (fun _ _ => False) (fun E S' => E = zISE ∧ S' = S) 1 6 := by
  refine zTi.of (cc := cX11_link) (maxL := 3) (ret := (some .int)) (by decide) rfl (Nat.le_of_ble_eq_true rfl) ?_
  intro p e s m args below meth c F G hr hlk hnm htb
  refine r_aload_n F dX11_link_0 rfl ?_
  refine r_getS (ci := 11) (k := 0) (id := 1100) (C := RX11) (T := TX11) (N := 8) F G rfl (by decide) (by decide) rfl (zinL inG11) (zin kf_X11_10) (fun _ h9 => h9) dX11_link_1 hx hu ?_
  refine c_Fi (ci := 0) F G (k_ListIsEmpty hua) (va_cwF 0 F.2.2.2.2 (zgF km_X11_146 ke_Jx4a65c_Jxbd725_isEmpty ki_Jx4a65c_isEmpty_aae02 kn_Jx4a65c ko_Jx4a65c_isEmpty_aae02) rfl rfl rfl (G.2.2.2.2.1 (⟨"java/util/List", "isEmpty", "()Z"⟩, yJx4a65c_isEmpty_aae02) (List.mem_of_getElem? (i := 1) rfl)) hdF_isEmpty ⟨Nat.le_of_ble_eq_true rfl, Nat.le_of_ble_eq_true rfl⟩) rfl (by decide) hua rfl rfl (Nat.le_of_ble_eq_true rfl) dX11_link_4 ⟨Nat.le_of_ble_eq_true rfl, Nat.le_of_ble_eq_true rfl⟩ (fun r4 S4 h4 => ?_)
  obtain ⟨h4a, h4b⟩ := h4
  subst h4b
  rw [if_pos hn] at h4a
  subst h4a
  refine r_if_ne (tgt := 16) F dX11_link_9 (by decide) (fun _ => ?_) (fun h9 => absurd h9 (by decide))
  refine r_iconst (v := 0) F dX11_link_16 (by decide) ?_
  refine t_Sv F G htb hlk (k_requireState hl _) (va_cwS 1 F.2.2.2.2 (zgS km_X11_150 ks_X11_requireState kn_X11 ko_X11_requireState) rfl rfl rfl hd_yX11_requireState ⟨Nat.le_of_ble_eq_true rfl, Nat.le_of_ble_eq_true rfl⟩) rfl rfl (Nat.le_of_ble_eq_true rfl) dX11_link_17 ⟨Nat.le_of_ble_eq_true rfl, Nat.le_of_ble_eq_true rfl⟩ (fun E S' h => h.2) (Nat.le_of_ble_eq_true rfl) (Nat.le_of_ble_eq_true rfl) (fun S1 h1 => ?_)
  exact absurd rfl h1.1
set_option maxRecDepth 100000 in
set_option maxHeartbeats 4000000 in
theorem k_count_un {l : Launch} {N0 t0 : Nat} {D : va_G} {cy : Nat → ClassId} {S : zS} (hl : l.stackTraces = false) {x : Nat} {w : Int32} (hx : zA S x 11) (hn : zi S 1106 x = 0) : zTi l yX11_count (zws yX11_count cX11_count 2 (some .int)) { frames := 8, cells := 2, slots := 12, locals := 130 } N0 t0 D cy S [.ref x, .int w] (fun _ _ => False) (fun E S' => E = (if ¬ w < 0 ∧ w ≤ 4 then zISE else zIAE) ∧ S' = S) 2 12 := by
  refine zTi.of (cc := cX11_count) (maxL := 2) (ret := (some .int)) (by decide) rfl (Nat.le_of_ble_eq_true rfl) ?_
  intro p e s m args below meth c F G hr hlk hnm htb
  refine r_iload_n F dX11_count_0 rfl ?_
  refine r_iconst (v := 4) F dX11_count_1 (by decide) ?_
  refine t_Sv F G htb hlk (k_requireWithin hl _ _) (va_cwS 2 F.2.2.2.2 (zgS km_X11_80 ks_X11_requireWithin kn_X11 ko_X11_requireWithin) rfl rfl rfl hd_yX11_requireWithin ⟨Nat.le_of_ble_eq_true rfl, Nat.le_of_ble_eq_true rfl⟩) rfl rfl (Nat.le_of_ble_eq_true rfl) dX11_count_2 ⟨Nat.le_of_ble_eq_true rfl, Nat.le_of_ble_eq_true rfl⟩ (fun E S' h => ⟨by rw [if_neg h.1]; exact h.2.1, h.2.2⟩) (Nat.le_of_ble_eq_true rfl) (Nat.le_of_ble_eq_true rfl) (fun S2 h2 => ?_)
  obtain ⟨h2a, h2b⟩ := h2
  subst h2b
  refine r_aload_n F dX11_count_5 rfl ?_
  refine r_geti (ci := 11) (k := 6) (id := 1106) (C := RX11) (T := TX11) (N := 8) F G rfl (by decide) (by decide) rfl (zinL inG11) (zin kf_X11_51) (fun _ h9 => h9) dX11_count_6 hx ?_
  refine t_Sv F G htb hlk (k_requireState hl _) (va_cwS 1 F.2.2.2.2 (zgS km_X11_150 ks_X11_requireState kn_X11 ko_X11_requireState) rfl rfl rfl hd_yX11_requireState ⟨Nat.le_of_ble_eq_true rfl, Nat.le_of_ble_eq_true rfl⟩) rfl rfl (Nat.le_of_ble_eq_true rfl) dX11_count_9 ⟨Nat.le_of_ble_eq_true rfl, Nat.le_of_ble_eq_true rfl⟩ (fun E S' h => ⟨by rw [if_pos h2a]; exact h.2.1, h.2.2⟩) (Nat.le_of_ble_eq_true rfl) (Nat.le_of_ble_eq_true rfl) (fun S1 h1 => ?_)
  exact absurd hn h1.1
set_option maxRecDepth 100000 in
set_option maxHeartbeats 4000000 in
theorem k_byteAt_un {l : Launch} {N0 t0 : Nat} {D : va_G} {cy : Nat → ClassId} {S : zS} (hl : l.stackTraces = false) {x : Nat} {i : Int32} (hx : zA S x 11) (hn : zi S 1106 x = 0) : zTi l yX11_byteAt (zws yX11_byteAt cX11_byteAt 2 (some .int)) { frames := 8, cells := 2, slots := 12, locals := 130 } N0 t0 D cy S [.ref x, .int i] (fun _ _ => False) (fun E S' => E = (if i < 0 then zIAE else zISE) ∧ S' = S) 2 12 := by
  refine zTi.of (cc := cX11_byteAt) (maxL := 2) (ret := (some .int)) (by decide) rfl (Nat.le_of_ble_eq_true rfl) ?_
  intro p e s m args below meth c F G hr hlk hnm htb
  refine r_iload_n F dX11_byteAt_0 rfl ?_
  refine r_if_lt (tgt := 29) F dX11_byteAt_1 (by decide) (fun c1 => ?_) (fun c1 => ?_)
  · refine r_iconst (v := 0) F dX11_byteAt_29 (by decide) ?_
    refine t_Sv F G htb hlk (k_require hl _) (va_cwS 1 F.2.2.2.2 (zgS km_X11_102 ks_X11_require kn_X11 ko_X11_require) rfl rfl rfl hd_yX11_require ⟨Nat.le_of_ble_eq_true rfl, Nat.le_of_ble_eq_true rfl⟩) rfl rfl (Nat.le_of_ble_eq_true rfl) dX11_byteAt_30 ⟨Nat.le_of_ble_eq_true rfl, Nat.le_of_ble_eq_true rfl⟩ (fun E S' h => by first | exact ⟨by rw [if_pos c1]; exact h.2.1, h.2.2⟩ | exact absurd h.1 (by decide)) (Nat.le_of_ble_eq_true rfl) (Nat.le_of_ble_eq_true rfl) (fun S2 h2 => ?_)
    exact absurd rfl h2.1
  · refine r_aload_n F dX11_byteAt_4 rfl ?_
    refine r_geti (ci := 11) (k := 6) (id := 1106) (C := RX11) (T := TX11) (N := 8) F G rfl (by decide) (by decide) rfl (zinL inG11) (zin kf_X11_51) (fun _ h9 => h9) dX11_byteAt_5 hx ?_
    refine r_if_eq (tgt := 25) F dX11_byteAt_8 (by decide) (fun _ => ?_) (fun h9 => absurd hn h9)
    refine r_iconst (v := 1) F dX11_byteAt_25 (by decide) ?_
    refine r_goto (tgt := 30) F dX11_byteAt_26 (by decide) ?_
    refine t_Sv F G htb hlk (k_require hl _) (va_cwS 1 F.2.2.2.2 (zgS km_X11_102 ks_X11_require kn_X11 ko_X11_require) rfl rfl rfl hd_yX11_require ⟨Nat.le_of_ble_eq_true rfl, Nat.le_of_ble_eq_true rfl⟩) rfl rfl (Nat.le_of_ble_eq_true rfl) dX11_byteAt_30 ⟨Nat.le_of_ble_eq_true rfl, Nat.le_of_ble_eq_true rfl⟩ (fun E S' h => by first | exact ⟨by rw [if_pos c1]; exact h.2.1, h.2.2⟩ | exact absurd h.1 (by decide)) (Nat.le_of_ble_eq_true rfl) (Nat.le_of_ble_eq_true rfl) (fun S2 h2 => ?_)
    obtain ⟨h2a, h2b⟩ := h2
    subst h2b
    refine r_aload_n F dX11_byteAt_33 rfl ?_
    refine r_geti (ci := 11) (k := 6) (id := 1106) (C := RX11) (T := TX11) (N := 8) F G rfl (by decide) (by decide) rfl (zinL inG11) (zin kf_X11_51) (fun _ h9 => h9) dX11_byteAt_34 hx ?_
    refine t_Sv F G htb hlk (k_requireState hl _) (va_cwS 1 F.2.2.2.2 (zgS km_X11_150 ks_X11_requireState kn_X11 ko_X11_requireState) rfl rfl rfl hd_yX11_requireState ⟨Nat.le_of_ble_eq_true rfl, Nat.le_of_ble_eq_true rfl⟩) rfl rfl (Nat.le_of_ble_eq_true rfl) dX11_byteAt_37 ⟨Nat.le_of_ble_eq_true rfl, Nat.le_of_ble_eq_true rfl⟩ (fun E S' h => ⟨by rw [if_neg c1]; exact h.2.1, h.2.2⟩) (Nat.le_of_ble_eq_true rfl) (Nat.le_of_ble_eq_true rfl) (fun S1 h1 => ?_)
    exact absurd hn h1.1
