set_option maxRecDepth 100000 in
set_option maxHeartbeats 4000000 in
theorem k_told {l : Launch} {N0 t0 : Nat} {D : va_G} {cy : Nat → ClassId} {S : zS} (hl : l.stackTraces = false) {x mm : Nat} {w : Int32} (hx : zA S x 11) (hmq : zq S 1105 x = some mm) (hmm : zA S mm 4) : zTl l yX11_told (zws yX11_told cX11_told 2 (some .long)) { frames := 8, cells := 1, slots := 6, locals := 125 } N0 t0 D cy S [.ref x, .int w] (fun r S' => (¬ w < 0 ∧ w ≤ 2) ∧ S' = S ∧ r = (if w = 0 then zl S 409 mm else if w = 1 then (zi S 410 mm).toInt64 else (zi S 411 mm).toInt64)) (fun E S' => ¬ (¬ w < 0 ∧ w ≤ 2) ∧ E = zIAE ∧ S' = S) 1 6 := by
  refine zTl.of (cc := cX11_told) (maxL := 2) (ret := (some .long)) (by decide) rfl (Nat.le_of_ble_eq_true rfl) ?_
  intro p e s m args below meth c F G hr hlk hnm htb
  refine r_iload_n F dX11_told_0 rfl ?_
  refine r_iconst (v := 2) F dX11_told_1 (by decide) ?_
  refine t_Sv F G htb hlk (k_requireWithin hl _ _) (va_cwS 2 F.2.2.2.2 (zgS km_X11_80 ks_X11_requireWithin kn_X11 ko_X11_requireWithin) rfl rfl rfl hd_yX11_requireWithin ⟨Nat.le_of_ble_eq_true rfl, Nat.le_of_ble_eq_true rfl⟩) rfl rfl (Nat.le_of_ble_eq_true rfl) dX11_told_2 ⟨Nat.le_of_ble_eq_true rfl, Nat.le_of_ble_eq_true rfl⟩ (fun E S' h => h) (Nat.le_of_ble_eq_true rfl) (Nat.le_of_ble_eq_true rfl) (fun S2 h2 => ?_)
  obtain ⟨h2a, h2b⟩ := h2
  have h2s := h2b.symm
  subst h2s
  refine r_iload_n F dX11_told_5 rfl ?_
  obtain ⟨j, hj, rfl⟩ := nI_of2 (M := 2) (n := 2) (by decide) h2a.1 h2a.2
  rcases (show j = 0 ∨ j = 1 ∨ j = 2 by omega) with rfl | rfl | rfl
  · refine r_lookup (off := 26) (tgt := 32) F dX11_told_6 (by decide) (by decide) (by decide) ?_
    refine r_aload_n F dX11_told_32 rfl ?_
    refine r_getS (ci := 11) (k := 5) (id := 1105) (C := RX11) (T := TX11) (N := 8) F G rfl (by decide) (by decide) rfl (zinL inG11) (zin kf_X11_47) (fun _ h9 => h9) dX11_told_33 hx hmq ?_
    refine r_getl (ci := 4) (k := 9) (id := 409) (C := RX3) (T := TX3) (N := 12) F G rfl (by decide) (by decide) rfl (zinL inG4) (zin kf_X11_218) (fun _ h9 => h9) dX11_told_36 hmm ?_
    exact x_lret F hr hlk ⟨h2a, rfl, by rw [if_pos (by decide)]⟩ (by decide) (by decide) dX11_told_39
  · refine r_lookup (off := 34) (tgt := 40) F dX11_told_6 (by decide) (by decide) (by decide) ?_
    refine r_aload_n F dX11_told_40 rfl ?_
    refine r_getS (ci := 11) (k := 5) (id := 1105) (C := RX11) (T := TX11) (N := 8) F G rfl (by decide) (by decide) rfl (zinL inG11) (zin kf_X11_47) (fun _ h9 => h9) dX11_told_41 hx hmq ?_
    refine r_geti (ci := 4) (k := 10) (id := 410) (C := RX3) (T := TX3) (N := 12) F G rfl (by decide) (by decide) rfl (zinL inG4) (zin kf_X11_222) (fun _ h9 => h9) dX11_told_44 hmm ?_
    refine r_i2l F dX11_told_47 ?_
    exact x_lret F hr hlk ⟨h2a, rfl, by rw [if_neg (by decide), if_pos (by decide)]⟩ (by decide) (by decide) dX11_told_48
  · refine r_lookup (off := 43) (tgt := 49) F dX11_told_6 (by decide) (by decide) (by decide) ?_
    refine r_aload_n F dX11_told_49 rfl ?_
    refine r_getS (ci := 11) (k := 5) (id := 1105) (C := RX11) (T := TX11) (N := 8) F G rfl (by decide) (by decide) rfl (zinL inG11) (zin kf_X11_47) (fun _ h9 => h9) dX11_told_50 hx hmq ?_
    refine r_geti (ci := 4) (k := 11) (id := 411) (C := RX3) (T := TX3) (N := 12) F G rfl (by decide) (by decide) rfl (zinL inG4) (zin kf_X11_225) (fun _ h9 => h9) dX11_told_53 hmm ?_
    refine r_i2l F dX11_told_56 ?_
    exact x_lret F hr hlk ⟨h2a, rfl, by rw [if_neg (by decide), if_neg (by decide)]⟩ (by decide) (by decide) dX11_told_57
set_option maxRecDepth 100000 in
set_option maxHeartbeats 4000000 in
theorem k_memory {l : Launch} {N0 t0 : Nat} {D : va_G} {cy : Nat → ClassId} {S : zS} (hl : l.stackTraces = false) {x mm : Nat} {w : Int32} (hx : zA S x 11) (hmq : zq S 1105 x = some mm) (hmm : zA S mm 4) {q : Nat} (hq : zq S 404 mm = some q) (hqa : zA S q 13) (hqn : zn S q = 1024) : zTi l yX11_memory (zws yX11_memory cX11_memory 2 (some .int)) { frames := 8, cells := 1, slots := 6, locals := 125 } N0 t0 D cy S [.ref x, .int w] (fun r S' => (¬ w < 0 ∧ w ≤ 1023) ∧ S' = S ∧ r = zri S q w.toNatClampNeg &&& 255) (fun E S' => ¬ (¬ w < 0 ∧ w ≤ 1023) ∧ E = zIAE ∧ S' = S) 1 6 := by
  refine zTi.of (cc := cX11_memory) (maxL := 2) (ret := (some .int)) (by decide) rfl (Nat.le_of_ble_eq_true rfl) ?_
  intro p e s m args below meth c F G hr hlk hnm htb
  refine r_iload_n F dX11_memory_0 rfl ?_
  refine r_sipush (v := 1023) F dX11_memory_1 (by decide) ?_
  refine t_Sv F G htb hlk (k_requireWithin hl _ _) (va_cwS 2 F.2.2.2.2 (zgS km_X11_80 ks_X11_requireWithin kn_X11 ko_X11_requireWithin) rfl rfl rfl hd_yX11_requireWithin ⟨Nat.le_of_ble_eq_true rfl, Nat.le_of_ble_eq_true rfl⟩) rfl rfl (Nat.le_of_ble_eq_true rfl) dX11_memory_4 ⟨Nat.le_of_ble_eq_true rfl, Nat.le_of_ble_eq_true rfl⟩ (fun E S' h => h) (Nat.le_of_ble_eq_true rfl) (Nat.le_of_ble_eq_true rfl) (fun S2 h2 => ?_)
  obtain ⟨h2a, h2b⟩ := h2
  have h2s := h2b.symm
  subst h2s
  have hin : vp_in w (zn S q) := by
    rw [hqn]
    obtain ⟨j, hj, rfl⟩ := nI_of2 (M := 1023) (n := 1023) (by decide) h2a.1 h2a.2
    exact vp_in_nI (by omega) (by decide)
  refine r_aload_n F dX11_memory_7 rfl ?_
  refine r_getS (ci := 11) (k := 5) (id := 1105) (C := RX11) (T := TX11) (N := 8) F G rfl (by decide) (by decide) rfl (zinL inG11) (zin kf_X11_47) (fun _ h9 => h9) dX11_memory_8 hx hmq ?_
  refine r_getS (ci := 4) (k := 4) (id := 404) (C := RX3) (T := TX3) (N := 12) F G rfl (by decide) (by decide) rfl (zinL inG4) (zin kf_X11_228) (fun _ h9 => h9) dX11_memory_11 hmm hq ?_
  refine r_iload_n F dX11_memory_14 rfl ?_
  refine r_bald F G hqa hin dX11_memory_15 ?_
  refine r_sipush (v := 255) F dX11_memory_16 (by decide) ?_
  refine r_iand F dX11_memory_19 ?_
  exact x_iret F hr hlk ⟨h2a, rfl, rfl⟩ (by decide) (by decide) dX11_memory_20
