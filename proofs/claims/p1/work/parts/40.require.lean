set_option maxRecDepth 100000 in
set_option maxHeartbeats 4000000 in
theorem k_requireState {l : Launch} {N0 t0 : Nat} {D : va_G} {cy : Nat → ClassId} {S : zS} (hl : l.stackTraces = false) (b : Int32) : zTv l yX11_requireState (zws yX11_requireState cX11_requireState 1 none) { frames := 6, cells := 1, slots := 6, locals := 82 } N0 t0 D cy S [.int b] (fun S' => b ≠ 0 ∧ S' = S) (fun E S' => b = 0 ∧ E = zISE ∧ S' = S) 1 6 := by
  refine zTv.of (cc := cX11_requireState) (maxL := 1) (ret := none) (by decide) rfl (Nat.le_of_ble_eq_true rfl) ?_
  intro p e s m args below meth c F G hr hlk hnm htb
  refine r_iload_n F dX11_requireState_0 rfl ?_
  refine r_if_ne (tgt := 15) F dX11_requireState_1 (by decide) (fun c1 => ?_) (fun c1 => ?_)
  · exact x_vret F hr hlk ⟨c1, rfl⟩ (by decide) (by decide) dX11_requireState_15
  · exact z_throw (cls := zISE) (text := (zStr.getD 1 (0, "")).2) F G hl htb hlk (by decide +kernel) (by decide +kernel) kc_X11_262 kn_IllegalStateException (List.mem_of_getElem? (i := 1) rfl) zat_S zat_S2 (List.mem_of_getElem? (i := 1) rfl) zat_S3 dX11_requireState_4 dX11_requireState_7 dX11_requireState_8 dX11_requireState_11 dX11_requireState_14 (by decide) (Nat.le_of_ble_eq_true rfl) (by decide) (by decide) ⟨c1, rfl, rfl⟩ (by decide) (by decide)
set_option maxRecDepth 100000 in
set_option maxHeartbeats 4000000 in
theorem k_require {l : Launch} {N0 t0 : Nat} {D : va_G} {cy : Nat → ClassId} {S : zS} (hl : l.stackTraces = false) (b : Int32) : zTv l yX11_require (zws yX11_require cX11_require 1 none) { frames := 6, cells := 1, slots := 6, locals := 82 } N0 t0 D cy S [.int b] (fun S' => b ≠ 0 ∧ S' = S) (fun E S' => b = 0 ∧ E = zIAE ∧ S' = S) 1 6 := by
  refine zTv.of (cc := cX11_require) (maxL := 1) (ret := none) (by decide) rfl (Nat.le_of_ble_eq_true rfl) ?_
  intro p e s m args below meth c F G hr hlk hnm htb
  refine r_iload_n F dX11_require_0 rfl ?_
  refine r_if_ne (tgt := 15) F dX11_require_1 (by decide) (fun c1 => ?_) (fun c1 => ?_)
  · exact x_vret F hr hlk ⟨c1, rfl⟩ (by decide) (by decide) dX11_require_15
  · exact z_throw (cls := zIAE) (text := (zStr.getD 0 (0, "")).2) F G hl htb hlk (by decide +kernel) (by decide +kernel) kc_X11_255 kn_IllegalArgumentException (List.mem_of_getElem? (i := 0) rfl) zat_A zat_A2 (List.mem_of_getElem? (i := 0) rfl) zat_A3 dX11_require_4 dX11_require_7 dX11_require_8 dX11_require_11 dX11_require_14 (by decide) (Nat.le_of_ble_eq_true rfl) (by decide) (by decide) ⟨c1, rfl, rfl⟩ (by decide) (by decide)
set_option maxRecDepth 100000 in
set_option maxHeartbeats 4000000 in
theorem k_requireRoom {l : Launch} {N0 t0 : Nat} {D : va_G} {cy : Nat → ClassId} {S : zS} (hl : l.stackTraces = false) (a b : Int32) : zTv l yX11_requireRoom (zws yX11_requireRoom cX11_requireRoom 2 none) { frames := 7, cells := 1, slots := 6, locals := 102 } N0 t0 D cy S [.int a, .int b] (fun S' => ¬ b ≤ a ∧ S' = S) (fun E S' => b ≤ a ∧ E = zISE ∧ S' = S) 1 6 := by
  refine zTv.of (cc := cX11_requireRoom) (maxL := 2) (ret := none) (by decide) rfl (Nat.le_of_ble_eq_true rfl) ?_
  intro p e s m args below meth c F G hr hlk hnm htb
  refine r_iload_n F dX11_requireRoom_0 rfl ?_
  refine r_iload_n F dX11_requireRoom_1 rfl ?_
  refine r_icmp_ge (tgt := 9) F dX11_requireRoom_2 (by decide) (fun c2 => ?_) (fun c2 => ?_)
  · refine r_iconst (v := 0) F dX11_requireRoom_9 (by decide) ?_
    refine t_Sv F G htb hlk (k_requireState hl _) (va_cwS 1 F.2.2.2.2 (zgS km_X11_150 ks_X11_requireState kn_X11 ko_X11_requireState) rfl rfl rfl hd_yX11_requireState ⟨Nat.le_of_ble_eq_true rfl, Nat.le_of_ble_eq_true rfl⟩) rfl rfl (Nat.le_of_ble_eq_true rfl) dX11_requireRoom_10 ⟨Nat.le_of_ble_eq_true rfl, Nat.le_of_ble_eq_true rfl⟩ (fun E S' h => by first | exact ⟨c2, h.2⟩ | exact absurd h.1 (by decide)) (Nat.le_of_ble_eq_true rfl) (Nat.le_of_ble_eq_true rfl) (fun S1 h1 => ?_)
    first | exact absurd rfl h1.1 | exact x_vret F hr hlk ⟨c2, h1.2⟩ (by decide) (by decide) dX11_requireRoom_13
  · refine r_iconst (v := 1) F dX11_requireRoom_5 (by decide) ?_
    refine r_goto (tgt := 10) F dX11_requireRoom_6 (by decide) ?_
    refine t_Sv F G htb hlk (k_requireState hl _) (va_cwS 1 F.2.2.2.2 (zgS km_X11_150 ks_X11_requireState kn_X11 ko_X11_requireState) rfl rfl rfl hd_yX11_requireState ⟨Nat.le_of_ble_eq_true rfl, Nat.le_of_ble_eq_true rfl⟩) rfl rfl (Nat.le_of_ble_eq_true rfl) dX11_requireRoom_10 ⟨Nat.le_of_ble_eq_true rfl, Nat.le_of_ble_eq_true rfl⟩ (fun E S' h => by first | exact ⟨c2, h.2⟩ | exact absurd h.1 (by decide)) (Nat.le_of_ble_eq_true rfl) (Nat.le_of_ble_eq_true rfl) (fun S1 h1 => ?_)
    first | exact absurd rfl h1.1 | exact x_vret F hr hlk ⟨c2, h1.2⟩ (by decide) (by decide) dX11_requireRoom_13
set_option maxRecDepth 100000 in
set_option maxHeartbeats 4000000 in
theorem k_requireWithin {l : Launch} {N0 t0 : Nat} {D : va_G} {cy : Nat → ClassId} {S : zS} (hl : l.stackTraces = false) (a b : Int32) : zTv l yX11_requireWithin (zws yX11_requireWithin cX11_requireWithin 2 none) { frames := 7, cells := 1, slots := 6, locals := 102 } N0 t0 D cy S [.int a, .int b] (fun S' => (¬ a < 0 ∧ a ≤ b) ∧ S' = S) (fun E S' => ¬ (¬ a < 0 ∧ a ≤ b) ∧ E = zIAE ∧ S' = S) 1 6 := by
  refine zTv.of (cc := cX11_requireWithin) (maxL := 2) (ret := none) (by decide) rfl (Nat.le_of_ble_eq_true rfl) ?_
  intro p e s m args below meth c F G hr hlk hnm htb
  refine r_iload_n F dX11_requireWithin_0 rfl ?_
  refine r_if_lt (tgt := 13) F dX11_requireWithin_1 (by decide) (fun c1 => ?_) (fun c1 => ?_)
  · refine r_iconst (v := 0) F dX11_requireWithin_13 (by decide) ?_
    refine t_Sv F G htb hlk (k_require hl _) (va_cwS 1 F.2.2.2.2 (zgS km_X11_102 ks_X11_require kn_X11 ko_X11_require) rfl rfl rfl hd_yX11_require ⟨Nat.le_of_ble_eq_true rfl, Nat.le_of_ble_eq_true rfl⟩) rfl rfl (Nat.le_of_ble_eq_true rfl) dX11_requireWithin_14 ⟨Nat.le_of_ble_eq_true rfl, Nat.le_of_ble_eq_true rfl⟩ (fun E S' h => by first | exact ⟨fun h5 => h5.1 c1, h.2⟩ | exact ⟨fun h5 => absurd c6 (Int32.not_lt.mpr h5.2), h.2⟩ | exact absurd h.1 (by decide)) (Nat.le_of_ble_eq_true rfl) (Nat.le_of_ble_eq_true rfl) (fun S1 h1 => ?_)
    first | exact absurd rfl h1.1 | exact x_vret F hr hlk ⟨⟨c1, Int32.not_lt.mp c6⟩, h1.2⟩ (by decide) (by decide) dX11_requireWithin_17
  · refine r_iload_n F dX11_requireWithin_4 rfl ?_
    refine r_iload_n F dX11_requireWithin_5 rfl ?_
    refine r_icmp_gt (tgt := 13) F dX11_requireWithin_6 (by decide) (fun c6 => ?_) (fun c6 => ?_)
    · refine r_iconst (v := 0) F dX11_requireWithin_13 (by decide) ?_
      refine t_Sv F G htb hlk (k_require hl _) (va_cwS 1 F.2.2.2.2 (zgS km_X11_102 ks_X11_require kn_X11 ko_X11_require) rfl rfl rfl hd_yX11_require ⟨Nat.le_of_ble_eq_true rfl, Nat.le_of_ble_eq_true rfl⟩) rfl rfl (Nat.le_of_ble_eq_true rfl) dX11_requireWithin_14 ⟨Nat.le_of_ble_eq_true rfl, Nat.le_of_ble_eq_true rfl⟩ (fun E S' h => by first | exact ⟨fun h5 => h5.1 c1, h.2⟩ | exact ⟨fun h5 => absurd c6 (Int32.not_lt.mpr h5.2), h.2⟩ | exact absurd h.1 (by decide)) (Nat.le_of_ble_eq_true rfl) (Nat.le_of_ble_eq_true rfl) (fun S1 h1 => ?_)
      first | exact absurd rfl h1.1 | exact x_vret F hr hlk ⟨⟨c1, Int32.not_lt.mp c6⟩, h1.2⟩ (by decide) (by decide) dX11_requireWithin_17
    · refine r_iconst (v := 1) F dX11_requireWithin_9 (by decide) ?_
      refine r_goto (tgt := 14) F dX11_requireWithin_10 (by decide) ?_
      refine t_Sv F G htb hlk (k_require hl _) (va_cwS 1 F.2.2.2.2 (zgS km_X11_102 ks_X11_require kn_X11 ko_X11_require) rfl rfl rfl hd_yX11_require ⟨Nat.le_of_ble_eq_true rfl, Nat.le_of_ble_eq_true rfl⟩) rfl rfl (Nat.le_of_ble_eq_true rfl) dX11_requireWithin_14 ⟨Nat.le_of_ble_eq_true rfl, Nat.le_of_ble_eq_true rfl⟩ (fun E S' h => by first | exact ⟨fun h5 => h5.1 c1, h.2⟩ | exact ⟨fun h5 => absurd c6 (Int32.not_lt.mpr h5.2), h.2⟩ | exact absurd h.1 (by decide)) (Nat.le_of_ble_eq_true rfl) (Nat.le_of_ble_eq_true rfl) (fun S1 h1 => ?_)
      first | exact absurd rfl h1.1 | exact x_vret F hr hlk ⟨⟨c1, Int32.not_lt.mp c6⟩, h1.2⟩ (by decide) (by decide) dX11_requireWithin_17
