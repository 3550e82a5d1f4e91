theorem plc_nn (Ss : List Nat) : plc Ss none = none := plc_none (fun j _ h => by cases h)
theorem slN_nn (Ss : List Nat) : slN Ss none = 0 := by
  unfold slN
  rw [plc_nn]
theorem src_mng {v : zV} {y z : Nat} (h : src v y = some z) : (v.1 1217 z = -1 → mng v y = none) ∧ (¬ v.1 1217 z = -1 → mng v y = some z) := by
  unfold src at h
  by_cases e : v.1 1216 y = 2
  · rw [if_pos e] at h
    cases h
    unfold mng
    rw [if_pos e]
    exact ⟨fun h => if_pos h, fun h => if_neg h⟩
  · rw [if_neg e, ← mng_or e] at h
    refine ⟨fun h9 => ?_, fun _ => h⟩
    exfalso
    rw [mng_or e] at h
    cases hs : fnd (ySt v (v.1 1214 y)) 96 with
    | some x =>
      rw [hs] at h
      cases h
      have h8 := (fnd_iff.mp hs).2.1
      unfold ySt at h8
      simp at h8
      exact h8.2 h9
    | none =>
      rw [hs] at h
      have h8 := (fnd_iff.mp (show fnd (yWk v (v.1 1214 y)) 96 = some z from h)).2.1
      unfold yWk at h8
      simp at h8
      exact h8.2 h9
theorem src_none {v : zV} {y : Nat} (h : src v y = none) : mng v y = none := by
  unfold src at h
  by_cases e : v.1 1216 y = 2
  · rw [if_pos e] at h
    cases h
  · rw [if_neg e, ← mng_or e] at h
    exact h
/-- the segments' addresses are known -/
def adK (v : zV) (W : zO) : Prop := ∀ g, g < 24 → g % 4 < cn v 1203 (g / 4) → oi W (800 + 4 * g) 802 = nI (rs (aS v g) (cn v 1212 g))
set_option maxRecDepth 100000 in
set_option maxHeartbeats 4000000 in
theorem c_address {l : Launch} {N0 t0 : Nat} {D : va_G} {cy : Nat → ClassId} {S : zS} {X : Nat → Prop} {S0 : zS} {ad : Nat → Nat} {W : zO} (hH : zH t0 X S0 ad W S) {v : zV} (hB : Bld v W) (hv : vRg v) (hD : vD v) (hSr : SrcOK v W) (hAd : adK v W) (hK : kEq v) {y a : Nat} (hy : y < 96) (ht : y % 16 < cn v 1204 (y / 16)) (ea : ad (cY y) = a) (hk1 : ¬ v.1 1215 y = 0) : zMi l yX8_address (zws yX8_address cX8_address 1 (some .int)) { frames := 0, cells := 0, slots := 0, locals := 0 } N0 t0 D cy S [.ref a] (fun r S' => r = nI (aO v y) ∧ S' = S) 0 0 := by
  refine zMi.of (cc := cX8_address) (maxL := 1) (ret := (some .int)) (by decide) rfl (Nat.le_of_ble_eq_true rfl) ?_
  intro p e s m args below meth c F G hr hlk hnm
  have hY := hB.2.2.2.2 y hy ht
  have A0 : zA S a 9 := hH.al hY.1 ea (kd_y y hy)
  have k9 : kd (cY y) < 13 := by rw [kd_y y hy]; decide
  have q7 := hH.q (id := 907) hY.1 ea k9
  rw [hSr y hy ht] at q7
  rcases hs : src v y with _ | z
  · rw [hs] at q7
    refine r_aload_n F dX8_address_0 rfl ?_
    refine r_getq (ci := 9) (k := 7) (id := 907) (C := RX8) (T := TX8) (N := 8) F G rfl (by decide) (by decide) rfl (zinL inG9) (zin kf_X8_39) (fun _ h9 => h9) dX8_address_1 A0 ?_
    rw [q7]
    refine r_ifnullN (tgt := 17) F dX8_address_4 (by decide) ?_
    refine r_iconst (v := 0) F dX8_address_17 (by decide) ?_
    refine r_goto (tgt := 39) F dX8_address_18 (by decide) ?_
    exact e_iret F hr hlk ⟨by unfold aO; rw [src_none hs]; rfl, rfl⟩ (by decide) (by decide) dX8_address_39
  · rw [hs] at q7
    obtain ⟨z1, z2⟩ := src_t hy ht hs
    have hZ := hB.2.2.2.2 z z1 z2
    have Z0 : zA S (ad (cY z)) 9 := hH.al hZ.1 rfl (kd_y z z1)
    have k99 : kd (cY z) < 13 := by rw [kd_y z z1]; decide
    have q5 := hH.q (id := 905) hZ.1 rfl k99
    rw [hZ.2.2.2.2.2.2.2] at q5
    have hkz : ¬ v.1 1215 z = 0 := by
      by_cases e : v.1 1217 z = -1
      · unfold src at hs
        by_cases e2 : v.1 1216 y = 2
        · rw [if_pos e2] at hs
          cases hs
          exact hk1
        · exfalso
          have h1 := (src_mng (show src v y = some z by unfold src; exact hs)).1 e
          rw [if_neg e2, ← mng_or e2, h1] at hs
          cases hs
      · rw [hK y hy ht z ((src_mng hs).2 e)]
        exact hk1
    by_cases hd : v.1 1217 z = -1
    · rw [if_neg (fun h9 => h9.2 hd)] at q5
      refine r_aload_n F dX8_address_0 rfl ?_
      refine r_getq (ci := 9) (k := 7) (id := 907) (C := RX8) (T := TX8) (N := 8) F G rfl (by decide) (by decide) rfl (zinL inG9) (zin kf_X8_39) (fun _ h9 => h9) dX8_address_1 A0 ?_
      rw [q7]
      refine r_ifnull F dX8_address_4 ?_
      refine r_aload_n F dX8_address_7 rfl ?_
      refine r_getq (ci := 9) (k := 7) (id := 907) (C := RX8) (T := TX8) (N := 8) F G rfl (by decide) (by decide) rfl (zinL inG9) (zin kf_X8_39) (fun _ h9 => h9) dX8_address_8 A0 ?_
      rw [q7]
      show zW p l e _ s m args below meth c _ N0 D cy _ _ _ S _ _ (.ref (ad (cY z)) :: _)
      refine r_getq (ci := 9) (k := 5) (id := 905) (C := RX8) (T := TX8) (N := 8) F G rfl (by decide) (by decide) rfl (zinL inG9) (zin kf_X8_26) (fun _ h9 => h9) dX8_address_11 Z0 ?_
      rw [q5]
      refine r_ifnonnullN F dX8_address_14 ?_
      refine r_iconst (v := 0) F dX8_address_17 (by decide) ?_
      refine r_goto (tgt := 39) F dX8_address_18 (by decide) ?_
      exact e_iret F hr hlk ⟨by unfold aO; rw [(src_mng hs).1 hd]; rfl, rfl⟩ (by decide) (by decide) dX8_address_39
    · rw [if_pos ⟨hkz, hd⟩] at q5
      obtain ⟨hd1, hd2⟩ := hD z z1 z2
      obtain ⟨d, ed, _, hd4⟩ := hd2.resolve_left hd
      have hd5 := hd4 hkz
      have hc4 := (rg_1203 hv (k := z / 16) (by omega)).2
      have ecd : cn v 1217 z = d := by unfold cn; rw [ed, nI_clamp (by omega)]
      have hg24 : (4 * (z / 16) + cn v 1217 z) < 24 := by omega
      have hgt : (4 * (z / 16) + cn v 1217 z) % 4 < cn v 1203 ((4 * (z / 16) + cn v 1217 z) / 4) := by rw [show (4 * (z / 16) + cn v 1217 z) / 4 = z / 16 by omega]; omega
      have hG := hB.2.2.2.1 _ hg24 hgt
      have hkg := kd_g (4 * (z / 16) + cn v 1217 z) hg24
      have G0 : zA S (ad (800 + 4 * (4 * (z / 16) + cn v 1217 z))) 8 := hH.al hG.1 rfl hkg.1
      have I8 : zi S 802 (ad (800 + 4 * (4 * (z / 16) + cn v 1217 z))) = nI (rs (aS v (4 * (z / 16) + cn v 1217 z)) (cn v 1212 (4 * (z / 16) + cn v 1217 z))) := (hH.i hG.1 rfl (by rw [hkg.1]; decide)).trans (hAd _ hg24 hgt)
      have I6 : zi S 906 (ad (cY z)) = nI (cn v 1218 z) := (hH.i hZ.1 rfl k99).trans (hZ.2.2.2.2.2.1.trans (rg_1218 hv z1).1)
      refine r_aload_n F dX8_address_0 rfl ?_
      refine r_getq (ci := 9) (k := 7) (id := 907) (C := RX8) (T := TX8) (N := 8) F G rfl (by decide) (by decide) rfl (zinL inG9) (zin kf_X8_39) (fun _ h9 => h9) dX8_address_1 A0 ?_
      rw [q7]
      refine r_ifnull F dX8_address_4 ?_
      refine r_aload_n F dX8_address_7 rfl ?_
      refine r_getq (ci := 9) (k := 7) (id := 907) (C := RX8) (T := TX8) (N := 8) F G rfl (by decide) (by decide) rfl (zinL inG9) (zin kf_X8_39) (fun _ h9 => h9) dX8_address_8 A0 ?_
      rw [q7]
      show zW p l e _ s m args below meth c _ N0 D cy _ _ _ S _ _ (.ref (ad (cY z)) :: _)
      refine r_getq (ci := 9) (k := 5) (id := 905) (C := RX8) (T := TX8) (N := 8) F G rfl (by decide) (by decide) rfl (zinL inG9) (zin kf_X8_26) (fun _ h9 => h9) dX8_address_11 Z0 ?_
      rw [q5]
      refine r_ifnonnull (tgt := 21) F dX8_address_14 (by decide) ?_
      refine r_aload_n F dX8_address_21 rfl ?_
      refine r_getq (ci := 9) (k := 7) (id := 907) (C := RX8) (T := TX8) (N := 8) F G rfl (by decide) (by decide) rfl (zinL inG9) (zin kf_X8_39) (fun _ h9 => h9) dX8_address_22 A0 ?_
      rw [q7]
      show zW p l e _ s m args below meth c _ N0 D cy _ _ _ S _ _ (.ref (ad (cY z)) :: _)
      refine r_getq (ci := 9) (k := 5) (id := 905) (C := RX8) (T := TX8) (N := 8) F G rfl (by decide) (by decide) rfl (zinL inG9) (zin kf_X8_26) (fun _ h9 => h9) dX8_address_25 Z0 ?_
      rw [q5]
      show zW p l e _ s m args below meth c _ N0 D cy _ _ _ S _ _ (.ref (ad (800 + 4 * (4 * (z / 16) + cn v 1217 z))) :: _)
      refine r_getiS (ci := 8) (k := 2) (id := 802) (C := RX7) (T := TX7) (N := 3) F G rfl (by decide) (by decide) rfl (zinL inG8) (zin kf_X8_43) (fun _ h9 => h9) dX8_address_28 G0 I8 ?_
      refine r_aload_n F dX8_address_31 rfl ?_
      refine r_getq (ci := 9) (k := 7) (id := 907) (C := RX8) (T := TX8) (N := 8) F G rfl (by decide) (by decide) rfl (zinL inG9) (zin kf_X8_39) (fun _ h9 => h9) dX8_address_32 A0 ?_
      rw [q7]
      show zW p l e _ s m args below meth c _ N0 D cy _ _ _ S _ _ (.ref (ad (cY z)) :: _)
      refine r_getiS (ci := 9) (k := 6) (id := 906) (C := RX8) (T := TX8) (N := 8) F G rfl (by decide) (by decide) rfl (zinL inG9) (zin kf_X8_30) (fun _ h9 => h9) dX8_address_35 Z0 I6 ?_
      refine r_iadd F dX8_address_38 ?_
      exact e_iret F hr hlk ⟨by unfold aO; rw [(src_mng hs).2 hd]; exact nI_add _ _, rfl⟩ (by decide) (by decide) dX8_address_39
set_option maxRecDepth 100000 in
set_option maxHeartbeats 4000000 in
theorem c_slot {l : Launch} {N0 t0 : Nat} {D : va_G} {cy : Nat → ClassId} {S : zS} {X : Nat → Prop} {S0 : zS} {ad : Nat → Nat} {W : zO} (hH : zH t0 X S0 ad W S) {v : zV} (hB : Bld v W) (hv : vRg v) (hD : vD v) (hSr : SrcOK v W) {Ss : List Nat} (hU : nuS v W Ss) {y a : Nat} (hy : y < 96) (ht : y % 16 < cn v 1204 (y / 16)) (ea : ad (cY y) = a) : zMi l yX8_slot (zws yX8_slot cX8_slot 2 (some .int)) { frames := 1, cells := 0, slots := 0, locals := 20 } N0 t0 D cy S [.ref a] (fun r S' => r = nI (slN Ss (tgt v y)) ∧ S' = S) 0 0 := by
  refine zMi.of (cc := cX8_slot) (maxL := 2) (ret := (some .int)) (by decide) rfl (Nat.le_of_ble_eq_true rfl) ?_
  intro p e s m args below meth c F G hr hlk hnm
  have hY := hB.2.2.2.2 y hy ht
  have A0 : zA S a 9 := hH.al hY.1 ea (kd_y y hy)
  have k9 : kd (cY y) < 13 := by rw [kd_y y hy]; decide
  refine r_aload_n F dX8_slot_0 rfl ?_
  refine c_Vq (ci := 9) F G (c_target hH hB hv hSr hy ht ea) (cwV 0 F.2.2.2.2 (zgV km_X8_48 ki_X8_target ke_X8_X8_target kn_X8 ko_X8_target) rfl rfl rfl ⟨rfl, hd_yX8_target⟩ ⟨Nat.le_of_ble_eq_true rfl, Nat.le_of_ble_eq_true rfl⟩) rfl (by decide) A0 rfl rfl (Nat.le_of_ble_eq_true rfl) dX8_slot_1 ⟨Nat.le_of_ble_eq_true rfl, Nat.le_of_ble_eq_true rfl⟩ (fun r1 S1 h1 => ?_)
  obtain ⟨er, es⟩ := h1
  have hs := es.symm
  subst hs
  subst er
  rcases hz : tgt v y with _ | g
  · refine r_astore_nQ (x := none) F dX8_slot_4 (by decide) ?_
    refine r_aload_nQ (x := none) F dX8_slot_5 rfl ?_
    refine r_ifnonnullN F dX8_slot_6 ?_
    refine r_iconst (v := 0) F dX8_slot_9 (by decide) ?_
    refine r_goto (tgt := 17) F dX8_slot_10 (by decide) ?_
    exact e_iret F hr hlk ⟨by rw [slN_nn]; rfl, rfl⟩ (by decide) (by decide) dX8_slot_17
  · obtain ⟨hg48, hgt⟩ := tgt_t hv hD hy ht hz
    have hR := hB.2.2.1 g hg48 hgt
    have hkr := (kd_r g hg48).1
    have G0 : zA S (ad (200 + 12 * g)) 7 := hH.al hR.1 rfl hkr
    have I0 : zi S 712 (ad (200 + 12 * g)) = nI (slN Ss (some g)) := (hH.i hR.1 rfl (by rw [hkr]; decide)).trans (hU.2 g hg48 hgt)
    refine r_astore_n (x := ad (200 + 12 * g)) F dX8_slot_4 (by decide) ?_
    refine r_aload_n F dX8_slot_5 rfl ?_
    refine r_ifnonnull (tgt := 13) F dX8_slot_6 (by decide) ?_
    refine r_aload_n F dX8_slot_13 rfl ?_
    refine r_getiS (ci := 7) (k := 12) (id := 712) (C := RX6) (T := TX6) (N := 13) F G rfl (by decide) (by decide) rfl (zinL inG7) (zin kf_X8_52) (fun _ h9 => h9) dX8_slot_14 G0 I0 ?_
    exact e_iret F hr hlk ⟨rfl, rfl⟩ (by decide) (by decide) dX8_slot_17
set_option maxRecDepth 100000 in
set_option maxHeartbeats 4000000 in
theorem c_addressOf {l : Launch} {N0 t0 : Nat} {D : va_G} {cy : Nat → ClassId} {S : zS} {X : Nat → Prop} {S0 : zS} {ad : Nat → Nat} {W : zO} (hH : zH t0 X S0 ad W S) {v : zV} (hB : Bld v W) (hv : vRg v) (hD : vD v) (hSr : SrcOK v W) (hAd : adK v W) (hK : kEq v) {i : Nat} (hA : vA v) {f a k : Nat} (hk1 : 16 * (f / 8) + i < 96 → ¬ v.1 1215 (16 * (f / 8) + i) = 0) (hf : f < 48) (ht : f % 8 < cn v 1202 (f / 8)) (ea : ad (200 + 12 * f) = a) (hk60 : k < 60) (hi : i < cn v 1204 (f / 8)) (hai : v.1 1210 (60 * f + k) = nI i) : zMi l yX6_addressOf (zws yX6_addressOf cX6_addressOf 3 (some .int)) { frames := 4, cells := 0, slots := 0, locals := 86 } N0 t0 D cy S [.ref a, .int (nI k)] (fun r S' => r = nI (aO v (16 * (f / 8) + i)) ∧ S' = S) 0 0 := by
  refine zMi.of (cc := cX6_addressOf) (maxL := 3) (ret := (some .int)) (by decide) rfl (Nat.le_of_ble_eq_true rfl) ?_
  intro p e s m args below meth c F G hr hlk hnm
  have hR := hB.2.2.1 f hf ht
  have hkr := kd_r f hf
  have A0 : zA S a 7 := hH.al hR.1 ea hkr.1
  have hfo := there_o hA hf ht
  have hU := hB.2.1 (f / 8) hfo
  have hku := kd_u (f / 8) (by omega)
  have hyb := (rg_1204 hv (k := f / 8) (by omega)).2
  have U0 : zA S (ad (100 + 8 * (f / 8))) 10 := hH.al hU.1 rfl hku.1
  have Qo : zq S 700 a = some (ad (100 + 8 * (f / 8))) := hH.qS hR.1 ea (by rw [hkr.1]; decide) hR.2.1 rfl
  have Qn : zq S 706 a = some (ad (200 + 12 * f + 4)) := hH.qS hR.1 ea (by rw [hkr.1]; decide) (hB.1.q hR.1 (by decide) hkr.1) rfl
  have an : oa W (200 + 12 * f + 4) := hB.1.a hR.1 (id := 706) (by decide) hkr.1
  have nn : onn W (200 + 12 * f + 4) = 60 := hB.1.n hR.1 (id := 706) (by decide) hkr.1 (by decide)
  have vn : ori W (200 + 12 * f + 4) k = v.1 1210 (60 * f + k) := hR.2.2.2.2.2.2.2.2 k hk60
  refine r_aload_n F dX6_addressOf_0 rfl ?_
  refine r_getS (ci := 7) (k := 0) (id := 700) (C := RX6) (T := TX6) (N := 13) F G rfl (by decide) (by decide) rfl (zinL inG7) (zin kf_X6_27) (fun _ h9 => h9) dX6_addressOf_1 A0 Qo ?_
  refine r_aload_n F dX6_addressOf_4 rfl ?_
  refine r_getS (ci := 7) (k := 6) (id := 706) (C := RX6) (T := TX6) (N := 13) F G rfl (by decide) (by decide) rfl (zinL inG7) (zin kf_X6_15) (fun _ h9 => h9) dX6_addressOf_5 A0 Qn ?_
  refine r_iload_n F dX6_addressOf_8 rfl ?_
  refine v_iald F G hH an rfl hkr.2.2.1 (by omega) (by omega) dX6_addressOf_9 ?_
  rw [vn]
  refine c_Vq (ci := 10) F G (c_symbolAt hH hB.1 hU.1 rfl hku.1 hU.2.2.2 hku.2.2.2.2.2.1 hku.2.2.2.2.2.2 (fun i hi => kd_y (16 * (f / 8) + i) (by omega)) (by omega)) (cwV 1 F.2.2.2.2 (zgV km_X6_47 ki_X9_symbolAt ke_X9_X9_symbolAt kn_X9 ko_X9_symbolAt) rfl rfl rfl ⟨rfl, hd_yX9_symbolAt⟩ ⟨Nat.le_of_ble_eq_true rfl, Nat.le_of_ble_eq_true rfl⟩) rfl (by decide) U0 rfl rfl (Nat.le_of_ble_eq_true rfl) dX6_addressOf_10 ⟨Nat.le_of_ble_eq_true rfl, Nat.le_of_ble_eq_true rfl⟩ (fun r10 S10 h10 => ?_)
  obtain ⟨h10a, h10⟩ := h10
  have h10c := h10a.symm
  subst h10c
  rcases h10 with ⟨j, hj, ej, h10r⟩ | ⟨h10n, h10r⟩
  · subst h10r
    have hY9 : (16 * (f / 8) + j) < 96 := by omega
    have hT9 : (16 * (f / 8) + j) % 16 < cn v 1204 ((16 * (f / 8) + j) / 16) := by rw [show (16 * (f / 8) + j) / 16 = f / 8 by omega]; omega
    have hYj := hB.2.2.2.2 (16 * (f / 8) + j) hY9 hT9
    have Y0 : zA S (ad (cY (16 * (f / 8) + j))) 9 := hH.al hYj.1 rfl (kd_y _ hY9)
    have eij : i = j := (nI_eq (by omega) (by omega)).mp (hai.symm.trans ej)
    subst eij
    refine r_astore_n (x := ad (cY (16 * (f / 8) + i))) F dX6_addressOf_13 (by decide) ?_
    refine r_aload_n F dX6_addressOf_14 rfl ?_
    refine r_ifnonnull (tgt := 22) F dX6_addressOf_15 (by decide) ?_
    refine r_aload_n F dX6_addressOf_22 rfl ?_
    refine c_Vi (ci := 9) F G (c_address hH hB hv hD hSr hAd hK hY9 hT9 rfl (hk1 hY9)) (cwV 0 F.2.2.2.2 (zgV km_X6_59 ki_X8_address ke_X8_X8_address kn_X8 ko_X8_address) rfl rfl rfl ⟨rfl, hd_yX8_address⟩ ⟨Nat.le_of_ble_eq_true rfl, Nat.le_of_ble_eq_true rfl⟩) rfl (by decide) Y0 rfl rfl (Nat.le_of_ble_eq_true rfl) dX6_addressOf_23 ⟨Nat.le_of_ble_eq_true rfl, Nat.le_of_ble_eq_true rfl⟩ (fun r23 S23 h23 => ?_)
    exact e_iret F hr hlk h23 (by decide) (by decide) dX6_addressOf_26
  · exact absurd hai (h10n i hi)
set_option maxRecDepth 100000 in
set_option maxHeartbeats 4000000 in
theorem c_slotOf {l : Launch} {N0 t0 : Nat} {D : va_G} {cy : Nat → ClassId} {S : zS} {X : Nat → Prop} {S0 : zS} {ad : Nat → Nat} {W : zO} (hH : zH t0 X S0 ad W S) {v : zV} (hB : Bld v W) (hv : vRg v) (hD : vD v) (hSr : SrcOK v W) {Ss : List Nat} (hUs : nuS v W Ss) {i : Nat} (hA : vA v) {f a k : Nat} (hf : f < 48) (ht : f % 8 < cn v 1202 (f / 8)) (ea : ad (200 + 12 * f) = a) (hk60 : k < 60) (hi : i < cn v 1204 (f / 8)) (hai : v.1 1210 (60 * f + k) = nI i) : zMi l yX6_slotOf (zws yX6_slotOf cX6_slotOf 3 (some .int)) { frames := 4, cells := 0, slots := 0, locals := 86 } N0 t0 D cy S [.ref a, .int (nI k)] (fun r S' => r = nI (slN Ss (tgt v (16 * (f / 8) + i))) ∧ S' = S) 0 0 := by
  refine zMi.of (cc := cX6_slotOf) (maxL := 3) (ret := (some .int)) (by decide) rfl (Nat.le_of_ble_eq_true rfl) ?_
  intro p e s m args below meth c F G hr hlk hnm
  have hR := hB.2.2.1 f hf ht
  have hkr := kd_r f hf
  have A0 : zA S a 7 := hH.al hR.1 ea hkr.1
  have hfo := there_o hA hf ht
  have hU := hB.2.1 (f / 8) hfo
  have hku := kd_u (f / 8) (by omega)
  have hyb := (rg_1204 hv (k := f / 8) (by omega)).2
  have U0 : zA S (ad (100 + 8 * (f / 8))) 10 := hH.al hU.1 rfl hku.1
  have Qo : zq S 700 a = some (ad (100 + 8 * (f / 8))) := hH.qS hR.1 ea (by rw [hkr.1]; decide) hR.2.1 rfl
  have Qn : zq S 706 a = some (ad (200 + 12 * f + 4)) := hH.qS hR.1 ea (by rw [hkr.1]; decide) (hB.1.q hR.1 (by decide) hkr.1) rfl
  have an : oa W (200 + 12 * f + 4) := hB.1.a hR.1 (id := 706) (by decide) hkr.1
  have nn : onn W (200 + 12 * f + 4) = 60 := hB.1.n hR.1 (id := 706) (by decide) hkr.1 (by decide)
  have vn : ori W (200 + 12 * f + 4) k = v.1 1210 (60 * f + k) := hR.2.2.2.2.2.2.2.2 k hk60
  refine r_aload_n F dX6_slotOf_0 rfl ?_
  refine r_getS (ci := 7) (k := 0) (id := 700) (C := RX6) (T := TX6) (N := 13) F G rfl (by decide) (by decide) rfl (zinL inG7) (zin kf_X6_27) (fun _ h9 => h9) dX6_slotOf_1 A0 Qo ?_
  refine r_aload_n F dX6_slotOf_4 rfl ?_
  refine r_getS (ci := 7) (k := 6) (id := 706) (C := RX6) (T := TX6) (N := 13) F G rfl (by decide) (by decide) rfl (zinL inG7) (zin kf_X6_15) (fun _ h9 => h9) dX6_slotOf_5 A0 Qn ?_
  refine r_iload_n F dX6_slotOf_8 rfl ?_
  refine v_iald F G hH an rfl hkr.2.2.1 (by omega) (by omega) dX6_slotOf_9 ?_
  rw [vn]
  refine c_Vq (ci := 10) F G (c_symbolAt hH hB.1 hU.1 rfl hku.1 hU.2.2.2 hku.2.2.2.2.2.1 hku.2.2.2.2.2.2 (fun i hi => kd_y (16 * (f / 8) + i) (by omega)) (by omega)) (cwV 1 F.2.2.2.2 (zgV km_X6_47 ki_X9_symbolAt ke_X9_X9_symbolAt kn_X9 ko_X9_symbolAt) rfl rfl rfl ⟨rfl, hd_yX9_symbolAt⟩ ⟨Nat.le_of_ble_eq_true rfl, Nat.le_of_ble_eq_true rfl⟩) rfl (by decide) U0 rfl rfl (Nat.le_of_ble_eq_true rfl) dX6_slotOf_10 ⟨Nat.le_of_ble_eq_true rfl, Nat.le_of_ble_eq_true rfl⟩ (fun r10 S10 h10 => ?_)
  obtain ⟨h10a, h10⟩ := h10
  have h10c := h10a.symm
  subst h10c
  rcases h10 with ⟨j, hj, ej, h10r⟩ | ⟨h10n, h10r⟩
  · subst h10r
    have hY9 : (16 * (f / 8) + j) < 96 := by omega
    have hT9 : (16 * (f / 8) + j) % 16 < cn v 1204 ((16 * (f / 8) + j) / 16) := by rw [show (16 * (f / 8) + j) / 16 = f / 8 by omega]; omega
    have hYj := hB.2.2.2.2 (16 * (f / 8) + j) hY9 hT9
    have Y0 : zA S (ad (cY (16 * (f / 8) + j))) 9 := hH.al hYj.1 rfl (kd_y _ hY9)
    have eij : i = j := (nI_eq (by omega) (by omega)).mp (hai.symm.trans ej)
    subst eij
    refine r_astore_n (x := ad (cY (16 * (f / 8) + i))) F dX6_slotOf_13 (by decide) ?_
    refine r_aload_n F dX6_slotOf_14 rfl ?_
    refine r_ifnonnull (tgt := 22) F dX6_slotOf_15 (by decide) ?_
    refine r_aload_n F dX6_slotOf_22 rfl ?_
    refine c_Vi (ci := 9) F G (c_slot hH hB hv hD hSr hUs hY9 hT9 rfl) (cwV 0 F.2.2.2.2 (zgV km_X6_63 ki_X8_slot ke_X8_X8_slot kn_X8 ko_X8_slot) rfl rfl rfl ⟨rfl, hd_yX8_slot⟩ ⟨Nat.le_of_ble_eq_true rfl, Nat.le_of_ble_eq_true rfl⟩) rfl (by decide) Y0 rfl rfl (Nat.le_of_ble_eq_true rfl) dX6_slotOf_23 ⟨Nat.le_of_ble_eq_true rfl, Nat.le_of_ble_eq_true rfl⟩ (fun r23 S23 h23 => ?_)
    exact e_iret F hr hlk h23 (by decide) (by decide) dX6_slotOf_26
  · exact absurd hai (h10n i hi)
