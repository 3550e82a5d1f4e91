/-- what was built stands in the linker's world -/
def Bld (v : zV) (W : zO) : Prop := wr W ∧ (∀ o, o < cn v 1201 0 → rpU v W o) ∧ (∀ f, f < 48 → f % 8 < cn v 1202 (f / 8) → rpR v W f) ∧ (∀ g, g < 24 → g % 4 < cn v 1203 (g / 4) → rpG v W g) ∧ ∀ y, y < 96 → y % 16 < cn v 1204 (y / 16) → rpY v W y
theorem Rep.bld {v : zV} {W : zO} (h : Rep v W) : Bld v W := ⟨h.1, h.2.2.2.1, h.2.2.2.2.1, h.2.2.2.2.2.1, h.2.2.2.2.2.2.1⟩
/-- the sources of the symbols -/
def SrcOK (v : zV) (W : zO) : Prop := ∀ y, y < 96 → y % 16 < cn v 1204 (y / 16) → oq W (cY y) 907 = (src v y).map cY
theorem there_o {v : zV} (hA : vA v) {f : Nat} (hf : f < 48) (ht : f % 8 < cn v 1202 (f / 8)) : f / 8 < cn v 1201 0 := by
  rcases Nat.lt_or_ge (f / 8) (cn v 1201 0) with h | h
  · exact h
  · rw [(hA (f / 8) h (by omega)).1] at ht
    omega
theorem src_t {v : zV} {y z : Nat} (hy : y < 96) (ht : y % 16 < cn v 1204 (y / 16)) (h : src v y = some z) : z < 96 ∧ z % 16 < cn v 1204 (z / 16) := by
  unfold src at h
  by_cases e : v.1 1216 y = 2
  · rw [if_pos e] at h; cases h; exact ⟨hy, ht⟩
  · rw [if_neg e] at h
    cases hs : fnd (ySt v (v.1 1214 y)) 96 with
    | some x =>
      rw [hs] at h
      cases h
      have h9 := fnd_iff.mp hs
      have h8 := h9.2.1
      unfold ySt at h8
      simp at h8
      exact ⟨h9.1, h8.1.1.1⟩
    | none =>
      rw [hs] at h
      have h9 := fnd_iff.mp (show fnd (yWk v (v.1 1214 y)) 96 = some z from h)
      have h8 := h9.2.1
      unfold yWk at h8
      simp at h8
      exact ⟨h9.1, h8.1.1.1.1⟩
/-- the function at a symbol's source -/
def tgt (v : zV) (y : Nat) : Option Nat := (src v y).bind (fun z => if v.1 1215 z = 0 ∧ ¬ v.1 1217 z = -1 then some (8 * (z / 16) + cn v 1217 z) else none)
theorem tgt_fO {v : zV} {y : Nat} (hk : ∀ z, mng v y = some z → v.1 1215 z = 0) (hl : v.1 1216 y = 2 → v.1 1215 y = 0) : tgt v y = fO v y := by
  unfold tgt fO src
  by_cases e : v.1 1216 y = 2
  · rw [if_pos e]
    unfold mng
    rw [if_pos e]
    by_cases e2 : v.1 1217 y = -1
    · rw [if_pos e2]
      show (if v.1 1215 y = 0 ∧ ¬ v.1 1217 y = -1 then _ else none) = none
      rw [if_neg (fun h9 => h9.2 e2)]
    · rw [if_neg e2]
      show (if v.1 1215 y = 0 ∧ ¬ v.1 1217 y = -1 then _ else none) = some _
      rw [if_pos ⟨hl e, e2⟩]
  · rw [if_neg e, ← mng_or e]
    cases hm : mng v y with
    | none => rfl
    | some z =>
      have hz : ¬ v.1 1217 z = -1 := by
        have hm2 := hm
        rw [mng_or e] at hm2
        cases hs : fnd (ySt v (v.1 1214 y)) 96 with
        | some x =>
          rw [hs] at hm2
          cases hm2
          have h8 := (fnd_iff.mp hs).2.1
          unfold ySt at h8
          simp at h8
          exact h8.2
        | none =>
          rw [hs] at hm2
          have h8 := (fnd_iff.mp (show fnd (yWk v (v.1 1214 y)) 96 = some z from hm2)).2.1
          unfold yWk at h8
          simp at h8
          exact h8.2
      show (if v.1 1215 z = 0 ∧ ¬ v.1 1217 z = -1 then some _ else none) = some _
      rw [if_pos ⟨hk z hm, hz⟩]
set_option maxRecDepth 100000 in
set_option maxHeartbeats 4000000 in
theorem c_Rsig {l : Launch} {N0 t0 : Nat} {D : va_G} {cy : Nat → ClassId} {S : zS} {X : Nat → Prop} {S0 : zS} {ad : Nat → Nat} {W : zO} (hH : zH t0 X S0 ad W S) {v : zV} (hB : Bld v W) (hv : vRg v) {f a : Nat} (hf : f < 48) (ht : f % 8 < cn v 1202 (f / 8)) (ea : ad (200 + 12 * f) = a) : zMi l yX6_signature (zws yX6_signature cX6_signature 1 (some .int)) { frames := 0, cells := 0, slots := 0, locals := 0 } N0 t0 D cy S [.ref a] (fun r S' => r = nI (sh v f) ∧ S' = S) 0 0 := by
  refine zMi.of (cc := cX6_signature) (maxL := 1) (ret := (some .int)) (by decide) rfl (Nat.le_of_ble_eq_true rfl) ?_
  intro p e s m args below meth c F G hr hlk hnm
  have hR := hB.2.2.1 f hf ht
  have hk := (kd_r f hf).1
  have A0 : zA S a 7 := hH.al hR.1 ea hk
  have I1 : zi S 702 a = nI (cn v 1205 f) := (hH.i hR.1 ea (by rw [hk]; decide)).trans (hR.2.2.2.1.trans (rg_1205 hv hf).1)
  have I2 : zi S 703 a = nI (cn v 1206 f) := (hH.i hR.1 ea (by rw [hk]; decide)).trans (hR.2.2.2.2.1.trans (rg_1206 hv hf).1)
  refine r_iconst (v := 2) F dX6_signature_0 (by decide) ?_
  refine r_aload_n F dX6_signature_1 rfl ?_
  refine r_getiS (ci := 7) (k := 2) (id := 702) (C := RX6) (T := TX6) (N := 13) F G rfl (by decide) (by decide) rfl (zinL inG7) (zin kf_X6_35) (fun _ h9 => h9) dX6_signature_2 A0 I1 ?_
  refine r_imul F dX6_signature_5 ?_
  refine r_aload_n F dX6_signature_6 rfl ?_
  refine r_getiS (ci := 7) (k := 3) (id := 703) (C := RX6) (T := TX6) (N := 13) F G rfl (by decide) (by decide) rfl (zinL inG7) (zin kf_X6_38) (fun _ h9 => h9) dX6_signature_7 A0 I2 ?_
  refine r_iadd F dX6_signature_10 ?_
  exact e_iret F hr hlk ⟨by rw [nl2, nI_mul, nI_add]; rfl, rfl⟩ (by decide) (by decide) dX6_signature_11
set_option maxRecDepth 100000 in
set_option maxHeartbeats 4000000 in
theorem c_Ysig {l : Launch} {N0 t0 : Nat} {D : va_G} {cy : Nat → ClassId} {S : zS} {X : Nat → Prop} {S0 : zS} {ad : Nat → Nat} {W : zO} (hH : zH t0 X S0 ad W S) {v : zV} (hB : Bld v W) (hv : vRg v) (hD : vD v) {y a : Nat} (hy : y < 96) (ht : y % 16 < cn v 1204 (y / 16)) (ea : ad (cY y) = a) (hk0 : v.1 1215 y = 0) : zMi l yX8_signature (zws yX8_signature cX8_signature 1 (some .int)) { frames := 1, cells := 0, slots := 0, locals := 20 } N0 t0 D cy S [.ref a] (fun r S' => r = nI (sg v y) ∧ S' = S) 0 0 := by
  refine zMi.of (cc := cX8_signature) (maxL := 1) (ret := (some .int)) (by decide) rfl (Nat.le_of_ble_eq_true rfl) ?_
  intro p e s m args below meth c F G hr hlk hnm
  have hY := hB.2.2.2.2 y hy ht
  have A0 : zA S a 9 := hH.al hY.1 ea (kd_y y hy)
  have k9 : kd (cY y) < 13 := by rw [kd_y y hy]; decide
  have q4 := hH.q (id := 904) hY.1 ea k9
  rw [hY.2.2.2.2.2.2.1] at q4
  have I1 : zi S 906 a = nI (cn v 1218 y) := (hH.i hY.1 ea k9).trans (hY.2.2.2.2.2.1.trans (rg_1218 hv hy).1)
  by_cases hd : v.1 1217 y = -1
  · rw [if_neg (fun h9 => h9.2 hd)] at q4
    refine r_aload_n F dX8_signature_0 rfl ?_
    refine r_getq (ci := 9) (k := 4) (id := 904) (C := RX8) (T := TX8) (N := 8) F G rfl (by decide) (by decide) rfl (zinL inG9) (zin kf_X8_22) (fun _ h9 => h9) dX8_signature_1 A0 ?_
    rw [q4]
    refine r_ifnonnullN F dX8_signature_4 ?_
    refine r_aload_n F dX8_signature_7 rfl ?_
    refine r_getiS (ci := 9) (k := 6) (id := 906) (C := RX8) (T := TX8) (N := 8) F G rfl (by decide) (by decide) rfl (zinL inG9) (zin kf_X8_30) (fun _ h9 => h9) dX8_signature_8 A0 I1 ?_
    refine r_goto (tgt := 21) F dX8_signature_11 (by decide) ?_
    exact e_iret F hr hlk ⟨by unfold sg; rw [if_pos hd], rfl⟩ (by decide) (by decide) dX8_signature_21
  · rw [if_pos ⟨hk0, hd⟩] at q4
    obtain ⟨hd1, hd2, hd3, -⟩ := hD.d hv hy ht hd
    have hFt : (8 * (y / 16) + cn v 1217 y) % 8 < cn v 1202 ((8 * (y / 16) + cn v 1217 y) / 8) := by rw [show (8 * (y / 16) + cn v 1217 y) / 8 = y / 16 by omega]; have := hd3 hk0; omega
    have hRr := hB.2.2.1 (8 * (y / 16) + cn v 1217 y) (by omega) hFt
    have R0 : zA S (ad (200 + 12 * (8 * (y / 16) + cn v 1217 y))) 7 := hH.al hRr.1 rfl (kd_r _ (by omega)).1
    refine r_aload_n F dX8_signature_0 rfl ?_
    refine r_getq (ci := 9) (k := 4) (id := 904) (C := RX8) (T := TX8) (N := 8) F G rfl (by decide) (by decide) rfl (zinL inG9) (zin kf_X8_22) (fun _ h9 => h9) dX8_signature_1 A0 ?_
    rw [q4]
    refine r_ifnonnull (tgt := 14) F dX8_signature_4 (by decide) ?_
    refine r_aload_n F dX8_signature_14 rfl ?_
    refine r_getq (ci := 9) (k := 4) (id := 904) (C := RX8) (T := TX8) (N := 8) F G rfl (by decide) (by decide) rfl (zinL inG9) (zin kf_X8_22) (fun _ h9 => h9) dX8_signature_15 A0 ?_
    rw [q4]
    refine c_Vi (ci := 7) F G (c_Rsig hH hB hv (f := (8 * (y / 16) + cn v 1217 y)) (by omega) hFt rfl) (cwV 0 F.2.2.2.2 (zgV km_X8_33 ki_X6_signature ke_X6_X6_signature kn_X6 ko_X6_signature) rfl rfl rfl ⟨rfl, hd_yX6_signature⟩ ⟨Nat.le_of_ble_eq_true rfl, Nat.le_of_ble_eq_true rfl⟩) rfl (by decide) R0 rfl rfl (Nat.le_of_ble_eq_true rfl) dX8_signature_18 ⟨Nat.le_of_ble_eq_true rfl, Nat.le_of_ble_eq_true rfl⟩ (fun r18 S18 h18 => ?_)
    exact e_iret F hr hlk ⟨by unfold sg; rw [if_neg hd]; exact h18.1, h18.2⟩ (by decide) (by decide) dX8_signature_21
set_option maxRecDepth 100000 in
set_option maxHeartbeats 4000000 in
theorem c_target {l : Launch} {N0 t0 : Nat} {D : va_G} {cy : Nat → ClassId} {S : zS} {X : Nat → Prop} {S0 : zS} {ad : Nat → Nat} {W : zO} (hH : zH t0 X S0 ad W S) {v : zV} (hB : Bld v W) (hv : vRg v) (hSr : SrcOK v W) {y a : Nat} (hy : y < 96) (ht : y % 16 < cn v 1204 (y / 16)) (ea : ad (cY y) = a) : zMq l yX8_target (zws yX8_target cX8_target 1 (some (.object "ObjectLinker$Routine"))) { frames := 0, cells := 0, slots := 0, locals := 0 } N0 t0 D cy S [.ref a] (fun r S' => r = (tgt v y).map (fun g => ad (200 + 12 * g)) ∧ S' = S) 0 0 := by
  refine zMq.of (cc := cX8_target) (maxL := 1) (ret := (some (.object "ObjectLinker$Routine"))) (by decide) rfl (Nat.le_of_ble_eq_true rfl) ?_
  intro p e s m args below meth c F G hr hlk hnm
  have hY := hB.2.2.2.2 y hy ht
  have A0 : zA S a 9 := hH.al hY.1 ea (kd_y y hy)
  have k9 : kd (cY y) < 13 := by rw [kd_y y hy]; decide
  have q7 := hH.q (id := 907) hY.1 ea k9
  rw [hSr y hy ht] at q7
  rcases hs : src v y with _ | z
  · rw [hs] at q7
    refine r_aload_n F dX8_target_0 rfl ?_
    refine r_getq (ci := 9) (k := 7) (id := 907) (C := RX8) (T := TX8) (N := 8) F G rfl (by decide) (by decide) rfl (zinL inG9) (zin kf_X8_39) (fun _ h9 => h9) dX8_target_1 A0 ?_
    rw [q7]
    refine r_ifnonnullN F dX8_target_4 ?_
    refine r_null F dX8_target_7 ?_
    refine r_goto (tgt := 18) F dX8_target_8 (by decide) ?_
    exact e_aret (v := none) F hr (Or.inl ⟨_, rfl⟩) hlk ⟨by unfold tgt; rw [hs]; rfl, rfl⟩ (by decide) (by decide) dX8_target_18
  · rw [hs] at q7
    obtain ⟨z1, z2⟩ := src_t hy ht hs
    have hZ := hB.2.2.2.2 z z1 z2
    have Z0 : zA S (ad (cY z)) 9 := hH.al hZ.1 rfl (kd_y z z1)
    have q4 := hH.q (id := 904) hZ.1 rfl (by rw [kd_y z z1]; decide)
    rw [hZ.2.2.2.2.2.2.1] at q4
    refine r_aload_n F dX8_target_0 rfl ?_
    refine r_getq (ci := 9) (k := 7) (id := 907) (C := RX8) (T := TX8) (N := 8) F G rfl (by decide) (by decide) rfl (zinL inG9) (zin kf_X8_39) (fun _ h9 => h9) dX8_target_1 A0 ?_
    rw [q7]
    refine r_ifnonnull (tgt := 11) F dX8_target_4 (by decide) ?_
    refine r_aload_n F dX8_target_11 rfl ?_
    refine r_getq (ci := 9) (k := 7) (id := 907) (C := RX8) (T := TX8) (N := 8) F G rfl (by decide) (by decide) rfl (zinL inG9) (zin kf_X8_39) (fun _ h9 => h9) dX8_target_12 A0 ?_
    rw [q7]
    show zW p l e _ s m args below meth c _ N0 D cy _ _ _ S _ _ (.ref (ad (cY z)) :: _)
    refine r_getq (ci := 9) (k := 4) (id := 904) (C := RX8) (T := TX8) (N := 8) F G rfl (by decide) (by decide) rfl (zinL inG9) (zin kf_X8_22) (fun _ h9 => h9) dX8_target_15 Z0 ?_
    rw [q4]
    unfold tgt
    rw [hs]
    by_cases h9 : v.1 1215 z = 0 ∧ ¬ v.1 1217 z = -1
    · rw [if_pos h9]
      exact e_aret (v := some (ad (200 + 12 * (8 * (z / 16) + cn v 1217 z)))) F hr (Or.inl ⟨_, rfl⟩) hlk ⟨by show _ = (if v.1 1215 z = 0 ∧ ¬ v.1 1217 z = -1 then some (8 * (z / 16) + cn v 1217 z) else none).map _; rw [if_pos h9]; rfl, rfl⟩ (by decide) (by decide) dX8_target_18
    · rw [if_neg h9]
      exact e_aret (v := none) F hr (Or.inl ⟨_, rfl⟩) hlk ⟨by show _ = (if v.1 1215 z = 0 ∧ ¬ v.1 1217 z = -1 then some (8 * (z / 16) + cn v 1217 z) else none).map _; rw [if_neg h9]; rfl, rfl⟩ (by decide) (by decide) dX8_target_18
set_option maxRecDepth 100000 in
set_option maxHeartbeats 4000000 in
theorem c_namesKind {l : Launch} {N0 t0 : Nat} {D : va_G} {cy : Nat → ClassId} {S : zS} {X : Nat → Prop} {S0 : zS} {ad : Nat → Nat} {W : zO} (hH : zH t0 X S0 ad W S) {v : zV} (hB : Bld v W) (hv : vRg v) {x : Int32} (hA : vA v) {f a k : Nat} (hf : f < 48) (ht : f % 8 < cn v 1202 (f / 8)) (ea : ad (200 + 12 * f) = a) (hk60 : k < 60) : zMi l yX6_namesKind (zws yX6_namesKind cX6_namesKind 4 (some .boolean)) { frames := 4, cells := 0, slots := 0, locals := 86 } N0 t0 D cy S [.ref a, .int (nI k), .int x] (fun r S' => zbo r (∃ j, j < cn v 1204 (f / 8) ∧ v.1 1210 (60 * f + k) = nI j ∧ v.1 1215 (16 * (f / 8) + j) = x) ∧ S' = S) 0 0 := by
  refine zMi.of (cc := cX6_namesKind) (maxL := 4) (ret := (some .boolean)) (by decide) rfl (Nat.le_of_ble_eq_true rfl) ?_
  intro p e s m args below meth c F G hr hlk hnm
  have hR := hB.2.2.1 f hf ht
  have hkr := kd_r f hf
  have A0 : zA S a 7 := hH.al hR.1 ea hkr.1
  have hfo := there_o hA hf ht
  have hU := hB.2.1 (f / 8) hfo
  have hku := kd_u (f / 8) (by omega)
  have hyb := (rg_1204 hv (k := f / 8) (by omega)).2
  have U0 : zA S (ad (100 + 8 * (f / 8))) 10 := hH.al hU.1 rfl hku.1
  have Qo : zq S 700 a = some (ad (100 + 8 * (f / 8))) := hH.qS hR.1 ea (by rw [hkr.1]; decide) hR.2.1 rfl
  have Qn : zq S 706 a = some (ad (200 + 12 * f + 4)) := hH.qS hR.1 ea (by rw [hkr.1]; decide) (hB.1.q hR.1 (by decide) hkr.1) rfl
  have an : oa W (200 + 12 * f + 4) := hB.1.a hR.1 (id := 706) (by decide) hkr.1
  have nn : onn W (200 + 12 * f + 4) = 60 := hB.1.n hR.1 (id := 706) (by decide) hkr.1 (by decide)
  have vn : ori W (200 + 12 * f + 4) k = v.1 1210 (60 * f + k) := hR.2.2.2.2.2.2.2.2 k hk60
  refine r_aload_n F dX6_namesKind_0 rfl ?_
  refine r_getS (ci := 7) (k := 0) (id := 700) (C := RX6) (T := TX6) (N := 13) F G rfl (by decide) (by decide) rfl (zinL inG7) (zin kf_X6_27) (fun _ h9 => h9) dX6_namesKind_1 A0 Qo ?_
  refine r_aload_n F dX6_namesKind_4 rfl ?_
  refine r_getS (ci := 7) (k := 6) (id := 706) (C := RX6) (T := TX6) (N := 13) F G rfl (by decide) (by decide) rfl (zinL inG7) (zin kf_X6_15) (fun _ h9 => h9) dX6_namesKind_5 A0 Qn ?_
  refine r_iload_n F dX6_namesKind_8 rfl ?_
  refine v_iald F G hH an rfl hkr.2.2.1 (by omega) (by omega) dX6_namesKind_9 ?_
  rw [vn]
  refine c_Vq (ci := 10) F G (c_symbolAt hH hB.1 hU.1 rfl hku.1 hU.2.2.2 hku.2.2.2.2.2.1 hku.2.2.2.2.2.2 (fun i hi => kd_y (16 * (f / 8) + i) (by omega)) (by omega)) (cwV 1 F.2.2.2.2 (zgV km_X6_47 ki_X9_symbolAt ke_X9_X9_symbolAt kn_X9 ko_X9_symbolAt) rfl rfl rfl ⟨rfl, hd_yX9_symbolAt⟩ ⟨Nat.le_of_ble_eq_true rfl, Nat.le_of_ble_eq_true rfl⟩) rfl (by decide) U0 rfl rfl (Nat.le_of_ble_eq_true rfl) dX6_namesKind_10 ⟨Nat.le_of_ble_eq_true rfl, Nat.le_of_ble_eq_true rfl⟩ (fun r10 S10 h10 => ?_)
  obtain ⟨h10a, h10⟩ := h10
  have h10c := h10a.symm
  subst h10c
  rcases h10 with ⟨j, hj, ej, h10r⟩ | ⟨h10n, h10r⟩
  · subst h10r
    have hY9 : (16 * (f / 8) + j) < 96 := by omega
    have hT9 : (16 * (f / 8) + j) % 16 < cn v 1204 ((16 * (f / 8) + j) / 16) := by rw [show (16 * (f / 8) + j) / 16 = f / 8 by omega]; omega
    have hYj := hB.2.2.2.2 (16 * (f / 8) + j) hY9 hT9
    have Y0 : zA S (ad (cY (16 * (f / 8) + j))) 9 := hH.al hYj.1 rfl (kd_y _ hY9)
    have I3 : zi S 902 (ad (cY (16 * (f / 8) + j))) = v.1 1215 (16 * (f / 8) + j) := (hH.i hYj.1 rfl (by rw [kd_y _ hY9]; decide)).trans hYj.2.2.2.1
    refine r_astore_n (x := ad (cY (16 * (f / 8) + j))) F dX6_namesKind_13 (by decide) ?_
    refine r_aload_n F dX6_namesKind_14 rfl ?_
    refine r_ifnull F dX6_namesKind_15 ?_
    refine r_aload_n F dX6_namesKind_18 rfl ?_
    refine r_getiS (ci := 9) (k := 2) (id := 902) (C := RX8) (T := TX8) (N := 8) F G rfl (by decide) (by decide) rfl (zinL inG9) (zin kf_X6_70) (fun _ h9 => h9) dX6_namesKind_19 Y0 I3 ?_
    refine r_iload_n F dX6_namesKind_22 rfl ?_
    refine r_icmp_ne (tgt := 30) F dX6_namesKind_23 (by decide) (fun c23 => ?_) (fun c23 => ?_)
    · refine r_iconst (v := 0) F dX6_namesKind_30 (by decide) ?_
      exact e_zret F hr rfl hlk ⟨zbo.n (fun h => by obtain ⟨j2, q1, q2, q3⟩ := h; rw [ej] at q2; have q4 := (nI_eq (by omega) (by omega)).mp q2; subst q4; exact c23 q3), rfl⟩ (by decide) (by decide) dX6_namesKind_31
    · refine r_iconst (v := 1) F dX6_namesKind_26 (by decide) ?_
      refine r_goto (tgt := 31) F dX6_namesKind_27 (by decide) ?_
      exact e_zret F hr rfl hlk ⟨zbo.y ⟨j, hj, ej, c23⟩, rfl⟩ (by decide) (by decide) dX6_namesKind_31
  · subst h10r
    refine r_astore_nQ (x := none) F dX6_namesKind_13 (by decide) ?_
    refine r_aload_nQ (x := none) F dX6_namesKind_14 rfl ?_
    refine r_ifnullN (tgt := 30) F dX6_namesKind_15 (by decide) ?_
    refine r_iconst (v := 0) F dX6_namesKind_30 (by decide) ?_
    exact e_zret F hr rfl hlk ⟨zbo.n (fun h => by obtain ⟨j2, q1, q2, q3⟩ := h; exact h10n j2 q1 q2), rfl⟩ (by decide) (by decide) dX6_namesKind_31
set_option maxRecDepth 100000 in
set_option maxHeartbeats 4000000 in
theorem c_targetOf {l : Launch} {N0 t0 : Nat} {D : va_G} {cy : Nat → ClassId} {S : zS} {X : Nat → Prop} {S0 : zS} {ad : Nat → Nat} {W : zO} (hH : zH t0 X S0 ad W S) {v : zV} (hB : Bld v W) (hv : vRg v) (hSr : SrcOK v W) {i : Nat} (hA : vA v) {f a k : Nat} (hf : f < 48) (ht : f % 8 < cn v 1202 (f / 8)) (ea : ad (200 + 12 * f) = a) (hk60 : k < 60) (hi : i < cn v 1204 (f / 8)) (hai : v.1 1210 (60 * f + k) = nI i) : zMq l yX6_targetOf (zws yX6_targetOf cX6_targetOf 3 (some (.object "ObjectLinker$Routine"))) { frames := 4, cells := 0, slots := 0, locals := 86 } N0 t0 D cy S [.ref a, .int (nI k)] (fun r S' => r = (tgt v (16 * (f / 8) + i)).map (fun g => ad (200 + 12 * g)) ∧ S' = S) 0 0 := by
  refine zMq.of (cc := cX6_targetOf) (maxL := 3) (ret := (some (.object "ObjectLinker$Routine"))) (by decide) rfl (Nat.le_of_ble_eq_true rfl) ?_
  intro p e s m args below meth c F G hr hlk hnm
  have hR := hB.2.2.1 f hf ht
  have hkr := kd_r f hf
  have A0 : zA S a 7 := hH.al hR.1 ea hkr.1
  have hfo := there_o hA hf ht
  have hU := hB.2.1 (f / 8) hfo
  have hku := kd_u (f / 8) (by omega)
  have hyb := (rg_1204 hv (k := f / 8) (by omega)).2
  have U0 : zA S (ad (100 + 8 * (f / 8))) 10 := hH.al hU.1 rfl hku.1
  have Qo : zq S 700 a = some (ad (100 + 8 * (f / 8))) := hH.qS hR.1 ea (by rw [hkr.1]; decide) hR.2.1 rfl
  have Qn : zq S 706 a = some (ad (200 + 12 * f + 4)) := hH.qS hR.1 ea (by rw [hkr.1]; decide) (hB.1.q hR.1 (by decide) hkr.1) rfl
  have an : oa W (200 + 12 * f + 4) := hB.1.a hR.1 (id := 706) (by decide) hkr.1
  have nn : onn W (200 + 12 * f + 4) = 60 := hB.1.n hR.1 (id := 706) (by decide) hkr.1 (by decide)
  have vn : ori W (200 + 12 * f + 4) k = v.1 1210 (60 * f + k) := hR.2.2.2.2.2.2.2.2 k hk60
  refine r_aload_n F dX6_targetOf_0 rfl ?_
  refine r_getS (ci := 7) (k := 0) (id := 700) (C := RX6) (T := TX6) (N := 13) F G rfl (by decide) (by decide) rfl (zinL inG7) (zin kf_X6_27) (fun _ h9 => h9) dX6_targetOf_1 A0 Qo ?_
  refine r_aload_n F dX6_targetOf_4 rfl ?_
  refine r_getS (ci := 7) (k := 6) (id := 706) (C := RX6) (T := TX6) (N := 13) F G rfl (by decide) (by decide) rfl (zinL inG7) (zin kf_X6_15) (fun _ h9 => h9) dX6_targetOf_5 A0 Qn ?_
  refine r_iload_n F dX6_targetOf_8 rfl ?_
  refine v_iald F G hH an rfl hkr.2.2.1 (by omega) (by omega) dX6_targetOf_9 ?_
  rw [vn]
  refine c_Vq (ci := 10) F G (c_symbolAt hH hB.1 hU.1 rfl hku.1 hU.2.2.2 hku.2.2.2.2.2.1 hku.2.2.2.2.2.2 (fun i hi => kd_y (16 * (f / 8) + i) (by omega)) (by omega)) (cwV 1 F.2.2.2.2 (zgV km_X6_47 ki_X9_symbolAt ke_X9_X9_symbolAt kn_X9 ko_X9_symbolAt) rfl rfl rfl ⟨rfl, hd_yX9_symbolAt⟩ ⟨Nat.le_of_ble_eq_true rfl, Nat.le_of_ble_eq_true rfl⟩) rfl (by decide) U0 rfl rfl (Nat.le_of_ble_eq_true rfl) dX6_targetOf_10 ⟨Nat.le_of_ble_eq_true rfl, Nat.le_of_ble_eq_true rfl⟩ (fun r10 S10 h10 => ?_)
  obtain ⟨h10a, h10⟩ := h10
  have h10c := h10a.symm
  subst h10c
  rcases h10 with ⟨j, hj, ej, h10r⟩ | ⟨h10n, h10r⟩
  · subst h10r
    have hY9 : (16 * (f / 8) + j) < 96 := by omega
    have hT9 : (16 * (f / 8) + j) % 16 < cn v 1204 ((16 * (f / 8) + j) / 16) := by rw [show (16 * (f / 8) + j) / 16 = f / 8 by omega]; omega
    have hYj := hB.2.2.2.2 (16 * (f / 8) + j) hY9 hT9
    have Y0 : zA S (ad (cY (16 * (f / 8) + j))) 9 := hH.al hYj.1 rfl (kd_y _ hY9)
    have eij : i = j := (nI_eq (by omega) (by omega)).mp (hai.symm.trans ej)
    subst eij
    refine r_astore_n (x := ad (cY (16 * (f / 8) + i))) F dX6_targetOf_13 (by decide) ?_
    refine r_aload_n F dX6_targetOf_14 rfl ?_
    refine r_ifnonnull (tgt := 22) F dX6_targetOf_15 (by decide) ?_
    refine r_aload_n F dX6_targetOf_22 rfl ?_
    refine c_Vq (ci := 9) F G (c_target hH hB hv hSr hY9 hT9 rfl) (cwV 0 F.2.2.2.2 (zgV km_X6_53 ki_X8_target ke_X8_X8_target kn_X8 ko_X8_target) rfl rfl rfl ⟨rfl, hd_yX8_target⟩ ⟨Nat.le_of_ble_eq_true rfl, Nat.le_of_ble_eq_true rfl⟩) rfl (by decide) Y0 rfl rfl (Nat.le_of_ble_eq_true rfl) dX6_targetOf_23 ⟨Nat.le_of_ble_eq_true rfl, Nat.le_of_ble_eq_true rfl⟩ (fun r23 S23 h23 => ?_)
    exact e_aret F hr (Or.inl ⟨_, rfl⟩) hlk h23 (by decide) (by decide) dX6_targetOf_26
  · exact absurd hai (h10n i hi)
theorem tgt_t {v : zV} (hv : vRg v) (hD : vD v) {y g : Nat} (hy : y < 96) (ht : y % 16 < cn v 1204 (y / 16)) (h : tgt v y = some g) : g < 48 ∧ g % 8 < cn v 1202 (g / 8) := by
  unfold tgt at h
  cases hs : src v y with
  | none => rw [hs] at h; cases h
  | some z =>
    rw [hs] at h
    obtain ⟨z1, z2⟩ := src_t hy ht hs
    have h2 : (if v.1 1215 z = 0 ∧ ¬ v.1 1217 z = -1 then some (8 * (z / 16) + cn v 1217 z) else none) = some g := h
    by_cases h9 : v.1 1215 z = 0 ∧ ¬ v.1 1217 z = -1
    · rw [if_pos h9] at h2
      obtain ⟨d1, d2, d3, -⟩ := hD.d hv z1 z2 h9.2
      cases h2
      have := d3 h9.1
      refine ⟨by omega, ?_⟩
      rw [show (8 * (z / 16) + cn v 1217 z) / 8 = z / 16 by omega]
      omega
    · rw [if_neg h9] at h2; cases h2
set_option maxRecDepth 100000 in
set_option maxHeartbeats 4000000 in
theorem c_callFits {l : Launch} {N0 t0 : Nat} {D : va_G} {cy : Nat → ClassId} {S : zS} {X : Nat → Prop} {S0 : zS} {ad : Nat → Nat} {W : zO} (hH : zH t0 X S0 ad W S) {v : zV} (hB : Bld v W) (hv : vRg v) (hD : vD v) (hSr : SrcOK v W) {i : Nat} (hA : vA v) {f a k : Nat} (hf : f < 48) (ht : f % 8 < cn v 1202 (f / 8)) (ea : ad (200 + 12 * f) = a) (hk60 : k < 60) (hi : i < cn v 1204 (f / 8)) (hai : v.1 1210 (60 * f + k) = nI i) (hk0 : v.1 1215 (16 * (f / 8) + i) = 0) : zMi l yX6_callFits (zws yX6_callFits cX6_callFits 4 (some .boolean)) { frames := 5, cells := 0, slots := 0, locals := 109 } N0 t0 D cy S [.ref a, .int (nI k)] (fun r S' => zbo r (∀ g, tgt v (16 * (f / 8) + i) = some g → sh v g = sg v (16 * (f / 8) + i)) ∧ S' = S) 0 0 := by
  refine zMi.of (cc := cX6_callFits) (maxL := 4) (ret := (some .boolean)) (by decide) rfl (Nat.le_of_ble_eq_true rfl) ?_
  intro p e s m args below meth c F G hr hlk hnm
  have hR := hB.2.2.1 f hf ht
  have hkr := kd_r f hf
  have A0 : zA S a 7 := hH.al hR.1 ea hkr.1
  have hfo := there_o hA hf ht
  have hU := hB.2.1 (f / 8) hfo
  have hku := kd_u (f / 8) (by omega)
  have hyb := (rg_1204 hv (k := f / 8) (by omega)).2
  have U0 : zA S (ad (100 + 8 * (f / 8))) 10 := hH.al hU.1 rfl hku.1
  have Qo : zq S 700 a = some (ad (100 + 8 * (f / 8))) := hH.qS hR.1 ea (by rw [hkr.1]; decide) hR.2.1 rfl
  have Qn : zq S 706 a = some (ad (200 + 12 * f + 4)) := hH.qS hR.1 ea (by rw [hkr.1]; decide) (hB.1.q hR.1 (by decide) hkr.1) rfl
  have an : oa W (200 + 12 * f + 4) := hB.1.a hR.1 (id := 706) (by decide) hkr.1
  have nn : onn W (200 + 12 * f + 4) = 60 := hB.1.n hR.1 (id := 706) (by decide) hkr.1 (by decide)
  have vn : ori W (200 + 12 * f + 4) k = v.1 1210 (60 * f + k) := hR.2.2.2.2.2.2.2.2 k hk60
  refine r_aload_n F dX6_callFits_0 rfl ?_
  refine r_getS (ci := 7) (k := 0) (id := 700) (C := RX6) (T := TX6) (N := 13) F G rfl (by decide) (by decide) rfl (zinL inG7) (zin kf_X6_27) (fun _ h9 => h9) dX6_callFits_1 A0 Qo ?_
  refine r_aload_n F dX6_callFits_4 rfl ?_
  refine r_getS (ci := 7) (k := 6) (id := 706) (C := RX6) (T := TX6) (N := 13) F G rfl (by decide) (by decide) rfl (zinL inG7) (zin kf_X6_15) (fun _ h9 => h9) dX6_callFits_5 A0 Qn ?_
  refine r_iload_n F dX6_callFits_8 rfl ?_
  refine v_iald F G hH an rfl hkr.2.2.1 (by omega) (by omega) dX6_callFits_9 ?_
  rw [vn]
  refine c_Vq (ci := 10) F G (c_symbolAt hH hB.1 hU.1 rfl hku.1 hU.2.2.2 hku.2.2.2.2.2.1 hku.2.2.2.2.2.2 (fun i hi => kd_y (16 * (f / 8) + i) (by omega)) (by omega)) (cwV 1 F.2.2.2.2 (zgV km_X6_47 ki_X9_symbolAt ke_X9_X9_symbolAt kn_X9 ko_X9_symbolAt) rfl rfl rfl ⟨rfl, hd_yX9_symbolAt⟩ ⟨Nat.le_of_ble_eq_true rfl, Nat.le_of_ble_eq_true rfl⟩) rfl (by decide) U0 rfl rfl (Nat.le_of_ble_eq_true rfl) dX6_callFits_10 ⟨Nat.le_of_ble_eq_true rfl, Nat.le_of_ble_eq_true rfl⟩ (fun r10 S10 h10 => ?_)
  obtain ⟨h10a, h10⟩ := h10
  have h10c := h10a.symm
  subst h10c
  rcases h10 with ⟨j, hj, ej, h10r⟩ | ⟨h10n, h10r⟩
  · subst h10r
    have hY9 : (16 * (f / 8) + j) < 96 := by omega
    have hT9 : (16 * (f / 8) + j) % 16 < cn v 1204 ((16 * (f / 8) + j) / 16) := by rw [show (16 * (f / 8) + j) / 16 = f / 8 by omega]; omega
    have hYj := hB.2.2.2.2 (16 * (f / 8) + j) hY9 hT9
    have Y0 : zA S (ad (cY (16 * (f / 8) + j))) 9 := hH.al hYj.1 rfl (kd_y _ hY9)
    have eij : i = j := (nI_eq (by omega) (by omega)).mp (hai.symm.trans ej)
    subst eij
    refine r_astore_n (x := ad (cY (16 * (f / 8) + i))) F dX6_callFits_13 (by decide) ?_
    refine r_aload_n F dX6_callFits_14 rfl ?_
    refine r_iload_n F dX6_callFits_15 rfl ?_
    refine c_Vq (ci := 7) F G (c_targetOf hH hB hv hSr hA hf ht ea hk60 hi hai) (cwV 1 F.2.2.2.2 (zgV km_X6_73 ki_X6_targetOf ke_X6_X6_targetOf kn_X6 ko_X6_targetOf) rfl rfl rfl ⟨rfl, hd_yX6_targetOf⟩ ⟨Nat.le_of_ble_eq_true rfl, Nat.le_of_ble_eq_true rfl⟩) rfl (by decide) A0 rfl rfl (Nat.le_of_ble_eq_true rfl) dX6_callFits_16 ⟨Nat.le_of_ble_eq_true rfl, Nat.le_of_ble_eq_true rfl⟩ (fun r16 S16 h16 => ?_)
    obtain ⟨h16a, h16b⟩ := h16
    have h16c := h16b.symm
    subst h16c
    rcases hg : tgt v (16 * (f / 8) + i) with _ | g
    · rw [hg] at h16a
      subst h16a
      refine r_astore_nQ (x := none) F dX6_callFits_19 (by decide) ?_
      refine r_aload_n F dX6_callFits_20 rfl ?_
      refine r_ifnull F dX6_callFits_21 ?_
      refine r_aload_nQ (x := none) F dX6_callFits_24 rfl ?_
      refine r_ifnullN (tgt := 39) F dX6_callFits_25 (by decide) ?_
      refine r_iconst (v := 1) F dX6_callFits_39 (by decide) ?_
      refine r_goto (tgt := 44) F dX6_callFits_40 (by decide) ?_
      exact e_zret F hr rfl hlk ⟨zbo.y (fun g h9 => by cases h9), rfl⟩ (by decide) (by decide) dX6_callFits_44
    · rw [hg] at h16a
      subst h16a
      obtain ⟨g48, gth⟩ := tgt_t hv hD hY9 hT9 hg
      have G0 : zA S (ad (200 + 12 * g)) 7 := hH.al (hB.2.2.1 g g48 gth).1 rfl (kd_r g g48).1
      have hs1 := sh_le hv g48
      have hs2 := sg_le hv hD hY9 hT9
      refine r_astore_n (x := ad (200 + 12 * g)) F dX6_callFits_19 (by decide) ?_
      refine r_aload_n F dX6_callFits_20 rfl ?_
      refine r_ifnull F dX6_callFits_21 ?_
      refine r_aload_n F dX6_callFits_24 rfl ?_
      refine r_ifnull F dX6_callFits_25 ?_
      refine r_aload_n F dX6_callFits_28 rfl ?_
      refine c_Vi (ci := 7) F G (c_Rsig hH hB hv g48 gth rfl) (cwV 0 F.2.2.2.2 (zgV km_X6_77 ki_X6_signature ke_X6_X6_signature kn_X6 ko_X6_signature) rfl rfl rfl ⟨rfl, hd_yX6_signature⟩ ⟨Nat.le_of_ble_eq_true rfl, Nat.le_of_ble_eq_true rfl⟩) rfl (by decide) G0 rfl rfl (Nat.le_of_ble_eq_true rfl) dX6_callFits_29 ⟨Nat.le_of_ble_eq_true rfl, Nat.le_of_ble_eq_true rfl⟩ (fun r29 S29 h29 => ?_)
      obtain ⟨h29a, h29b⟩ := h29
      have h29c := h29b.symm
      subst h29c
      subst h29a
      refine r_aload_n F dX6_callFits_32 rfl ?_
      refine c_Vi (ci := 9) F G (c_Ysig hH hB hv hD hY9 hT9 rfl hk0) (cwV 0 F.2.2.2.2 (zgV km_X6_80 ki_X8_signature ke_X8_X8_signature kn_X8 ko_X8_signature) rfl rfl rfl ⟨rfl, hd_yX8_signature⟩ ⟨Nat.le_of_ble_eq_true rfl, Nat.le_of_ble_eq_true rfl⟩) rfl (by decide) Y0 rfl rfl (Nat.le_of_ble_eq_true rfl) dX6_callFits_33 ⟨Nat.le_of_ble_eq_true rfl, Nat.le_of_ble_eq_true rfl⟩ (fun r33 S33 h33 => ?_)
      obtain ⟨h33a, h33b⟩ := h33
      have h33c := h33b.symm
      subst h33c
      subst h33a
      refine r_icmp_ne (tgt := 43) F dX6_callFits_36 (by decide) (fun c36 => ?_) (fun c36 => ?_)
      · refine r_iconst (v := 0) F dX6_callFits_43 (by decide) ?_
        exact e_zret F hr rfl hlk ⟨zbo.n (fun h => c36 (by rw [h g rfl])), rfl⟩ (by decide) (by decide) dX6_callFits_44
      · refine r_iconst (v := 1) F dX6_callFits_39 (by decide) ?_
        refine r_goto (tgt := 44) F dX6_callFits_40 (by decide) ?_
        exact e_zret F hr rfl hlk ⟨zbo.y (fun g2 h9 => by cases h9; exact (nI_eq (by omega) (by omega)).mp c36), rfl⟩ (by decide) (by decide) dX6_callFits_44
  · exact absurd hai (h10n i hi)
set_option maxRecDepth 100000 in
set_option maxHeartbeats 4000000 in
theorem c_numberFits {l : Launch} {N0 t0 : Nat} {D : va_G} {cy : Nat → ClassId} {S : zS} {X : Nat → Prop} {S0 : zS} {ad : Nat → Nat} {W : zO} (hH : zH t0 X S0 ad W S) {v : zV} (hB : Bld v W) (hv : vRg v) (hA : vA v) {f a k : Nat} (hf : f < 48) (ht : f % 8 < cn v 1202 (f / 8)) (ea : ad (200 + 12 * f) = a) (hk60 : k < 60) : zMi l yX6_numberFits (zws yX6_numberFits cX6_numberFits 3 (some .boolean)) { frames := 5, cells := 0, slots := 0, locals := 110 } N0 t0 D cy S [.ref a, .int (nI k)] (fun r S' => zbo r (gW v f (cn v 1209 (60 * f + k)) (v.1 1210 (60 * f + k))) ∧ S' = S) 0 0 := by
  refine zMi.of (cc := cX6_numberFits) (maxL := 3) (ret := (some .boolean)) (by decide) rfl (Nat.le_of_ble_eq_true rfl) ?_
  intro p e s m args below meth c F G hr hlk hnm
  have hR := hB.2.2.1 f hf ht
  have hkr := kd_r f hf
  have A0 : zA S a 7 := hH.al hR.1 ea hkr.1
  have hfo := there_o hA hf ht
  have hU := hB.2.1 (f / 8) hfo
  have hku := kd_u (f / 8) (by omega)
  have hyb := (rg_1204 hv (k := f / 8) (by omega)).2
  have U0 : zA S (ad (100 + 8 * (f / 8))) 10 := hH.al hU.1 rfl hku.1
  have Qo : zq S 700 a = some (ad (100 + 8 * (f / 8))) := hH.qS hR.1 ea (by rw [hkr.1]; decide) hR.2.1 rfl
  have Qn : zq S 706 a = some (ad (200 + 12 * f + 4)) := hH.qS hR.1 ea (by rw [hkr.1]; decide) (hB.1.q hR.1 (by decide) hkr.1) rfl
  have an : oa W (200 + 12 * f + 4) := hB.1.a hR.1 (id := 706) (by decide) hkr.1
  have nn : onn W (200 + 12 * f + 4) = 60 := hB.1.n hR.1 (id := 706) (by decide) hkr.1 (by decide)
  have vn : ori W (200 + 12 * f + 4) k = v.1 1210 (60 * f + k) := hR.2.2.2.2.2.2.2.2 k hk60
  have Qw : zq S 705 a = some (ad (200 + 12 * f + 2)) := hH.qS hR.1 ea (by rw [hkr.1]; decide) (hB.1.q hR.1 (by decide) hkr.1) rfl
  have aw : oa W (200 + 12 * f + 2) := hB.1.a hR.1 (id := 705) (by decide) hkr.1
  have nw : onn W (200 + 12 * f + 2) = 60 := hB.1.n hR.1 (id := 705) (by decide) hkr.1 (by decide)
  have hwd := rg_1209 hv (k := 60 * f + k) (by omega)
  obtain ⟨w, ew⟩ : ∃ w, cn v 1209 (60 * f + k) = w := ⟨_, rfl⟩
  obtain ⟨x, ex⟩ : ∃ x, v.1 1210 (60 * f + k) = x := ⟨_, rfl⟩
  have hw : w < 36 := by have := hwd.2; omega
  have vw : ori W (200 + 12 * f + 2) k = nI w := (hR.2.2.2.2.2.2.2.1 k hk60).trans (by rw [← ew]; exact hwd.1)
  have h5 := rg_1205 hv hf
  have h7 := rg_1207 hv hf
  have h52 := h5.2
  have h72 := h7.2
  have I2 : zi S 702 a = nI (cn v 1205 f) := (hH.i hR.1 ea (by rw [hkr.1]; decide)).trans (hR.2.2.2.1.trans h5.1)
  have I4 : zi S 704 a = nI (cn v 1207 f) := (hH.i hR.1 ea (by rw [hkr.1]; decide)).trans (hR.2.2.2.2.2.1.trans h7.1)
  rw [ew, ex]
  refine r_aload_n F dX6_numberFits_0 rfl ?_
  refine r_getS (ci := 7) (k := 6) (id := 706) (C := RX6) (T := TX6) (N := 13) F G rfl (by decide) (by decide) rfl (zinL inG7) (zin kf_X6_15) (fun _ h9 => h9) dX6_numberFits_1 A0 Qn ?_
  refine r_iload_n F dX6_numberFits_4 rfl ?_
  refine v_iald F G hH an rfl hkr.2.2.1 (by omega) (by omega) dX6_numberFits_5 ?_
  rw [vn, ex]
  refine r_istore_n F dX6_numberFits_6 (by decide) ?_
  refine r_aload_n F dX6_numberFits_7 rfl ?_
  refine r_getS (ci := 7) (k := 5) (id := 705) (C := RX6) (T := TX6) (N := 13) F G rfl (by decide) (by decide) rfl (zinL inG7) (zin kf_X6_9) (fun _ h9 => h9) dX6_numberFits_8 A0 Qw ?_
  refine r_iload_n F dX6_numberFits_11 rfl ?_
  refine v_iald F G hH aw rfl hkr.2.1 (by omega) (by omega) dX6_numberFits_12 ?_
  rw [vw]
  rcases (show (w = 0 ∨ (3 ≤ w ∧ w ≤ 18) ∨ (26 ≤ w ∧ w ≤ 27) ∨ w = 30 ∨ w = 35) ∨ ((1 ≤ w ∧ w ≤ 2)) ∨ ((19 ≤ w ∧ w ≤ 22)) ∨ ((23 ≤ w ∧ w ≤ 25)) ∨ ((28 ≤ w ∧ w ≤ 29)) ∨ (w = 31 ∨ w = 34) ∨ (w = 32) ∨ (w = 33) by omega) with w13 | w13 | w13 | w13 | w13 | w13 | w13 | w13
  · refine r_table (off := 252) (tgt := 265) F dX6_numberFits_13 ((show ∀ w : Nat, w < 36 → (w = 0 ∨ (3 ≤ w ∧ w ≤ 18) ∨ (26 ≤ w ∧ w ≤ 27) ∨ w = 30 ∨ w = 35) → (if (nI w).toInt < 1 ∨ 34 < (nI w).toInt then some (252 : Int) else (#[151, 151, 252, 252, 252, 252, 252, 252, 252, 252, 252, 252, 252, 252, 252, 252, 252, 252, 174, 174, 174, 174, 191, 191, 191, 252, 252, 206, 206, 252, 222, 236, 229, 222] : Array Int)[((nI w).toInt - 1).toNat]?) = some (252 : Int) from by decide) w hw w13) (by decide) ?_
    refine r_iconst (v := 1) F dX6_numberFits_265 (by decide) ?_
    exact e_zret F hr rfl hlk ⟨zbo.y ⟨fun h9 => by omega, fun h9 => by omega, fun h9 => by omega, fun h9 => by omega, fun h9 => by omega, fun h9 => by omega, fun h9 => by omega⟩, rfl⟩ (by decide) (by decide) dX6_numberFits_266
  · refine r_table (off := 151) (tgt := 164) F dX6_numberFits_13 ((show ∀ w : Nat, w < 36 → ((1 ≤ w ∧ w ≤ 2)) → (if (nI w).toInt < 1 ∨ 34 < (nI w).toInt then some (252 : Int) else (#[151, 151, 252, 252, 252, 252, 252, 252, 252, 252, 252, 252, 252, 252, 252, 252, 252, 252, 174, 174, 174, 174, 191, 191, 191, 252, 252, 206, 206, 252, 222, 236, 229, 222] : Array Int)[((nI w).toInt - 1).toNat]?) = some (151 : Int) from by decide) w hw w13) (by decide) ?_
    refine r_iload_n F dX6_numberFits_164 rfl ?_
    refine r_if_lt (tgt := 185) F dX6_numberFits_165 (by decide) (fun c165 => ?_) (fun c165 => ?_)
    · refine r_iconst (v := 0) F dX6_numberFits_185 (by decide) ?_
      exact e_zret F hr rfl hlk ⟨zbo.n (fun h => by obtain ⟨j, q1, q2⟩ := h.1 (by omega); rw [q2] at c165; exact nI_pos (by omega) c165), rfl⟩ (by decide) (by decide) dX6_numberFits_186
    · refine r_iload_n F dX6_numberFits_168 rfl ?_
      refine r_aload_n F dX6_numberFits_169 rfl ?_
      refine r_getiS (ci := 7) (k := 2) (id := 702) (C := RX6) (T := TX6) (N := 13) F G rfl (by decide) (by decide) rfl (zinL inG7) (zin kf_X6_35) (fun _ h9 => h9) dX6_numberFits_170 A0 I2 ?_
      refine r_aload_n F dX6_numberFits_173 rfl ?_
      refine r_getiS (ci := 7) (k := 4) (id := 704) (C := RX6) (T := TX6) (N := 13) F G rfl (by decide) (by decide) rfl (zinL inG7) (zin kf_X6_41) (fun _ h9 => h9) dX6_numberFits_174 A0 I4 ?_
      refine r_iadd F dX6_numberFits_177 ?_
      rw [nI_add]
      refine r_icmp_ge (tgt := 185) F dX6_numberFits_178 (by decide) (fun c178 => ?_) (fun c178 => ?_)
      · refine r_iconst (v := 0) F dX6_numberFits_185 (by decide) ?_
        exact e_zret F hr rfl hlk ⟨zbo.n (fun h => by obtain ⟨j, q1, q2⟩ := h.1 (by omega); rw [q2, nI_leI (by omega) (by omega)] at c178; omega), rfl⟩ (by decide) (by decide) dX6_numberFits_186
      · refine r_iconst (v := 1) F dX6_numberFits_181 (by decide) ?_
        refine r_goto (tgt := 186) F dX6_numberFits_182 (by decide) ?_
        exact e_zret F hr rfl hlk ⟨zbo.y (by obtain ⟨j, hj, ej⟩ := nI_of c165; rw [ej, nI_leI (by omega) (by omega)] at c178; exact ⟨fun _ => ⟨j, by omega, ej⟩, fun h9 => by omega, fun h9 => by omega, fun h9 => by omega, fun h9 => by omega, fun h9 => by omega, fun h9 => by omega⟩), rfl⟩ (by decide) (by decide) dX6_numberFits_186
  · refine r_table (off := 174) (tgt := 187) F dX6_numberFits_13 ((show ∀ w : Nat, w < 36 → ((19 ≤ w ∧ w ≤ 22)) → (if (nI w).toInt < 1 ∨ 34 < (nI w).toInt then some (252 : Int) else (#[151, 151, 252, 252, 252, 252, 252, 252, 252, 252, 252, 252, 252, 252, 252, 252, 252, 252, 174, 174, 174, 174, 191, 191, 191, 252, 252, 206, 206, 252, 222, 236, 229, 222] : Array Int)[((nI w).toInt - 1).toNat]?) = some (174 : Int) from by decide) w hw w13) (by decide) ?_
    refine r_iload_n F dX6_numberFits_187 rfl ?_
    refine r_if_lt (tgt := 202) F dX6_numberFits_188 (by decide) (fun c188 => ?_) (fun c188 => ?_)
    · refine r_iconst (v := 0) F dX6_numberFits_202 (by decide) ?_
      exact e_zret F hr rfl hlk ⟨zbo.n (fun h => by obtain ⟨j, q1, q2⟩ := h.2.1 (by omega); rw [q2] at c188; exact nI_pos (by omega) c188), rfl⟩ (by decide) (by decide) dX6_numberFits_203
    · refine r_iload_n F dX6_numberFits_191 rfl ?_
      refine r_sipush (v := 1000) F dX6_numberFits_192 (by decide) ?_
      refine r_icmp_gt (tgt := 202) F dX6_numberFits_195 (by decide) (fun c195 => ?_) (fun c195 => ?_)
      · refine r_iconst (v := 0) F dX6_numberFits_202 (by decide) ?_
        exact e_zret F hr rfl hlk ⟨zbo.n (fun h => by obtain ⟨j, q1, q2⟩ := h.2.1 (by omega); rw [q2, show (1000 : Int32) = nI 1000 from rfl, nI_ltI (by omega) (by omega)] at c195; omega), rfl⟩ (by decide) (by decide) dX6_numberFits_203
      · refine r_iconst (v := 1) F dX6_numberFits_198 (by decide) ?_
        refine r_goto (tgt := 203) F dX6_numberFits_199 (by decide) ?_
        exact e_zret F hr rfl hlk ⟨zbo.y (by obtain ⟨j, hj, ej⟩ := nI_of c188; rw [ej, show (1000 : Int32) = nI 1000 from rfl, nI_ltI (by omega) (by omega)] at c195; exact ⟨fun h9 => by omega, fun _ => ⟨j, by omega, ej⟩, fun h9 => by omega, fun h9 => by omega, fun h9 => by omega, fun h9 => by omega, fun h9 => by omega⟩), rfl⟩ (by decide) (by decide) dX6_numberFits_203
  · refine r_table (off := 191) (tgt := 204) F dX6_numberFits_13 ((show ∀ w : Nat, w < 36 → ((23 ≤ w ∧ w ≤ 25)) → (if (nI w).toInt < 1 ∨ 34 < (nI w).toInt then some (252 : Int) else (#[151, 151, 252, 252, 252, 252, 252, 252, 252, 252, 252, 252, 252, 252, 252, 252, 252, 252, 174, 174, 174, 174, 191, 191, 191, 252, 252, 206, 206, 252, 222, 236, 229, 222] : Array Int)[((nI w).toInt - 1).toNat]?) = some (191 : Int) from by decide) w hw w13) (by decide) ?_
    refine r_iload_n F dX6_numberFits_204 rfl ?_
    refine r_if_eq (tgt := 213) F dX6_numberFits_205 (by decide) (fun c205 => ?_) (fun c205 => ?_)
    · refine r_iconst (v := 1) F dX6_numberFits_213 (by decide) ?_
      refine r_goto (tgt := 218) F dX6_numberFits_214 (by decide) ?_
      exact e_zret F hr rfl hlk ⟨zbo.y ⟨fun h9 => by omega, fun h9 => by omega, fun _ => ⟨0, by omega, c205⟩, fun h9 => by omega, fun h9 => by omega, fun h9 => by omega, fun h9 => by omega⟩, rfl⟩ (by decide) (by decide) dX6_numberFits_218
    · refine r_iload_n F dX6_numberFits_208 rfl ?_
      refine r_iconst (v := 1) F dX6_numberFits_209 (by decide) ?_
      refine r_icmp_ne (tgt := 217) F dX6_numberFits_210 (by decide) (fun c210 => ?_) (fun c210 => ?_)
      · refine r_iconst (v := 0) F dX6_numberFits_217 (by decide) ?_
        exact e_zret F hr rfl hlk ⟨zbo.n (fun h => by obtain ⟨j, q1, q2⟩ := h.2.2.1 (by omega); rcases (show j = 0 ∨ j = 1 by omega) with e | e <;> subst e; exact c205 q2; exact c210 q2), rfl⟩ (by decide) (by decide) dX6_numberFits_218
      · refine r_iconst (v := 1) F dX6_numberFits_213 (by decide) ?_
        refine r_goto (tgt := 218) F dX6_numberFits_214 (by decide) ?_
        exact e_zret F hr rfl hlk ⟨zbo.y ⟨fun h9 => by omega, fun h9 => by omega, fun _ => ⟨1, by omega, c210⟩, fun h9 => by omega, fun h9 => by omega, fun h9 => by omega, fun h9 => by omega⟩, rfl⟩ (by decide) (by decide) dX6_numberFits_218
  · refine r_table (off := 206) (tgt := 219) F dX6_numberFits_13 ((show ∀ w : Nat, w < 36 → ((28 ≤ w ∧ w ≤ 29)) → (if (nI w).toInt < 1 ∨ 34 < (nI w).toInt then some (252 : Int) else (#[151, 151, 252, 252, 252, 252, 252, 252, 252, 252, 252, 252, 252, 252, 252, 252, 252, 252, 174, 174, 174, 174, 191, 191, 191, 252, 252, 206, 206, 252, 222, 236, 229, 222] : Array Int)[((nI w).toInt - 1).toNat]?) = some (206 : Int) from by decide) w hw w13) (by decide) ?_
    refine r_iload_n F dX6_numberFits_219 rfl ?_
    refine r_if_lt (tgt := 233) F dX6_numberFits_220 (by decide) (fun c220 => ?_) (fun c220 => ?_)
    · refine r_iconst (v := 0) F dX6_numberFits_233 (by decide) ?_
      exact e_zret F hr rfl hlk ⟨zbo.n (fun h => by obtain ⟨j, q1, q2⟩ := h.2.2.2.1 (by omega); rw [q2] at c220; exact nI_pos (by omega) c220), rfl⟩ (by decide) (by decide) dX6_numberFits_234
    · refine r_iload_n F dX6_numberFits_223 rfl ?_
      refine r_bipush (v := 30) F dX6_numberFits_224 (by decide) ?_
      refine r_icmp_gt (tgt := 233) F dX6_numberFits_226 (by decide) (fun c226 => ?_) (fun c226 => ?_)
      · refine r_iconst (v := 0) F dX6_numberFits_233 (by decide) ?_
        exact e_zret F hr rfl hlk ⟨zbo.n (fun h => by obtain ⟨j, q1, q2⟩ := h.2.2.2.1 (by omega); rw [q2, show (30 : Int32) = nI 30 from rfl, nI_ltI (by omega) (by omega)] at c226; omega), rfl⟩ (by decide) (by decide) dX6_numberFits_234
      · refine r_iconst (v := 1) F dX6_numberFits_229 (by decide) ?_
        refine r_goto (tgt := 234) F dX6_numberFits_230 (by decide) ?_
        exact e_zret F hr rfl hlk ⟨zbo.y (by obtain ⟨j, hj, ej⟩ := nI_of c220; rw [ej, show (30 : Int32) = nI 30 from rfl, nI_ltI (by omega) (by omega)] at c226; exact ⟨fun h9 => by omega, fun h9 => by omega, fun h9 => by omega, fun _ => ⟨j, by omega, ej⟩, fun h9 => by omega, fun h9 => by omega, fun h9 => by omega⟩), rfl⟩ (by decide) (by decide) dX6_numberFits_234
  · refine r_table (off := 222) (tgt := 235) F dX6_numberFits_13 ((show ∀ w : Nat, w < 36 → (w = 31 ∨ w = 34) → (if (nI w).toInt < 1 ∨ 34 < (nI w).toInt then some (252 : Int) else (#[151, 151, 252, 252, 252, 252, 252, 252, 252, 252, 252, 252, 252, 252, 252, 252, 252, 252, 174, 174, 174, 174, 191, 191, 191, 252, 252, 206, 206, 252, 222, 236, 229, 222] : Array Int)[((nI w).toInt - 1).toNat]?) = some (222 : Int) from by decide) w hw w13) (by decide) ?_
    refine r_aload_n F dX6_numberFits_235 rfl ?_
    refine r_iload_n F dX6_numberFits_236 rfl ?_
    refine r_iconst (v := 0) F dX6_numberFits_237 (by decide) ?_
    refine c_Vi (ci := 7) F G (c_namesKind hH hB hv hA hf ht ea hk60) (cwV 2 F.2.2.2.2 (zgV km_X6_66 ki_X6_namesKind ke_X6_X6_namesKind kn_X6 ko_X6_namesKind) rfl rfl rfl ⟨rfl, hd_yX6_namesKind⟩ ⟨Nat.le_of_ble_eq_true rfl, Nat.le_of_ble_eq_true rfl⟩) rfl (by decide) A0 rfl rfl (Nat.le_of_ble_eq_true rfl) dX6_numberFits_238 ⟨Nat.le_of_ble_eq_true rfl, Nat.le_of_ble_eq_true rfl⟩ (fun r238 S238 h238 => ?_)
    obtain ⟨a238, e238⟩ := h238
    have hs238 := e238.symm
    subst hs238
    rw [ex] at a238
    exact e_zret F hr a238.nar hlk ⟨a238.iff ⟨fun q => ⟨fun h9 => by omega, fun h9 => by omega, fun h9 => by omega, fun h9 => by omega, fun _ => q, fun h9 => by omega, fun h9 => by omega⟩, fun h => h.2.2.2.2.1 (by omega)⟩, rfl⟩ (by decide) (by decide) dX6_numberFits_241
  · refine r_table (off := 236) (tgt := 249) F dX6_numberFits_13 ((show ∀ w : Nat, w < 36 → (w = 32) → (if (nI w).toInt < 1 ∨ 34 < (nI w).toInt then some (252 : Int) else (#[151, 151, 252, 252, 252, 252, 252, 252, 252, 252, 252, 252, 252, 252, 252, 252, 252, 252, 174, 174, 174, 174, 191, 191, 191, 252, 252, 206, 206, 252, 222, 236, 229, 222] : Array Int)[((nI w).toInt - 1).toNat]?) = some (236 : Int) from by decide) w hw w13) (by decide) ?_
    refine r_iload_n F dX6_numberFits_249 rfl ?_
    refine r_if_lt (tgt := 263) F dX6_numberFits_250 (by decide) (fun c250 => ?_) (fun c250 => ?_)
    · refine r_iconst (v := 0) F dX6_numberFits_263 (by decide) ?_
      exact e_zret F hr rfl hlk ⟨zbo.n (fun h => by obtain ⟨j, q1, q2⟩ := h.2.2.2.2.2.1 (by omega); rw [q2] at c250; exact nI_pos (by omega) c250), rfl⟩ (by decide) (by decide) dX6_numberFits_264
    · refine r_iload_n F dX6_numberFits_253 rfl ?_
      refine r_bipush (v := 10) F dX6_numberFits_254 (by decide) ?_
      refine r_icmp_ge (tgt := 263) F dX6_numberFits_256 (by decide) (fun c256 => ?_) (fun c256 => ?_)
      · refine r_iconst (v := 0) F dX6_numberFits_263 (by decide) ?_
        exact e_zret F hr rfl hlk ⟨zbo.n (fun h => by obtain ⟨j, q1, q2⟩ := h.2.2.2.2.2.1 (by omega); rw [q2, show (10 : Int32) = nI 10 from rfl, nI_leI (by omega) (by omega)] at c256; omega), rfl⟩ (by decide) (by decide) dX6_numberFits_264
      · refine r_iconst (v := 1) F dX6_numberFits_259 (by decide) ?_
        refine r_goto (tgt := 264) F dX6_numberFits_260 (by decide) ?_
        exact e_zret F hr rfl hlk ⟨zbo.y (by obtain ⟨j, hj, ej⟩ := nI_of c250; rw [ej, show (10 : Int32) = nI 10 from rfl, nI_leI (by omega) (by omega)] at c256; exact ⟨fun h9 => by omega, fun h9 => by omega, fun h9 => by omega, fun h9 => by omega, fun h9 => by omega, fun _ => ⟨j, by omega, ej⟩, fun h9 => by omega⟩), rfl⟩ (by decide) (by decide) dX6_numberFits_264
  · refine r_table (off := 229) (tgt := 242) F dX6_numberFits_13 ((show ∀ w : Nat, w < 36 → (w = 33) → (if (nI w).toInt < 1 ∨ 34 < (nI w).toInt then some (252 : Int) else (#[151, 151, 252, 252, 252, 252, 252, 252, 252, 252, 252, 252, 252, 252, 252, 252, 252, 252, 174, 174, 174, 174, 191, 191, 191, 252, 252, 206, 206, 252, 222, 236, 229, 222] : Array Int)[((nI w).toInt - 1).toNat]?) = some (229 : Int) from by decide) w hw w13) (by decide) ?_
    refine r_aload_n F dX6_numberFits_242 rfl ?_
    refine r_iload_n F dX6_numberFits_243 rfl ?_
    refine r_iconst (v := 1) F dX6_numberFits_244 (by decide) ?_
    refine c_Vi (ci := 7) F G (c_namesKind hH hB hv hA hf ht ea hk60) (cwV 2 F.2.2.2.2 (zgV km_X6_66 ki_X6_namesKind ke_X6_X6_namesKind kn_X6 ko_X6_namesKind) rfl rfl rfl ⟨rfl, hd_yX6_namesKind⟩ ⟨Nat.le_of_ble_eq_true rfl, Nat.le_of_ble_eq_true rfl⟩) rfl (by decide) A0 rfl rfl (Nat.le_of_ble_eq_true rfl) dX6_numberFits_245 ⟨Nat.le_of_ble_eq_true rfl, Nat.le_of_ble_eq_true rfl⟩ (fun r245 S245 h245 => ?_)
    obtain ⟨a245, e245⟩ := h245
    have hs245 := e245.symm
    subst hs245
    rw [ex] at a245
    exact e_zret F hr a245.nar hlk ⟨a245.iff ⟨fun q => ⟨fun h9 => by omega, fun h9 => by omega, fun h9 => by omega, fun h9 => by omega, fun h9 => by omega, fun h9 => by omega, fun _ => q⟩, fun h => h.2.2.2.2.2.2 (by omega)⟩, rfl⟩ (by decide) (by decide) dX6_numberFits_248
